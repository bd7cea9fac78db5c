theorem dX4_init_0 : decode cX4_init 0 = .ok (.aload_n 0, 1) := by decide +kernel
theorem dX4_init_1 : decode cX4_init 1 = .ok (.invokespecial 3, 3) := by decide +kernel
theorem dX4_init_4 : decode cX4_init 4 = .ok (.aload_n 0, 1) := by decide +kernel
theorem dX4_init_5 : decode cX4_init 5 = .ok (.bipush 10, 2) := by decide +kernel
theorem dX4_init_7 : decode cX4_init 7 = .ok (.anewarray 9, 3) := by decide +kernel
theorem dX4_init_10 : decode cX4_init 10 = .ok (.putfield 11, 3) := by decide +kernel
theorem dX4_init_13 : decode cX4_init 13 = .ok (.aload_n 0, 1) := by decide +kernel
theorem dX4_init_14 : decode cX4_init 14 = .ok (.new 9, 3) := by decide +kernel
theorem dX4_init_17 : decode cX4_init 17 = .ok (.dup, 1) := by decide +kernel
theorem dX4_init_18 : decode cX4_init 18 = .ok (.invokespecial 17, 3) := by decide +kernel
theorem dX4_init_21 : decode cX4_init 21 = .ok (.putfield 18, 3) := by decide +kernel
theorem dX4_init_24 : decode cX4_init 24 = .ok (.aload_n 0, 1) := by decide +kernel
theorem dX4_init_25 : decode cX4_init 25 = .ok (.bipush 8, 2) := by decide +kernel
theorem dX4_init_27 : decode cX4_init 27 = .ok (.putfield 22, 3) := by decide +kernel
theorem dX4_init_30 : decode cX4_init 30 = .ok (.aload_n 0, 1) := by decide +kernel
theorem dX4_init_31 : decode cX4_init 31 = .ok (.bipush 8, 2) := by decide +kernel
theorem dX4_init_33 : decode cX4_init 33 = .ok (.putfield 26, 3) := by decide +kernel
theorem dX4_init_36 : decode cX4_init 36 = .ok (.aload_n 0, 1) := by decide +kernel
theorem dX4_init_37 : decode cX4_init 37 = .ok (.iconst 3, 1) := by decide +kernel
theorem dX4_init_38 : decode cX4_init 38 = .ok (.putfield 29, 3) := by decide +kernel
theorem dX4_init_41 : decode cX4_init 41 = .ok (.aload_n 0, 1) := by decide +kernel
theorem dX4_init_42 : decode cX4_init 42 = .ok (.iconst 1, 1) := by decide +kernel
theorem dX4_init_43 : decode cX4_init 43 = .ok (.putfield 32, 3) := by decide +kernel
theorem dX4_init_46 : decode cX4_init 46 = .ok (.iconst 0, 1) := by decide +kernel
theorem dX4_init_47 : decode cX4_init 47 = .ok (.istore_n 1, 1) := by decide +kernel
theorem dX4_init_48 : decode cX4_init 48 = .ok (.iload_n 1, 1) := by decide +kernel
theorem dX4_init_49 : decode cX4_init 49 = .ok (.aload_n 0, 1) := by decide +kernel
theorem dX4_init_50 : decode cX4_init 50 = .ok (.getfield 11, 3) := by decide +kernel
theorem dX4_init_53 : decode cX4_init 53 = .ok (.arraylength, 1) := by decide +kernel
theorem dX4_init_54 : decode cX4_init 54 = .ok (.if_icmp .ge 22, 3) := by decide +kernel
theorem dX4_init_57 : decode cX4_init 57 = .ok (.aload_n 0, 1) := by decide +kernel
theorem dX4_init_58 : decode cX4_init 58 = .ok (.getfield 11, 3) := by decide +kernel
theorem dX4_init_61 : decode cX4_init 61 = .ok (.iload_n 1, 1) := by decide +kernel
theorem dX4_init_62 : decode cX4_init 62 = .ok (.new 9, 3) := by decide +kernel
theorem dX4_init_65 : decode cX4_init 65 = .ok (.dup, 1) := by decide +kernel
theorem dX4_init_66 : decode cX4_init 66 = .ok (.invokespecial 17, 3) := by decide +kernel
theorem dX4_init_69 : decode cX4_init 69 = .ok (.aastore, 1) := by decide +kernel
theorem dX4_init_70 : decode cX4_init 70 = .ok (.iinc 1 1, 3) := by decide +kernel
theorem dX4_init_73 : decode cX4_init 73 = .ok (.goto (-25), 3) := by decide +kernel
theorem dX4_init_76 : decode cX4_init 76 = .ok (.return_, 1) := by decide +kernel
theorem dX4_become_0 : decode cX4_become 0 = .ok (.aload_n 0, 1) := by decide +kernel
theorem dX4_become_1 : decode cX4_become 1 = .ok (.aload_n 1, 1) := by decide +kernel
theorem dX4_become_2 : decode cX4_become 2 = .ok (.getfield 35, 3) := by decide +kernel
theorem dX4_become_5 : decode cX4_become 5 = .ok (.putfield 35, 3) := by decide +kernel
theorem dX4_become_8 : decode cX4_become 8 = .ok (.aload_n 0, 1) := by decide +kernel
theorem dX4_become_9 : decode cX4_become 9 = .ok (.aload_n 1, 1) := by decide +kernel
theorem dX4_become_10 : decode cX4_become 10 = .ok (.getfield 22, 3) := by decide +kernel
theorem dX4_become_13 : decode cX4_become 13 = .ok (.putfield 22, 3) := by decide +kernel
theorem dX4_become_16 : decode cX4_become 16 = .ok (.aload_n 0, 1) := by decide +kernel
theorem dX4_become_17 : decode cX4_become 17 = .ok (.aload_n 1, 1) := by decide +kernel
theorem dX4_become_18 : decode cX4_become 18 = .ok (.getfield 38, 3) := by decide +kernel
theorem dX4_become_21 : decode cX4_become 21 = .ok (.putfield 38, 3) := by decide +kernel
theorem dX4_become_24 : decode cX4_become 24 = .ok (.aload_n 0, 1) := by decide +kernel
theorem dX4_become_25 : decode cX4_become 25 = .ok (.aload_n 1, 1) := by decide +kernel
theorem dX4_become_26 : decode cX4_become 26 = .ok (.getfield 26, 3) := by decide +kernel
theorem dX4_become_29 : decode cX4_become 29 = .ok (.putfield 26, 3) := by decide +kernel
theorem dX4_become_32 : decode cX4_become 32 = .ok (.aload_n 0, 1) := by decide +kernel
theorem dX4_become_33 : decode cX4_become 33 = .ok (.aload_n 1, 1) := by decide +kernel
theorem dX4_become_34 : decode cX4_become 34 = .ok (.getfield 29, 3) := by decide +kernel
theorem dX4_become_37 : decode cX4_become 37 = .ok (.putfield 29, 3) := by decide +kernel
theorem dX4_become_40 : decode cX4_become 40 = .ok (.aload_n 0, 1) := by decide +kernel
theorem dX4_become_41 : decode cX4_become 41 = .ok (.aload_n 1, 1) := by decide +kernel
theorem dX4_become_42 : decode cX4_become 42 = .ok (.getfield 41, 3) := by decide +kernel
theorem dX4_become_45 : decode cX4_become 45 = .ok (.putfield 41, 3) := by decide +kernel
theorem dX4_become_48 : decode cX4_become 48 = .ok (.aload_n 0, 1) := by decide +kernel
theorem dX4_become_49 : decode cX4_become 49 = .ok (.aload_n 1, 1) := by decide +kernel
theorem dX4_become_50 : decode cX4_become 50 = .ok (.getfield 32, 3) := by decide +kernel
theorem dX4_become_53 : decode cX4_become 53 = .ok (.putfield 32, 3) := by decide +kernel
theorem dX4_become_56 : decode cX4_become 56 = .ok (.iconst 0, 1) := by decide +kernel
theorem dX4_become_57 : decode cX4_become 57 = .ok (.istore_n 2, 1) := by decide +kernel
theorem dX4_become_58 : decode cX4_become 58 = .ok (.iload_n 2, 1) := by decide +kernel
theorem dX4_become_59 : decode cX4_become 59 = .ok (.aload_n 0, 1) := by decide +kernel
theorem dX4_become_60 : decode cX4_become 60 = .ok (.getfield 35, 3) := by decide +kernel
theorem dX4_become_63 : decode cX4_become 63 = .ok (.if_icmp .ge 22, 3) := by decide +kernel
theorem dX4_become_66 : decode cX4_become 66 = .ok (.aload_n 0, 1) := by decide +kernel
theorem dX4_become_67 : decode cX4_become 67 = .ok (.iload_n 2, 1) := by decide +kernel
theorem dX4_become_68 : decode cX4_become 68 = .ok (.invokevirtual 44, 3) := by decide +kernel
theorem dX4_become_71 : decode cX4_become 71 = .ok (.aload_n 1, 1) := by decide +kernel
theorem dX4_become_72 : decode cX4_become 72 = .ok (.iload_n 2, 1) := by decide +kernel
theorem dX4_become_73 : decode cX4_become 73 = .ok (.invokevirtual 44, 3) := by decide +kernel
theorem dX4_become_76 : decode cX4_become 76 = .ok (.invokevirtual 48, 3) := by decide +kernel
theorem dX4_become_79 : decode cX4_become 79 = .ok (.iinc 2 1, 3) := by decide +kernel
theorem dX4_become_82 : decode cX4_become 82 = .ok (.goto (-24), 3) := by decide +kernel
theorem dX4_become_85 : decode cX4_become 85 = .ok (.return_, 1) := by decide +kernel
theorem dX4_has_0 : decode cX4_has 0 = .ok (.iload_n 1, 1) := by decide +kernel
theorem dX4_has_1 : decode cX4_has 1 = .ok (.ifCond .lt 15, 3) := by decide +kernel
theorem dX4_has_4 : decode cX4_has 4 = .ok (.iload_n 1, 1) := by decide +kernel
theorem dX4_has_5 : decode cX4_has 5 = .ok (.aload_n 0, 1) := by decide +kernel
theorem dX4_has_6 : decode cX4_has 6 = .ok (.getfield 35, 3) := by decide +kernel
theorem dX4_has_9 : decode cX4_has 9 = .ok (.if_icmp .ge 7, 3) := by decide +kernel
theorem dX4_has_12 : decode cX4_has 12 = .ok (.iconst 1, 1) := by decide +kernel
theorem dX4_has_13 : decode cX4_has 13 = .ok (.goto 4, 3) := by decide +kernel
theorem dX4_has_16 : decode cX4_has 16 = .ok (.iconst 0, 1) := by decide +kernel
theorem dX4_has_17 : decode cX4_has 17 = .ok (.ireturn, 1) := by decide +kernel
theorem dX4_isFull_0 : decode cX4_isFull 0 = .ok (.aload_n 0, 1) := by decide +kernel
theorem dX4_isFull_1 : decode cX4_isFull 1 = .ok (.getfield 35, 3) := by decide +kernel
theorem dX4_isFull_4 : decode cX4_isFull 4 = .ok (.bipush 10, 2) := by decide +kernel
theorem dX4_isFull_6 : decode cX4_isFull 6 = .ok (.if_icmp .lt 7, 3) := by decide +kernel
theorem dX4_isFull_9 : decode cX4_isFull 9 = .ok (.iconst 1, 1) := by decide +kernel
theorem dX4_isFull_10 : decode cX4_isFull 10 = .ok (.goto 4, 3) := by decide +kernel
theorem dX4_isFull_13 : decode cX4_isFull 13 = .ok (.iconst 0, 1) := by decide +kernel
theorem dX4_isFull_14 : decode cX4_isFull 14 = .ok (.ireturn, 1) := by decide +kernel
theorem dX4_one_0 : decode cX4_one 0 = .ok (.iload_n 1, 1) := by decide +kernel
theorem dX4_one_1 : decode cX4_one 1 = .ok (.ifCond .lt 21, 3) := by decide +kernel
theorem dX4_one_4 : decode cX4_one 4 = .ok (.iload_n 1, 1) := by decide +kernel
theorem dX4_one_5 : decode cX4_one 5 = .ok (.aload_n 0, 1) := by decide +kernel
theorem dX4_one_6 : decode cX4_one 6 = .ok (.getfield 11, 3) := by decide +kernel
theorem dX4_one_9 : decode cX4_one 9 = .ok (.arraylength, 1) := by decide +kernel
theorem dX4_one_10 : decode cX4_one 10 = .ok (.if_icmp .ge 12, 3) := by decide +kernel
theorem dX4_one_13 : decode cX4_one 13 = .ok (.aload_n 0, 1) := by decide +kernel
theorem dX4_one_14 : decode cX4_one 14 = .ok (.getfield 11, 3) := by decide +kernel
theorem dX4_one_17 : decode cX4_one 17 = .ok (.iload_n 1, 1) := by decide +kernel
theorem dX4_one_18 : decode cX4_one 18 = .ok (.aaload, 1) := by decide +kernel
theorem dX4_one_19 : decode cX4_one 19 = .ok (.goto 7, 3) := by decide +kernel
theorem dX4_one_22 : decode cX4_one 22 = .ok (.aload_n 0, 1) := by decide +kernel
theorem dX4_one_23 : decode cX4_one 23 = .ok (.getfield 18, 3) := by decide +kernel
theorem dX4_one_26 : decode cX4_one 26 = .ok (.areturn, 1) := by decide +kernel
theorem dX4_enrol_0 : decode cX4_enrol 0 = .ok (.aload_n 0, 1) := by decide +kernel
theorem dX4_enrol_1 : decode cX4_enrol 1 = .ok (.aload_n 0, 1) := by decide +kernel
theorem dX4_enrol_2 : decode cX4_enrol 2 = .ok (.getfield 35, 3) := by decide +kernel
theorem dX4_enrol_5 : decode cX4_enrol 5 = .ok (.invokevirtual 44, 3) := by decide +kernel
theorem dX4_enrol_8 : decode cX4_enrol 8 = .ok (.iload_n 1, 1) := by decide +kernel
theorem dX4_enrol_9 : decode cX4_enrol 9 = .ok (.iload_n 2, 1) := by decide +kernel
theorem dX4_enrol_10 : decode cX4_enrol 10 = .ok (.iload_n 3, 1) := by decide +kernel
theorem dX4_enrol_11 : decode cX4_enrol 11 = .ok (.iload 4, 2) := by decide +kernel
theorem dX4_enrol_13 : decode cX4_enrol 13 = .ok (.invokevirtual 52, 3) := by decide +kernel
theorem dX4_enrol_16 : decode cX4_enrol 16 = .ok (.aload_n 0, 1) := by decide +kernel
theorem dX4_enrol_17 : decode cX4_enrol 17 = .ok (.dup, 1) := by decide +kernel
theorem dX4_enrol_18 : decode cX4_enrol 18 = .ok (.getfield 35, 3) := by decide +kernel
theorem dX4_enrol_21 : decode cX4_enrol 21 = .ok (.iconst 1, 1) := by decide +kernel
theorem dX4_enrol_22 : decode cX4_enrol 22 = .ok (.iadd, 1) := by decide +kernel
theorem dX4_enrol_23 : decode cX4_enrol 23 = .ok (.putfield 35, 3) := by decide +kernel
theorem dX4_enrol_26 : decode cX4_enrol 26 = .ok (.aload_n 0, 1) := by decide +kernel
theorem dX4_enrol_27 : decode cX4_enrol 27 = .ok (.getfield 35, 3) := by decide +kernel
theorem dX4_enrol_30 : decode cX4_enrol 30 = .ok (.iconst 1, 1) := by decide +kernel
theorem dX4_enrol_31 : decode cX4_enrol 31 = .ok (.isub, 1) := by decide +kernel
theorem dX4_enrol_32 : decode cX4_enrol 32 = .ok (.ireturn, 1) := by decide +kernel
theorem dX4_setting_0 : decode cX4_setting 0 = .ok (.iload_n 1, 1) := by decide +kernel
theorem dX4_setting_1 : decode cX4_setting 1 = .ok (.tableswitch 42 0 2 #[27, 32, 37], 27) := by decide +kernel
theorem dX4_setting_28 : decode cX4_setting 28 = .ok (.aload_n 0, 1) := by decide +kernel
theorem dX4_setting_29 : decode cX4_setting 29 = .ok (.getfield 22, 3) := by decide +kernel
theorem dX4_setting_32 : decode cX4_setting 32 = .ok (.ireturn, 1) := by decide +kernel
theorem dX4_setting_33 : decode cX4_setting 33 = .ok (.aload_n 0, 1) := by decide +kernel
theorem dX4_setting_34 : decode cX4_setting 34 = .ok (.getfield 38, 3) := by decide +kernel
theorem dX4_setting_37 : decode cX4_setting 37 = .ok (.ireturn, 1) := by decide +kernel
theorem dX4_setting_38 : decode cX4_setting 38 = .ok (.aload_n 0, 1) := by decide +kernel
theorem dX4_setting_39 : decode cX4_setting 39 = .ok (.getfield 26, 3) := by decide +kernel
theorem dX4_setting_42 : decode cX4_setting 42 = .ok (.ireturn, 1) := by decide +kernel
theorem dX4_setting_43 : decode cX4_setting 43 = .ok (.aload_n 0, 1) := by decide +kernel
theorem dX4_setting_44 : decode cX4_setting 44 = .ok (.getfield 29, 3) := by decide +kernel
theorem dX4_setting_47 : decode cX4_setting 47 = .ok (.ireturn, 1) := by decide +kernel
theorem dX4_settle_0 : decode cX4_settle 0 = .ok (.iload_n 1, 1) := by decide +kernel
theorem dX4_settle_1 : decode cX4_settle 1 = .ok (.tableswitch 51 0 2 #[27, 35, 43], 27) := by decide +kernel
theorem dX4_settle_28 : decode cX4_settle 28 = .ok (.aload_n 0, 1) := by decide +kernel
theorem dX4_settle_29 : decode cX4_settle 29 = .ok (.iload_n 2, 1) := by decide +kernel
theorem dX4_settle_30 : decode cX4_settle 30 = .ok (.putfield 22, 3) := by decide +kernel
theorem dX4_settle_33 : decode cX4_settle 33 = .ok (.goto 24, 3) := by decide +kernel
theorem dX4_settle_36 : decode cX4_settle 36 = .ok (.aload_n 0, 1) := by decide +kernel
theorem dX4_settle_37 : decode cX4_settle 37 = .ok (.iload_n 2, 1) := by decide +kernel
theorem dX4_settle_38 : decode cX4_settle 38 = .ok (.putfield 38, 3) := by decide +kernel
theorem dX4_settle_41 : decode cX4_settle 41 = .ok (.goto 16, 3) := by decide +kernel
theorem dX4_settle_44 : decode cX4_settle 44 = .ok (.aload_n 0, 1) := by decide +kernel
theorem dX4_settle_45 : decode cX4_settle 45 = .ok (.iload_n 2, 1) := by decide +kernel
theorem dX4_settle_46 : decode cX4_settle 46 = .ok (.putfield 26, 3) := by decide +kernel
theorem dX4_settle_49 : decode cX4_settle 49 = .ok (.goto 8, 3) := by decide +kernel
theorem dX4_settle_52 : decode cX4_settle 52 = .ok (.aload_n 0, 1) := by decide +kernel
theorem dX4_settle_53 : decode cX4_settle 53 = .ok (.iload_n 2, 1) := by decide +kernel
theorem dX4_settle_54 : decode cX4_settle 54 = .ok (.putfield 29, 3) := by decide +kernel
theorem dX4_settle_57 : decode cX4_settle 57 = .ok (.return_, 1) := by decide +kernel
theorem dX4_dismissFrom_0 : decode cX4_dismissFrom 0 = .ok (.iconst 0, 1) := by decide +kernel
theorem dX4_dismissFrom_1 : decode cX4_dismissFrom 1 = .ok (.iload_n 1, 1) := by decide +kernel
theorem dX4_dismissFrom_2 : decode cX4_dismissFrom 2 = .ok (.invokestatic 56, 3) := by decide +kernel
theorem dX4_dismissFrom_5 : decode cX4_dismissFrom 5 = .ok (.istore_n 2, 1) := by decide +kernel
theorem dX4_dismissFrom_6 : decode cX4_dismissFrom 6 = .ok (.iload_n 2, 1) := by decide +kernel
theorem dX4_dismissFrom_7 : decode cX4_dismissFrom 7 = .ok (.aload_n 0, 1) := by decide +kernel
theorem dX4_dismissFrom_8 : decode cX4_dismissFrom 8 = .ok (.getfield 35, 3) := by decide +kernel
theorem dX4_dismissFrom_11 : decode cX4_dismissFrom 11 = .ok (.if_icmp .ge 18, 3) := by decide +kernel
theorem dX4_dismissFrom_14 : decode cX4_dismissFrom 14 = .ok (.aload_n 0, 1) := by decide +kernel
theorem dX4_dismissFrom_15 : decode cX4_dismissFrom 15 = .ok (.iload_n 2, 1) := by decide +kernel
theorem dX4_dismissFrom_16 : decode cX4_dismissFrom 16 = .ok (.invokevirtual 44, 3) := by decide +kernel
theorem dX4_dismissFrom_19 : decode cX4_dismissFrom 19 = .ok (.iconst 1, 1) := by decide +kernel
theorem dX4_dismissFrom_20 : decode cX4_dismissFrom 20 = .ok (.putfield 62, 3) := by decide +kernel
theorem dX4_dismissFrom_23 : decode cX4_dismissFrom 23 = .ok (.iinc 2 1, 3) := by decide +kernel
theorem dX4_dismissFrom_26 : decode cX4_dismissFrom 26 = .ok (.goto (-20), 3) := by decide +kernel
theorem dX4_dismissFrom_29 : decode cX4_dismissFrom 29 = .ok (.return_, 1) := by decide +kernel
theorem dX4_payForAll_0 : decode cX4_payForAll 0 = .ok (.iconst 0, 1) := by decide +kernel
theorem dX4_payForAll_1 : decode cX4_payForAll 1 = .ok (.istore_n 2, 1) := by decide +kernel
theorem dX4_payForAll_2 : decode cX4_payForAll 2 = .ok (.iload_n 2, 1) := by decide +kernel
theorem dX4_payForAll_3 : decode cX4_payForAll 3 = .ok (.aload_n 0, 1) := by decide +kernel
theorem dX4_payForAll_4 : decode cX4_payForAll 4 = .ok (.getfield 35, 3) := by decide +kernel
theorem dX4_payForAll_7 : decode cX4_payForAll 7 = .ok (.if_icmp .ge 18, 3) := by decide +kernel
theorem dX4_payForAll_10 : decode cX4_payForAll 10 = .ok (.aload_n 0, 1) := by decide +kernel
theorem dX4_payForAll_11 : decode cX4_payForAll 11 = .ok (.iload_n 2, 1) := by decide +kernel
theorem dX4_payForAll_12 : decode cX4_payForAll 12 = .ok (.invokevirtual 44, 3) := by decide +kernel
theorem dX4_payForAll_15 : decode cX4_payForAll 15 = .ok (.iload_n 1, 1) := by decide +kernel
theorem dX4_payForAll_16 : decode cX4_payForAll 16 = .ok (.putfield 66, 3) := by decide +kernel
theorem dX4_payForAll_19 : decode cX4_payForAll 19 = .ok (.iinc 2 1, 3) := by decide +kernel
theorem dX4_payForAll_22 : decode cX4_payForAll 22 = .ok (.goto (-20), 3) := by decide +kernel
theorem dX4_payForAll_25 : decode cX4_payForAll 25 = .ok (.return_, 1) := by decide +kernel
theorem dX4_present_0 : decode cX4_present 0 = .ok (.iconst 0, 1) := by decide +kernel
theorem dX4_present_1 : decode cX4_present 1 = .ok (.istore_n 1, 1) := by decide +kernel
theorem dX4_present_2 : decode cX4_present 2 = .ok (.iconst 0, 1) := by decide +kernel
theorem dX4_present_3 : decode cX4_present 3 = .ok (.istore_n 2, 1) := by decide +kernel
theorem dX4_present_4 : decode cX4_present 4 = .ok (.iload_n 2, 1) := by decide +kernel
theorem dX4_present_5 : decode cX4_present 5 = .ok (.aload_n 0, 1) := by decide +kernel
theorem dX4_present_6 : decode cX4_present 6 = .ok (.getfield 35, 3) := by decide +kernel
theorem dX4_present_9 : decode cX4_present 9 = .ok (.if_icmp .ge 26, 3) := by decide +kernel
theorem dX4_present_12 : decode cX4_present 12 = .ok (.aload_n 0, 1) := by decide +kernel
theorem dX4_present_13 : decode cX4_present 13 = .ok (.iload_n 2, 1) := by decide +kernel
theorem dX4_present_14 : decode cX4_present 14 = .ok (.invokevirtual 44, 3) := by decide +kernel
theorem dX4_present_17 : decode cX4_present 17 = .ok (.getfield 62, 3) := by decide +kernel
theorem dX4_present_20 : decode cX4_present 20 = .ok (.ifCond .ne 9, 3) := by decide +kernel
theorem dX4_present_23 : decode cX4_present 23 = .ok (.iload_n 1, 1) := by decide +kernel
theorem dX4_present_24 : decode cX4_present 24 = .ok (.iconst 1, 1) := by decide +kernel
theorem dX4_present_25 : decode cX4_present 25 = .ok (.iload_n 2, 1) := by decide +kernel
theorem dX4_present_26 : decode cX4_present 26 = .ok (.ishl, 1) := by decide +kernel
theorem dX4_present_27 : decode cX4_present 27 = .ok (.ior, 1) := by decide +kernel
theorem dX4_present_28 : decode cX4_present 28 = .ok (.istore_n 1, 1) := by decide +kernel
theorem dX4_present_29 : decode cX4_present 29 = .ok (.iinc 2 1, 3) := by decide +kernel
theorem dX4_present_32 : decode cX4_present 32 = .ok (.goto (-28), 3) := by decide +kernel
theorem dX4_present_35 : decode cX4_present 35 = .ok (.iload_n 1, 1) := by decide +kernel
theorem dX4_present_36 : decode cX4_present 36 = .ok (.ireturn, 1) := by decide +kernel
theorem dX4_comingsTogether_0 : decode cX4_comingsTogether 0 = .ok (.iconst 0, 1) := by decide +kernel
theorem dX4_comingsTogether_1 : decode cX4_comingsTogether 1 = .ok (.istore_n 1, 1) := by decide +kernel
theorem dX4_comingsTogether_2 : decode cX4_comingsTogether 2 = .ok (.iconst 0, 1) := by decide +kernel
theorem dX4_comingsTogether_3 : decode cX4_comingsTogether 3 = .ok (.istore_n 2, 1) := by decide +kernel
theorem dX4_comingsTogether_4 : decode cX4_comingsTogether 4 = .ok (.iload_n 2, 1) := by decide +kernel
theorem dX4_comingsTogether_5 : decode cX4_comingsTogether 5 = .ok (.aload_n 0, 1) := by decide +kernel
theorem dX4_comingsTogether_6 : decode cX4_comingsTogether 6 = .ok (.getfield 35, 3) := by decide +kernel
theorem dX4_comingsTogether_9 : decode cX4_comingsTogether 9 = .ok (.if_icmp .ge 20, 3) := by decide +kernel
theorem dX4_comingsTogether_12 : decode cX4_comingsTogether 12 = .ok (.iload_n 1, 1) := by decide +kernel
theorem dX4_comingsTogether_13 : decode cX4_comingsTogether 13 = .ok (.aload_n 0, 1) := by decide +kernel
theorem dX4_comingsTogether_14 : decode cX4_comingsTogether 14 = .ok (.iload_n 2, 1) := by decide +kernel
theorem dX4_comingsTogether_15 : decode cX4_comingsTogether 15 = .ok (.invokevirtual 44, 3) := by decide +kernel
theorem dX4_comingsTogether_18 : decode cX4_comingsTogether 18 = .ok (.getfield 69, 3) := by decide +kernel
theorem dX4_comingsTogether_21 : decode cX4_comingsTogether 21 = .ok (.iadd, 1) := by decide +kernel
theorem dX4_comingsTogether_22 : decode cX4_comingsTogether 22 = .ok (.istore_n 1, 1) := by decide +kernel
theorem dX4_comingsTogether_23 : decode cX4_comingsTogether 23 = .ok (.iinc 2 1, 3) := by decide +kernel
theorem dX4_comingsTogether_26 : decode cX4_comingsTogether 26 = .ok (.goto (-22), 3) := by decide +kernel
theorem dX4_comingsTogether_29 : decode cX4_comingsTogether 29 = .ok (.iload_n 1, 1) := by decide +kernel
theorem dX4_comingsTogether_30 : decode cX4_comingsTogether 30 = .ok (.ireturn, 1) := by decide +kernel
theorem dX4_pullOn_0 : decode cX4_pullOn 0 = .ok (.aload_n 0, 1) := by decide +kernel
theorem dX4_pullOn_1 : decode cX4_pullOn 1 = .ok (.iload_n 1, 1) := by decide +kernel
theorem dX4_pullOn_2 : decode cX4_pullOn 2 = .ok (.invokevirtual 44, 3) := by decide +kernel
theorem dX4_pullOn_5 : decode cX4_pullOn 5 = .ok (.aload_n 0, 1) := by decide +kernel
theorem dX4_pullOn_6 : decode cX4_pullOn 6 = .ok (.getfield 22, 3) := by decide +kernel
theorem dX4_pullOn_9 : decode cX4_pullOn 9 = .ok (.aload_n 0, 1) := by decide +kernel
theorem dX4_pullOn_10 : decode cX4_pullOn 10 = .ok (.getfield 38, 3) := by decide +kernel
theorem dX4_pullOn_13 : decode cX4_pullOn 13 = .ok (.aload_n 0, 1) := by decide +kernel
theorem dX4_pullOn_14 : decode cX4_pullOn 14 = .ok (.getfield 41, 3) := by decide +kernel
theorem dX4_pullOn_17 : decode cX4_pullOn 17 = .ok (.invokevirtual 72, 3) := by decide +kernel
theorem dX4_pullOn_20 : decode cX4_pullOn 20 = .ok (.ireturn, 1) := by decide +kernel
theorem dX4_comers_0 : decode cX4_comers 0 = .ok (.iconst 0, 1) := by decide +kernel
theorem dX4_comers_1 : decode cX4_comers 1 = .ok (.istore_n 2, 1) := by decide +kernel
theorem dX4_comers_2 : decode cX4_comers 2 = .ok (.iload_n 2, 1) := by decide +kernel
theorem dX4_comers_3 : decode cX4_comers 3 = .ok (.aload_n 0, 1) := by decide +kernel
theorem dX4_comers_4 : decode cX4_comers 4 = .ok (.getfield 35, 3) := by decide +kernel
theorem dX4_comers_7 : decode cX4_comers 7 = .ok (.if_icmp .ge 36, 3) := by decide +kernel
theorem dX4_comers_10 : decode cX4_comers 10 = .ok (.aload_n 0, 1) := by decide +kernel
theorem dX4_comers_11 : decode cX4_comers 11 = .ok (.iload_n 2, 1) := by decide +kernel
theorem dX4_comers_12 : decode cX4_comers 12 = .ok (.invokevirtual 44, 3) := by decide +kernel
theorem dX4_comers_15 : decode cX4_comers 15 = .ok (.aload_n 0, 1) := by decide +kernel
theorem dX4_comers_16 : decode cX4_comers 16 = .ok (.iload_n 2, 1) := by decide +kernel
theorem dX4_comers_17 : decode cX4_comers 17 = .ok (.invokevirtual 76, 3) := by decide +kernel
theorem dX4_comers_20 : decode cX4_comers 20 = .ok (.iload_n 1, 1) := by decide +kernel
theorem dX4_comers_21 : decode cX4_comers 21 = .ok (.iload_n 2, 1) := by decide +kernel
theorem dX4_comers_22 : decode cX4_comers 22 = .ok (.invokestatic 79, 3) := by decide +kernel
theorem dX4_comers_25 : decode cX4_comers 25 = .ok (.ifCond .eq 7, 3) := by decide +kernel
theorem dX4_comers_28 : decode cX4_comers 28 = .ok (.iconst 4, 1) := by decide +kernel
theorem dX4_comers_29 : decode cX4_comers 29 = .ok (.goto 4, 3) := by decide +kernel
theorem dX4_comers_32 : decode cX4_comers 32 = .ok (.iconst 0, 1) := by decide +kernel
theorem dX4_comers_33 : decode cX4_comers 33 = .ok (.iadd, 1) := by decide +kernel
theorem dX4_comers_34 : decode cX4_comers 34 = .ok (.putfield 83, 3) := by decide +kernel
theorem dX4_comers_37 : decode cX4_comers 37 = .ok (.iinc 2 1, 3) := by decide +kernel
theorem dX4_comers_40 : decode cX4_comers 40 = .ok (.goto (-38), 3) := by decide +kernel
theorem dX4_comers_43 : decode cX4_comers 43 = .ok (.aload_n 0, 1) := by decide +kernel
theorem dX4_comers_44 : decode cX4_comers 44 = .ok (.invokevirtual 86, 3) := by decide +kernel
theorem dX4_comers_47 : decode cX4_comers 47 = .ok (.istore_n 2, 1) := by decide +kernel
theorem dX4_comers_48 : decode cX4_comers 48 = .ok (.iconst 0, 1) := by decide +kernel
theorem dX4_comers_49 : decode cX4_comers 49 = .ok (.istore_n 3, 1) := by decide +kernel
theorem dX4_comers_50 : decode cX4_comers 50 = .ok (.iload_n 3, 1) := by decide +kernel
theorem dX4_comers_51 : decode cX4_comers 51 = .ok (.bipush 10, 2) := by decide +kernel
theorem dX4_comers_53 : decode cX4_comers 53 = .ok (.if_icmp .gt 28, 3) := by decide +kernel
theorem dX4_comers_56 : decode cX4_comers 56 = .ok (.aload_n 0, 1) := by decide +kernel
theorem dX4_comers_57 : decode cX4_comers 57 = .ok (.iload_n 2, 1) := by decide +kernel
theorem dX4_comers_58 : decode cX4_comers 58 = .ok (.invokevirtual 90, 3) := by decide +kernel
theorem dX4_comers_61 : decode cX4_comers 61 = .ok (.istore 4, 2) := by decide +kernel
theorem dX4_comers_63 : decode cX4_comers 63 = .ok (.iload 4, 2) := by decide +kernel
theorem dX4_comers_65 : decode cX4_comers 65 = .ok (.iload_n 2, 1) := by decide +kernel
theorem dX4_comers_66 : decode cX4_comers 66 = .ok (.if_icmp .ne 6, 3) := by decide +kernel
theorem dX4_comers_69 : decode cX4_comers 69 = .ok (.goto 12, 3) := by decide +kernel
theorem dX4_comers_72 : decode cX4_comers 72 = .ok (.iload 4, 2) := by decide +kernel
theorem dX4_comers_74 : decode cX4_comers 74 = .ok (.istore_n 2, 1) := by decide +kernel
theorem dX4_comers_75 : decode cX4_comers 75 = .ok (.iinc 3 1, 3) := by decide +kernel
theorem dX4_comers_78 : decode cX4_comers 78 = .ok (.goto (-28), 3) := by decide +kernel
theorem dX4_comers_81 : decode cX4_comers 81 = .ok (.iload_n 2, 1) := by decide +kernel
theorem dX4_comers_82 : decode cX4_comers 82 = .ok (.ireturn, 1) := by decide +kernel
theorem dX4_stillComing_0 : decode cX4_stillComing 0 = .ok (.iconst 0, 1) := by decide +kernel
theorem dX4_stillComing_1 : decode cX4_stillComing 1 = .ok (.istore_n 2, 1) := by decide +kernel
theorem dX4_stillComing_2 : decode cX4_stillComing 2 = .ok (.iconst 0, 1) := by decide +kernel
theorem dX4_stillComing_3 : decode cX4_stillComing 3 = .ok (.istore_n 3, 1) := by decide +kernel
theorem dX4_stillComing_4 : decode cX4_stillComing 4 = .ok (.iload_n 3, 1) := by decide +kernel
theorem dX4_stillComing_5 : decode cX4_stillComing 5 = .ok (.aload_n 0, 1) := by decide +kernel
theorem dX4_stillComing_6 : decode cX4_stillComing 6 = .ok (.getfield 35, 3) := by decide +kernel
theorem dX4_stillComing_9 : decode cX4_stillComing 9 = .ok (.if_icmp .ge 36, 3) := by decide +kernel
theorem dX4_stillComing_12 : decode cX4_stillComing 12 = .ok (.iload_n 1, 1) := by decide +kernel
theorem dX4_stillComing_13 : decode cX4_stillComing 13 = .ok (.iload_n 3, 1) := by decide +kernel
theorem dX4_stillComing_14 : decode cX4_stillComing 14 = .ok (.invokestatic 79, 3) := by decide +kernel
theorem dX4_stillComing_17 : decode cX4_stillComing 17 = .ok (.ifCond .eq 22, 3) := by decide +kernel
theorem dX4_stillComing_20 : decode cX4_stillComing 20 = .ok (.aload_n 0, 1) := by decide +kernel
theorem dX4_stillComing_21 : decode cX4_stillComing 21 = .ok (.aload_n 0, 1) := by decide +kernel
theorem dX4_stillComing_22 : decode cX4_stillComing 22 = .ok (.iload_n 3, 1) := by decide +kernel
theorem dX4_stillComing_23 : decode cX4_stillComing 23 = .ok (.invokevirtual 44, 3) := by decide +kernel
theorem dX4_stillComing_26 : decode cX4_stillComing 26 = .ok (.iload_n 1, 1) := by decide +kernel
theorem dX4_stillComing_27 : decode cX4_stillComing 27 = .ok (.invokevirtual 93, 3) := by decide +kernel
theorem dX4_stillComing_30 : decode cX4_stillComing 30 = .ok (.ifCond .eq 9, 3) := by decide +kernel
theorem dX4_stillComing_33 : decode cX4_stillComing 33 = .ok (.iload_n 2, 1) := by decide +kernel
theorem dX4_stillComing_34 : decode cX4_stillComing 34 = .ok (.iconst 1, 1) := by decide +kernel
theorem dX4_stillComing_35 : decode cX4_stillComing 35 = .ok (.iload_n 3, 1) := by decide +kernel
theorem dX4_stillComing_36 : decode cX4_stillComing 36 = .ok (.ishl, 1) := by decide +kernel
theorem dX4_stillComing_37 : decode cX4_stillComing 37 = .ok (.ior, 1) := by decide +kernel
theorem dX4_stillComing_38 : decode cX4_stillComing 38 = .ok (.istore_n 2, 1) := by decide +kernel
theorem dX4_stillComing_39 : decode cX4_stillComing 39 = .ok (.iinc 3 1, 3) := by decide +kernel
theorem dX4_stillComing_42 : decode cX4_stillComing 42 = .ok (.goto (-38), 3) := by decide +kernel
theorem dX4_stillComing_45 : decode cX4_stillComing 45 = .ok (.iload_n 2, 1) := by decide +kernel
theorem dX4_stillComing_46 : decode cX4_stillComing 46 = .ok (.ireturn, 1) := by decide +kernel
theorem dX4_comesWith_0 : decode cX4_comesWith 0 = .ok (.iload_n 2, 1) := by decide +kernel
theorem dX4_comesWith_1 : decode cX4_comesWith 1 = .ok (.aload_n 1, 1) := by decide +kernel
theorem dX4_comesWith_2 : decode cX4_comesWith 2 = .ok (.getfield 97, 3) := by decide +kernel
theorem dX4_comesWith_5 : decode cX4_comesWith 5 = .ok (.invokestatic 79, 3) := by decide +kernel
theorem dX4_comesWith_8 : decode cX4_comesWith 8 = .ok (.ifCond .ne 33, 3) := by decide +kernel
theorem dX4_comesWith_11 : decode cX4_comesWith 11 = .ok (.aload_n 1, 1) := by decide +kernel
theorem dX4_comesWith_12 : decode cX4_comesWith 12 = .ok (.getfield 83, 3) := by decide +kernel
theorem dX4_comesWith_15 : decode cX4_comesWith 15 = .ok (.ifCond .le 24, 3) := by decide +kernel
theorem dX4_comesWith_18 : decode cX4_comesWith 18 = .ok (.aload_n 1, 1) := by decide +kernel
theorem dX4_comesWith_19 : decode cX4_comesWith 19 = .ok (.getfield 100, 3) := by decide +kernel
theorem dX4_comesWith_22 : decode cX4_comesWith 22 = .ok (.bipush 6, 2) := by decide +kernel
theorem dX4_comesWith_24 : decode cX4_comesWith 24 = .ok (.if_icmp .ne 11, 3) := by decide +kernel
theorem dX4_comesWith_27 : decode cX4_comesWith 27 = .ok (.aload_n 1, 1) := by decide +kernel
theorem dX4_comesWith_28 : decode cX4_comesWith 28 = .ok (.getfield 97, 3) := by decide +kernel
theorem dX4_comesWith_31 : decode cX4_comesWith 31 = .ok (.iconst (-1), 1) := by decide +kernel
theorem dX4_comesWith_32 : decode cX4_comesWith 32 = .ok (.if_icmp .ne 7, 3) := by decide +kernel
theorem dX4_comesWith_35 : decode cX4_comesWith 35 = .ok (.iconst 1, 1) := by decide +kernel
theorem dX4_comesWith_36 : decode cX4_comesWith 36 = .ok (.goto 4, 3) := by decide +kernel
theorem dX4_comesWith_39 : decode cX4_comesWith 39 = .ok (.iconst 0, 1) := by decide +kernel
theorem dX4_comesWith_40 : decode cX4_comesWith 40 = .ok (.ireturn, 1) := by decide +kernel
theorem dX4_comesWith_41 : decode cX4_comesWith 41 = .ok (.aload_n 0, 1) := by decide +kernel
theorem dX4_comesWith_42 : decode cX4_comesWith 42 = .ok (.aload_n 1, 1) := by decide +kernel
theorem dX4_comesWith_43 : decode cX4_comesWith 43 = .ok (.getfield 97, 3) := by decide +kernel
theorem dX4_comesWith_46 : decode cX4_comesWith 46 = .ok (.invokevirtual 44, 3) := by decide +kernel
theorem dX4_comesWith_49 : decode cX4_comesWith 49 = .ok (.getfield 100, 3) := by decide +kernel
theorem dX4_comesWith_52 : decode cX4_comesWith 52 = .ok (.iconst 3, 1) := by decide +kernel
theorem dX4_comesWith_53 : decode cX4_comesWith 53 = .ok (.invokestatic 103, 3) := by decide +kernel
theorem dX4_comesWith_56 : decode cX4_comesWith 56 = .ok (.ifCond .eq 8, 3) := by decide +kernel
theorem dX4_comesWith_59 : decode cX4_comesWith 59 = .ok (.bipush 6, 2) := by decide +kernel
theorem dX4_comesWith_61 : decode cX4_comesWith 61 = .ok (.goto 4, 3) := by decide +kernel
theorem dX4_comesWith_64 : decode cX4_comesWith 64 = .ok (.iconst 3, 1) := by decide +kernel
theorem dX4_comesWith_65 : decode cX4_comesWith 65 = .ok (.istore_n 3, 1) := by decide +kernel
theorem dX4_comesWith_66 : decode cX4_comesWith 66 = .ok (.aload_n 1, 1) := by decide +kernel
theorem dX4_comesWith_67 : decode cX4_comesWith 67 = .ok (.getfield 83, 3) := by decide +kernel
theorem dX4_comesWith_70 : decode cX4_comesWith 70 = .ok (.iload_n 3, 1) := by decide +kernel
theorem dX4_comesWith_71 : decode cX4_comesWith 71 = .ok (.iadd, 1) := by decide +kernel
theorem dX4_comesWith_72 : decode cX4_comesWith 72 = .ok (.ifCond .le 7, 3) := by decide +kernel
theorem dX4_comesWith_75 : decode cX4_comesWith 75 = .ok (.iconst 1, 1) := by decide +kernel
theorem dX4_comesWith_76 : decode cX4_comesWith 76 = .ok (.goto 4, 3) := by decide +kernel
theorem dX4_comesWith_79 : decode cX4_comesWith 79 = .ok (.iconst 0, 1) := by decide +kernel
theorem dX4_comesWith_80 : decode cX4_comesWith 80 = .ok (.ireturn, 1) := by decide +kernel
theorem dX4_seatedOf_0 : decode cX4_seatedOf 0 = .ok (.iconst 0, 1) := by decide +kernel
theorem dX4_seatedOf_1 : decode cX4_seatedOf 1 = .ok (.istore_n 2, 1) := by decide +kernel
theorem dX4_seatedOf_2 : decode cX4_seatedOf 2 = .ok (.aload_n 0, 1) := by decide +kernel
theorem dX4_seatedOf_3 : decode cX4_seatedOf 3 = .ok (.getfield 26, 3) := by decide +kernel
theorem dX4_seatedOf_6 : decode cX4_seatedOf 6 = .ok (.istore_n 3, 1) := by decide +kernel
theorem dX4_seatedOf_7 : decode cX4_seatedOf 7 = .ok (.iconst 0, 1) := by decide +kernel
theorem dX4_seatedOf_8 : decode cX4_seatedOf 8 = .ok (.istore 4, 2) := by decide +kernel
theorem dX4_seatedOf_10 : decode cX4_seatedOf 10 = .ok (.iload 4, 2) := by decide +kernel
theorem dX4_seatedOf_12 : decode cX4_seatedOf 12 = .ok (.aload_n 0, 1) := by decide +kernel
theorem dX4_seatedOf_13 : decode cX4_seatedOf 13 = .ok (.getfield 35, 3) := by decide +kernel
theorem dX4_seatedOf_16 : decode cX4_seatedOf 16 = .ok (.if_icmp .ge 32, 3) := by decide +kernel
theorem dX4_seatedOf_19 : decode cX4_seatedOf 19 = .ok (.iload_n 3, 1) := by decide +kernel
theorem dX4_seatedOf_20 : decode cX4_seatedOf 20 = .ok (.ifCond .le 28, 3) := by decide +kernel
theorem dX4_seatedOf_23 : decode cX4_seatedOf 23 = .ok (.iload_n 1, 1) := by decide +kernel
theorem dX4_seatedOf_24 : decode cX4_seatedOf 24 = .ok (.iload 4, 2) := by decide +kernel
theorem dX4_seatedOf_26 : decode cX4_seatedOf 26 = .ok (.invokestatic 79, 3) := by decide +kernel
theorem dX4_seatedOf_29 : decode cX4_seatedOf 29 = .ok (.ifCond .eq 13, 3) := by decide +kernel
theorem dX4_seatedOf_32 : decode cX4_seatedOf 32 = .ok (.iload_n 2, 1) := by decide +kernel
theorem dX4_seatedOf_33 : decode cX4_seatedOf 33 = .ok (.iconst 1, 1) := by decide +kernel
theorem dX4_seatedOf_34 : decode cX4_seatedOf 34 = .ok (.iload 4, 2) := by decide +kernel
theorem dX4_seatedOf_36 : decode cX4_seatedOf 36 = .ok (.ishl, 1) := by decide +kernel
theorem dX4_seatedOf_37 : decode cX4_seatedOf 37 = .ok (.ior, 1) := by decide +kernel
theorem dX4_seatedOf_38 : decode cX4_seatedOf 38 = .ok (.istore_n 2, 1) := by decide +kernel
theorem dX4_seatedOf_39 : decode cX4_seatedOf 39 = .ok (.iinc 3 (-1), 3) := by decide +kernel
theorem dX4_seatedOf_42 : decode cX4_seatedOf 42 = .ok (.iinc 4 1, 3) := by decide +kernel
theorem dX4_seatedOf_45 : decode cX4_seatedOf 45 = .ok (.goto (-35), 3) := by decide +kernel
theorem dX4_seatedOf_48 : decode cX4_seatedOf 48 = .ok (.iload_n 2, 1) := by decide +kernel
theorem dX4_seatedOf_49 : decode cX4_seatedOf 49 = .ok (.ireturn, 1) := by decide +kernel
theorem dX4_endEvening_0 : decode cX4_endEvening 0 = .ok (.iconst 0, 1) := by decide +kernel
theorem dX4_endEvening_1 : decode cX4_endEvening 1 = .ok (.istore_n 2, 1) := by decide +kernel
theorem dX4_endEvening_2 : decode cX4_endEvening 2 = .ok (.iload_n 2, 1) := by decide +kernel
theorem dX4_endEvening_3 : decode cX4_endEvening 3 = .ok (.aload_n 0, 1) := by decide +kernel
theorem dX4_endEvening_4 : decode cX4_endEvening 4 = .ok (.getfield 35, 3) := by decide +kernel
theorem dX4_endEvening_7 : decode cX4_endEvening 7 = .ok (.if_icmp .ge 47, 3) := by decide +kernel
theorem dX4_endEvening_10 : decode cX4_endEvening 10 = .ok (.iload_n 1, 1) := by decide +kernel
theorem dX4_endEvening_11 : decode cX4_endEvening 11 = .ok (.iload_n 2, 1) := by decide +kernel
theorem dX4_endEvening_12 : decode cX4_endEvening 12 = .ok (.invokestatic 79, 3) := by decide +kernel
theorem dX4_endEvening_15 : decode cX4_endEvening 15 = .ok (.ifCond .eq 14, 3) := by decide +kernel
theorem dX4_endEvening_18 : decode cX4_endEvening 18 = .ok (.aload_n 0, 1) := by decide +kernel
theorem dX4_endEvening_19 : decode cX4_endEvening 19 = .ok (.iload_n 2, 1) := by decide +kernel
theorem dX4_endEvening_20 : decode cX4_endEvening 20 = .ok (.invokevirtual 44, 3) := by decide +kernel
theorem dX4_endEvening_23 : decode cX4_endEvening 23 = .ok (.invokevirtual 106, 3) := by decide +kernel
theorem dX4_endEvening_26 : decode cX4_endEvening 26 = .ok (.goto 22, 3) := by decide +kernel
theorem dX4_endEvening_29 : decode cX4_endEvening 29 = .ok (.aload_n 0, 1) := by decide +kernel
theorem dX4_endEvening_30 : decode cX4_endEvening 30 = .ok (.iload_n 2, 1) := by decide +kernel
theorem dX4_endEvening_31 : decode cX4_endEvening 31 = .ok (.invokevirtual 44, 3) := by decide +kernel
theorem dX4_endEvening_34 : decode cX4_endEvening 34 = .ok (.getfield 62, 3) := by decide +kernel
theorem dX4_endEvening_37 : decode cX4_endEvening 37 = .ok (.ifCond .ne 11, 3) := by decide +kernel
theorem dX4_endEvening_40 : decode cX4_endEvening 40 = .ok (.aload_n 0, 1) := by decide +kernel
theorem dX4_endEvening_41 : decode cX4_endEvening 41 = .ok (.iload_n 2, 1) := by decide +kernel
theorem dX4_endEvening_42 : decode cX4_endEvening 42 = .ok (.invokevirtual 44, 3) := by decide +kernel
theorem dX4_endEvening_45 : decode cX4_endEvening 45 = .ok (.invokevirtual 109, 3) := by decide +kernel
theorem dX4_endEvening_48 : decode cX4_endEvening 48 = .ok (.iinc 2 1, 3) := by decide +kernel
theorem dX4_endEvening_51 : decode cX4_endEvening 51 = .ok (.goto (-49), 3) := by decide +kernel
theorem dX4_endEvening_54 : decode cX4_endEvening 54 = .ok (.aload_n 0, 1) := by decide +kernel
theorem dX4_endEvening_55 : decode cX4_endEvening 55 = .ok (.dup, 1) := by decide +kernel
theorem dX4_endEvening_56 : decode cX4_endEvening 56 = .ok (.getfield 41, 3) := by decide +kernel
theorem dX4_endEvening_59 : decode cX4_endEvening 59 = .ok (.iconst 1, 1) := by decide +kernel
theorem dX4_endEvening_60 : decode cX4_endEvening 60 = .ok (.iadd, 1) := by decide +kernel
theorem dX4_endEvening_61 : decode cX4_endEvening 61 = .ok (.putfield 41, 3) := by decide +kernel
theorem dX4_endEvening_64 : decode cX4_endEvening 64 = .ok (.return_, 1) := by decide +kernel
theorem dX4_draw_0 : decode cX4_draw 0 = .ok (.aload_n 0, 1) := by decide +kernel
theorem dX4_draw_1 : decode cX4_draw 1 = .ok (.aload_n 0, 1) := by decide +kernel
theorem dX4_draw_2 : decode cX4_draw 2 = .ok (.getfield 32, 3) := by decide +kernel
theorem dX4_draw_5 : decode cX4_draw 5 = .ok (.ldc 112, 2) := by decide +kernel
theorem dX4_draw_7 : decode cX4_draw 7 = .ok (.imul, 1) := by decide +kernel
theorem dX4_draw_8 : decode cX4_draw 8 = .ok (.sipush 12345, 3) := by decide +kernel
theorem dX4_draw_11 : decode cX4_draw 11 = .ok (.iadd, 1) := by decide +kernel
theorem dX4_draw_12 : decode cX4_draw 12 = .ok (.putfield 32, 3) := by decide +kernel
theorem dX4_draw_15 : decode cX4_draw 15 = .ok (.iload_n 1, 1) := by decide +kernel
theorem dX4_draw_16 : decode cX4_draw 16 = .ok (.ifCond .le 15, 3) := by decide +kernel
theorem dX4_draw_19 : decode cX4_draw 19 = .ok (.aload_n 0, 1) := by decide +kernel
theorem dX4_draw_20 : decode cX4_draw 20 = .ok (.getfield 32, 3) := by decide +kernel
theorem dX4_draw_23 : decode cX4_draw 23 = .ok (.bipush 16, 2) := by decide +kernel
theorem dX4_draw_25 : decode cX4_draw 25 = .ok (.iushr, 1) := by decide +kernel
theorem dX4_draw_26 : decode cX4_draw 26 = .ok (.iload_n 1, 1) := by decide +kernel
theorem dX4_draw_27 : decode cX4_draw 27 = .ok (.irem, 1) := by decide +kernel
theorem dX4_draw_28 : decode cX4_draw 28 = .ok (.goto 4, 3) := by decide +kernel
theorem dX4_draw_31 : decode cX4_draw 31 = .ok (.iconst 0, 1) := by decide +kernel
theorem dX4_draw_32 : decode cX4_draw 32 = .ok (.ireturn, 1) := by decide +kernel
