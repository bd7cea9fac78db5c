theorem dX3_init_0 : decode cX3_init 0 = .ok (.aload_n 0, 1) := by decide +kernel
theorem dX3_init_1 : decode cX3_init 1 = .ok (.invokespecial 3, 3) := by decide +kernel
theorem dX3_init_4 : decode cX3_init 4 = .ok (.aload_n 0, 1) := by decide +kernel
theorem dX3_init_5 : decode cX3_init 5 = .ok (.new 9, 3) := by decide +kernel
theorem dX3_init_8 : decode cX3_init 8 = .ok (.dup, 1) := by decide +kernel
theorem dX3_init_9 : decode cX3_init 9 = .ok (.invokespecial 11, 3) := by decide +kernel
theorem dX3_init_12 : decode cX3_init 12 = .ok (.putfield 12, 3) := by decide +kernel
theorem dX3_init_15 : decode cX3_init 15 = .ok (.aload_n 0, 1) := by decide +kernel
theorem dX3_init_16 : decode cX3_init 16 = .ok (.iconst (-1), 1) := by decide +kernel
theorem dX3_init_17 : decode cX3_init 17 = .ok (.putfield 18, 3) := by decide +kernel
theorem dX3_init_20 : decode cX3_init 20 = .ok (.aload_n 0, 1) := by decide +kernel
theorem dX3_init_21 : decode cX3_init 21 = .ok (.sipush 160, 3) := by decide +kernel
theorem dX3_init_24 : decode cX3_init 24 = .ok (.newarray .int, 2) := by decide +kernel
theorem dX3_init_26 : decode cX3_init 26 = .ok (.putfield 22, 3) := by decide +kernel
theorem dX3_init_29 : decode cX3_init 29 = .ok (.return_, 1) := by decide +kernel
theorem dX3_read_0 : decode cX3_read 0 = .ok (.aload_n 0, 1) := by decide +kernel
theorem dX3_read_1 : decode cX3_read 1 = .ok (.getfield 12, 3) := by decide +kernel
theorem dX3_read_4 : decode cX3_read 4 = .ok (.aload_n 2, 1) := by decide +kernel
theorem dX3_read_5 : decode cX3_read 5 = .ok (.invokevirtual 26, 3) := by decide +kernel
theorem dX3_read_8 : decode cX3_read 8 = .ok (.aload_n 0, 1) := by decide +kernel
theorem dX3_read_9 : decode cX3_read 9 = .ok (.aload_n 1, 1) := by decide +kernel
theorem dX3_read_10 : decode cX3_read 10 = .ok (.getfield 30, 3) := by decide +kernel
theorem dX3_read_13 : decode cX3_read 13 = .ok (.putfield 35, 3) := by decide +kernel
theorem dX3_read_16 : decode cX3_read 16 = .ok (.iconst 0, 1) := by decide +kernel
theorem dX3_read_17 : decode cX3_read 17 = .ok (.istore_n 3, 1) := by decide +kernel
theorem dX3_read_18 : decode cX3_read 18 = .ok (.iload_n 3, 1) := by decide +kernel
theorem dX3_read_19 : decode cX3_read 19 = .ok (.aload_n 0, 1) := by decide +kernel
theorem dX3_read_20 : decode cX3_read 20 = .ok (.getfield 22, 3) := by decide +kernel
theorem dX3_read_23 : decode cX3_read 23 = .ok (.arraylength, 1) := by decide +kernel
theorem dX3_read_24 : decode cX3_read 24 = .ok (.if_icmp .ge 20, 3) := by decide +kernel
theorem dX3_read_27 : decode cX3_read 27 = .ok (.aload_n 0, 1) := by decide +kernel
theorem dX3_read_28 : decode cX3_read 28 = .ok (.getfield 22, 3) := by decide +kernel
theorem dX3_read_31 : decode cX3_read 31 = .ok (.iload_n 3, 1) := by decide +kernel
theorem dX3_read_32 : decode cX3_read 32 = .ok (.aload_n 1, 1) := by decide +kernel
theorem dX3_read_33 : decode cX3_read 33 = .ok (.iload_n 3, 1) := by decide +kernel
theorem dX3_read_34 : decode cX3_read 34 = .ok (.invokevirtual 36, 3) := by decide +kernel
theorem dX3_read_37 : decode cX3_read 37 = .ok (.iastore, 1) := by decide +kernel
theorem dX3_read_38 : decode cX3_read 38 = .ok (.iinc 3 1, 3) := by decide +kernel
theorem dX3_read_41 : decode cX3_read 41 = .ok (.goto (-23), 3) := by decide +kernel
theorem dX3_read_44 : decode cX3_read 44 = .ok (.aload_n 0, 1) := by decide +kernel
theorem dX3_read_45 : decode cX3_read 45 = .ok (.iconst 0, 1) := by decide +kernel
theorem dX3_read_46 : decode cX3_read 46 = .ok (.putfield 40, 3) := by decide +kernel
theorem dX3_read_49 : decode cX3_read 49 = .ok (.aload_n 0, 1) := by decide +kernel
theorem dX3_read_50 : decode cX3_read 50 = .ok (.iconst (-1), 1) := by decide +kernel
theorem dX3_read_51 : decode cX3_read 51 = .ok (.putfield 18, 3) := by decide +kernel
theorem dX3_read_54 : decode cX3_read 54 = .ok (.iconst 1, 1) := by decide +kernel
theorem dX3_read_55 : decode cX3_read 55 = .ok (.istore_n 3, 1) := by decide +kernel
theorem dX3_read_56 : decode cX3_read 56 = .ok (.iload_n 3, 1) := by decide +kernel
theorem dX3_read_57 : decode cX3_read 57 = .ok (.sipush 160, 3) := by decide +kernel
theorem dX3_read_60 : decode cX3_read 60 = .ok (.if_icmp .gt 42, 3) := by decide +kernel
theorem dX3_read_63 : decode cX3_read 63 = .ok (.aload_n 0, 1) := by decide +kernel
theorem dX3_read_64 : decode cX3_read 64 = .ok (.invokevirtual 43, 3) := by decide +kernel
theorem dX3_read_67 : decode cX3_read 67 = .ok (.ifCond .ne 5, 3) := by decide +kernel
theorem dX3_read_70 : decode cX3_read 70 = .ok (.iconst (-1), 1) := by decide +kernel
theorem dX3_read_71 : decode cX3_read 71 = .ok (.ireturn, 1) := by decide +kernel
theorem dX3_read_72 : decode cX3_read 72 = .ok (.aload_n 0, 1) := by decide +kernel
theorem dX3_read_73 : decode cX3_read 73 = .ok (.getfield 40, 3) := by decide +kernel
theorem dX3_read_76 : decode cX3_read 76 = .ok (.aload_n 0, 1) := by decide +kernel
theorem dX3_read_77 : decode cX3_read 77 = .ok (.getfield 35, 3) := by decide +kernel
theorem dX3_read_80 : decode cX3_read 80 = .ok (.if_icmp .lt 5, 3) := by decide +kernel
theorem dX3_read_83 : decode cX3_read 83 = .ok (.iload_n 3, 1) := by decide +kernel
theorem dX3_read_84 : decode cX3_read 84 = .ok (.ireturn, 1) := by decide +kernel
theorem dX3_read_85 : decode cX3_read 85 = .ok (.aload_n 0, 1) := by decide +kernel
theorem dX3_read_86 : decode cX3_read 86 = .ok (.bipush 59, 2) := by decide +kernel
theorem dX3_read_88 : decode cX3_read 88 = .ok (.invokevirtual 47, 3) := by decide +kernel
theorem dX3_read_91 : decode cX3_read 91 = .ok (.ifCond .ne 5, 3) := by decide +kernel
theorem dX3_read_94 : decode cX3_read 94 = .ok (.iconst (-1), 1) := by decide +kernel
theorem dX3_read_95 : decode cX3_read 95 = .ok (.ireturn, 1) := by decide +kernel
theorem dX3_read_96 : decode cX3_read 96 = .ok (.iinc 3 1, 3) := by decide +kernel
theorem dX3_read_99 : decode cX3_read 99 = .ok (.goto (-43), 3) := by decide +kernel
theorem dX3_read_102 : decode cX3_read 102 = .ok (.iconst (-1), 1) := by decide +kernel
theorem dX3_read_103 : decode cX3_read 103 = .ok (.ireturn, 1) := by decide +kernel
theorem dX3_readItem_0 : decode cX3_readItem 0 = .ok (.aload_n 0, 1) := by decide +kernel
theorem dX3_readItem_1 : decode cX3_readItem 1 = .ok (.getfield 40, 3) := by decide +kernel
theorem dX3_readItem_4 : decode cX3_readItem 4 = .ok (.istore_n 1, 1) := by decide +kernel
theorem dX3_readItem_5 : decode cX3_readItem 5 = .ok (.aload_n 0, 1) := by decide +kernel
theorem dX3_readItem_6 : decode cX3_readItem 6 = .ok (.invokevirtual 51, 3) := by decide +kernel
theorem dX3_readItem_9 : decode cX3_readItem 9 = .ok (.istore_n 2, 1) := by decide +kernel
theorem dX3_readItem_10 : decode cX3_readItem 10 = .ok (.iload_n 2, 1) := by decide +kernel
theorem dX3_readItem_11 : decode cX3_readItem 11 = .ok (.tableswitch 64 (-1) 2 #[29, 31, 54, 59], 29) := by decide +kernel
theorem dX3_readItem_40 : decode cX3_readItem 40 = .ok (.iconst 0, 1) := by decide +kernel
theorem dX3_readItem_41 : decode cX3_readItem 41 = .ok (.ireturn, 1) := by decide +kernel
theorem dX3_readItem_42 : decode cX3_readItem 42 = .ok (.aload_n 0, 1) := by decide +kernel
theorem dX3_readItem_43 : decode cX3_readItem 43 = .ok (.getfield 12, 3) := by decide +kernel
theorem dX3_readItem_46 : decode cX3_readItem 46 = .ok (.invokevirtual 55, 3) := by decide +kernel
theorem dX3_readItem_49 : decode cX3_readItem 49 = .ok (.ifCond .eq 11, 3) := by decide +kernel
theorem dX3_readItem_52 : decode cX3_readItem 52 = .ok (.aload_n 0, 1) := by decide +kernel
theorem dX3_readItem_53 : decode cX3_readItem 53 = .ok (.iload_n 1, 1) := by decide +kernel
theorem dX3_readItem_54 : decode cX3_readItem 54 = .ok (.invokevirtual 58, 3) := by decide +kernel
theorem dX3_readItem_57 : decode cX3_readItem 57 = .ok (.goto 7, 3) := by decide +kernel
theorem dX3_readItem_60 : decode cX3_readItem 60 = .ok (.aload_n 0, 1) := by decide +kernel
theorem dX3_readItem_61 : decode cX3_readItem 61 = .ok (.invokevirtual 61, 3) := by decide +kernel
theorem dX3_readItem_64 : decode cX3_readItem 64 = .ok (.ireturn, 1) := by decide +kernel
theorem dX3_readItem_65 : decode cX3_readItem 65 = .ok (.aload_n 0, 1) := by decide +kernel
theorem dX3_readItem_66 : decode cX3_readItem 66 = .ok (.invokevirtual 64, 3) := by decide +kernel
theorem dX3_readItem_69 : decode cX3_readItem 69 = .ok (.ireturn, 1) := by decide +kernel
theorem dX3_readItem_70 : decode cX3_readItem 70 = .ok (.aload_n 0, 1) := by decide +kernel
theorem dX3_readItem_71 : decode cX3_readItem 71 = .ok (.invokevirtual 67, 3) := by decide +kernel
theorem dX3_readItem_74 : decode cX3_readItem 74 = .ok (.ireturn, 1) := by decide +kernel
theorem dX3_readItem_75 : decode cX3_readItem 75 = .ok (.aload_n 0, 1) := by decide +kernel
theorem dX3_readItem_76 : decode cX3_readItem 76 = .ok (.iload_n 2, 1) := by decide +kernel
theorem dX3_readItem_77 : decode cX3_readItem 77 = .ok (.iconst 3, 1) := by decide +kernel
theorem dX3_readItem_78 : decode cX3_readItem 78 = .ok (.isub, 1) := by decide +kernel
theorem dX3_readItem_79 : decode cX3_readItem 79 = .ok (.invokevirtual 70, 3) := by decide +kernel
theorem dX3_readItem_82 : decode cX3_readItem 82 = .ok (.ireturn, 1) := by decide +kernel
theorem dX3_readWord_0 : decode cX3_readWord 0 = .ok (.iconst (-1), 1) := by decide +kernel
theorem dX3_readWord_1 : decode cX3_readWord 1 = .ok (.istore_n 1, 1) := by decide +kernel
theorem dX3_readWord_2 : decode cX3_readWord 2 = .ok (.iconst 0, 1) := by decide +kernel
theorem dX3_readWord_3 : decode cX3_readWord 3 = .ok (.istore_n 2, 1) := by decide +kernel
theorem dX3_readWord_4 : decode cX3_readWord 4 = .ok (.iload_n 2, 1) := by decide +kernel
theorem dX3_readWord_5 : decode cX3_readWord 5 = .ok (.bipush 7, 2) := by decide +kernel
theorem dX3_readWord_7 : decode cX3_readWord 7 = .ok (.if_icmp .ge 26, 3) := by decide +kernel
theorem dX3_readWord_10 : decode cX3_readWord 10 = .ok (.aload_n 0, 1) := by decide +kernel
theorem dX3_readWord_11 : decode cX3_readWord 11 = .ok (.invokevirtual 73, 3) := by decide +kernel
theorem dX3_readWord_14 : decode cX3_readWord 14 = .ok (.iload_n 2, 1) := by decide +kernel
theorem dX3_readWord_15 : decode cX3_readWord 15 = .ok (.invokestatic 76, 3) := by decide +kernel
theorem dX3_readWord_18 : decode cX3_readWord 18 = .ok (.iconst 0, 1) := by decide +kernel
theorem dX3_readWord_19 : decode cX3_readWord 19 = .ok (.invokevirtual 80, 3) := by decide +kernel
theorem dX3_readWord_22 : decode cX3_readWord 22 = .ok (.if_icmp .ne 5, 3) := by decide +kernel
theorem dX3_readWord_25 : decode cX3_readWord 25 = .ok (.iload_n 2, 1) := by decide +kernel
theorem dX3_readWord_26 : decode cX3_readWord 26 = .ok (.istore_n 1, 1) := by decide +kernel
theorem dX3_readWord_27 : decode cX3_readWord 27 = .ok (.iinc 2 1, 3) := by decide +kernel
theorem dX3_readWord_30 : decode cX3_readWord 30 = .ok (.goto (-26), 3) := by decide +kernel
theorem dX3_readWord_33 : decode cX3_readWord 33 = .ok (.iload_n 1, 1) := by decide +kernel
theorem dX3_readWord_34 : decode cX3_readWord 34 = .ok (.iconst (-1), 1) := by decide +kernel
theorem dX3_readWord_35 : decode cX3_readWord 35 = .ok (.if_icmp .ne 14, 3) := by decide +kernel
theorem dX3_readWord_38 : decode cX3_readWord 38 = .ok (.aload_n 0, 1) := by decide +kernel
theorem dX3_readWord_39 : decode cX3_readWord 39 = .ok (.aload_n 0, 1) := by decide +kernel
theorem dX3_readWord_40 : decode cX3_readWord 40 = .ok (.getfield 40, 3) := by decide +kernel
theorem dX3_readWord_43 : decode cX3_readWord 43 = .ok (.invokevirtual 58, 3) := by decide +kernel
theorem dX3_readWord_46 : decode cX3_readWord 46 = .ok (.pop, 1) := by decide +kernel
theorem dX3_readWord_47 : decode cX3_readWord 47 = .ok (.iconst (-1), 1) := by decide +kernel
theorem dX3_readWord_48 : decode cX3_readWord 48 = .ok (.ireturn, 1) := by decide +kernel
theorem dX3_readWord_49 : decode cX3_readWord 49 = .ok (.iload_n 1, 1) := by decide +kernel
theorem dX3_readWord_50 : decode cX3_readWord 50 = .ok (.invokestatic 76, 3) := by decide +kernel
theorem dX3_readWord_53 : decode cX3_readWord 53 = .ok (.astore_n 2, 1) := by decide +kernel
theorem dX3_readWord_54 : decode cX3_readWord 54 = .ok (.iconst 0, 1) := by decide +kernel
theorem dX3_readWord_55 : decode cX3_readWord 55 = .ok (.istore_n 3, 1) := by decide +kernel
theorem dX3_readWord_56 : decode cX3_readWord 56 = .ok (.iload_n 3, 1) := by decide +kernel
theorem dX3_readWord_57 : decode cX3_readWord 57 = .ok (.aload_n 2, 1) := by decide +kernel
theorem dX3_readWord_58 : decode cX3_readWord 58 = .ok (.invokevirtual 86, 3) := by decide +kernel
theorem dX3_readWord_61 : decode cX3_readWord 61 = .ok (.if_icmp .ge 23, 3) := by decide +kernel
theorem dX3_readWord_64 : decode cX3_readWord 64 = .ok (.aload_n 0, 1) := by decide +kernel
theorem dX3_readWord_65 : decode cX3_readWord 65 = .ok (.aload_n 2, 1) := by decide +kernel
theorem dX3_readWord_66 : decode cX3_readWord 66 = .ok (.iload_n 3, 1) := by decide +kernel
theorem dX3_readWord_67 : decode cX3_readWord 67 = .ok (.invokevirtual 80, 3) := by decide +kernel
theorem dX3_readWord_70 : decode cX3_readWord 70 = .ok (.invokevirtual 47, 3) := by decide +kernel
theorem dX3_readWord_73 : decode cX3_readWord 73 = .ok (.ifCond .ne 5, 3) := by decide +kernel
theorem dX3_readWord_76 : decode cX3_readWord 76 = .ok (.iconst (-1), 1) := by decide +kernel
theorem dX3_readWord_77 : decode cX3_readWord 77 = .ok (.ireturn, 1) := by decide +kernel
theorem dX3_readWord_78 : decode cX3_readWord 78 = .ok (.iinc 3 1, 3) := by decide +kernel
theorem dX3_readWord_81 : decode cX3_readWord 81 = .ok (.goto (-25), 3) := by decide +kernel
theorem dX3_readWord_84 : decode cX3_readWord 84 = .ok (.iload_n 1, 1) := by decide +kernel
theorem dX3_readWord_85 : decode cX3_readWord 85 = .ok (.ireturn, 1) := by decide +kernel
theorem dX3_wordOf_0 : decode cX3_wordOf 0 = .ok (.iload_n 0, 1) := by decide +kernel
theorem dX3_wordOf_1 : decode cX3_wordOf 1 = .ok (.tableswitch 57 0 5 #[39, 42, 45, 48, 51, 54], 39) := by decide +kernel
theorem dX3_wordOf_40 : decode cX3_wordOf 40 = .ok (.ldc 88, 2) := by decide +kernel
theorem dX3_wordOf_42 : decode cX3_wordOf 42 = .ok (.areturn, 1) := by decide +kernel
theorem dX3_wordOf_43 : decode cX3_wordOf 43 = .ok (.ldc 90, 2) := by decide +kernel
theorem dX3_wordOf_45 : decode cX3_wordOf 45 = .ok (.areturn, 1) := by decide +kernel
theorem dX3_wordOf_46 : decode cX3_wordOf 46 = .ok (.ldc 92, 2) := by decide +kernel
theorem dX3_wordOf_48 : decode cX3_wordOf 48 = .ok (.areturn, 1) := by decide +kernel
theorem dX3_wordOf_49 : decode cX3_wordOf 49 = .ok (.ldc 94, 2) := by decide +kernel
theorem dX3_wordOf_51 : decode cX3_wordOf 51 = .ok (.areturn, 1) := by decide +kernel
theorem dX3_wordOf_52 : decode cX3_wordOf 52 = .ok (.ldc 96, 2) := by decide +kernel
theorem dX3_wordOf_54 : decode cX3_wordOf 54 = .ok (.areturn, 1) := by decide +kernel
theorem dX3_wordOf_55 : decode cX3_wordOf 55 = .ok (.ldc 98, 2) := by decide +kernel
theorem dX3_wordOf_57 : decode cX3_wordOf 57 = .ok (.areturn, 1) := by decide +kernel
theorem dX3_wordOf_58 : decode cX3_wordOf 58 = .ok (.ldc 100, 2) := by decide +kernel
theorem dX3_wordOf_60 : decode cX3_wordOf 60 = .ok (.areturn, 1) := by decide +kernel
theorem dX3_readPerson_0 : decode cX3_readPerson 0 = .ok (.aload_n 0, 1) := by decide +kernel
theorem dX3_readPerson_1 : decode cX3_readPerson 1 = .ok (.iconst 0, 1) := by decide +kernel
theorem dX3_readPerson_2 : decode cX3_readPerson 2 = .ok (.getstatic 102, 3) := by decide +kernel
theorem dX3_readPerson_5 : decode cX3_readPerson 5 = .ok (.arraylength, 1) := by decide +kernel
theorem dX3_readPerson_6 : decode cX3_readPerson 6 = .ok (.iconst 1, 1) := by decide +kernel
theorem dX3_readPerson_7 : decode cX3_readPerson 7 = .ok (.isub, 1) := by decide +kernel
theorem dX3_readPerson_8 : decode cX3_readPerson 8 = .ok (.invokevirtual 105, 3) := by decide +kernel
theorem dX3_readPerson_11 : decode cX3_readPerson 11 = .ok (.istore_n 1, 1) := by decide +kernel
theorem dX3_readPerson_12 : decode cX3_readPerson 12 = .ok (.iload_n 1, 1) := by decide +kernel
theorem dX3_readPerson_13 : decode cX3_readPerson 13 = .ok (.iconst (-1), 1) := by decide +kernel
theorem dX3_readPerson_14 : decode cX3_readPerson 14 = .ok (.if_icmp .ne 7, 3) := by decide +kernel
theorem dX3_readPerson_17 : decode cX3_readPerson 17 = .ok (.iconst (-1), 1) := by decide +kernel
theorem dX3_readPerson_18 : decode cX3_readPerson 18 = .ok (.goto 10, 3) := by decide +kernel
theorem dX3_readPerson_21 : decode cX3_readPerson 21 = .ok (.aload_n 0, 1) := by decide +kernel
theorem dX3_readPerson_22 : decode cX3_readPerson 22 = .ok (.iconst 0, 1) := by decide +kernel
theorem dX3_readPerson_23 : decode cX3_readPerson 23 = .ok (.bipush 9, 2) := by decide +kernel
theorem dX3_readPerson_25 : decode cX3_readPerson 25 = .ok (.invokevirtual 105, 3) := by decide +kernel
theorem dX3_readPerson_28 : decode cX3_readPerson 28 = .ok (.istore_n 2, 1) := by decide +kernel
theorem dX3_readPerson_29 : decode cX3_readPerson 29 = .ok (.iload_n 2, 1) := by decide +kernel
theorem dX3_readPerson_30 : decode cX3_readPerson 30 = .ok (.iconst (-1), 1) := by decide +kernel
theorem dX3_readPerson_31 : decode cX3_readPerson 31 = .ok (.if_icmp .ne 7, 3) := by decide +kernel
theorem dX3_readPerson_34 : decode cX3_readPerson 34 = .ok (.iconst (-1), 1) := by decide +kernel
theorem dX3_readPerson_35 : decode cX3_readPerson 35 = .ok (.goto 10, 3) := by decide +kernel
theorem dX3_readPerson_38 : decode cX3_readPerson 38 = .ok (.aload_n 0, 1) := by decide +kernel
theorem dX3_readPerson_39 : decode cX3_readPerson 39 = .ok (.iconst 0, 1) := by decide +kernel
theorem dX3_readPerson_40 : decode cX3_readPerson 40 = .ok (.bipush 20, 2) := by decide +kernel
theorem dX3_readPerson_42 : decode cX3_readPerson 42 = .ok (.invokevirtual 105, 3) := by decide +kernel
theorem dX3_readPerson_45 : decode cX3_readPerson 45 = .ok (.istore_n 3, 1) := by decide +kernel
theorem dX3_readPerson_46 : decode cX3_readPerson 46 = .ok (.iload_n 3, 1) := by decide +kernel
theorem dX3_readPerson_47 : decode cX3_readPerson 47 = .ok (.iconst (-1), 1) := by decide +kernel
theorem dX3_readPerson_48 : decode cX3_readPerson 48 = .ok (.if_icmp .ne 7, 3) := by decide +kernel
theorem dX3_readPerson_51 : decode cX3_readPerson 51 = .ok (.iconst (-1), 1) := by decide +kernel
theorem dX3_readPerson_52 : decode cX3_readPerson 52 = .ok (.goto 9, 3) := by decide +kernel
theorem dX3_readPerson_55 : decode cX3_readPerson 55 = .ok (.aload_n 0, 1) := by decide +kernel
theorem dX3_readPerson_56 : decode cX3_readPerson 56 = .ok (.iconst 0, 1) := by decide +kernel
theorem dX3_readPerson_57 : decode cX3_readPerson 57 = .ok (.iconst 1, 1) := by decide +kernel
theorem dX3_readPerson_58 : decode cX3_readPerson 58 = .ok (.invokevirtual 105, 3) := by decide +kernel
theorem dX3_readPerson_61 : decode cX3_readPerson 61 = .ok (.istore 4, 2) := by decide +kernel
theorem dX3_readPerson_63 : decode cX3_readPerson 63 = .ok (.iload 4, 2) := by decide +kernel
theorem dX3_readPerson_65 : decode cX3_readPerson 65 = .ok (.iconst (-1), 1) := by decide +kernel
theorem dX3_readPerson_66 : decode cX3_readPerson 66 = .ok (.if_icmp .ne 5, 3) := by decide +kernel
theorem dX3_readPerson_69 : decode cX3_readPerson 69 = .ok (.iconst 0, 1) := by decide +kernel
theorem dX3_readPerson_70 : decode cX3_readPerson 70 = .ok (.ireturn, 1) := by decide +kernel
theorem dX3_readPerson_71 : decode cX3_readPerson 71 = .ok (.aload_n 0, 1) := by decide +kernel
theorem dX3_readPerson_72 : decode cX3_readPerson 72 = .ok (.getfield 12, 3) := by decide +kernel
theorem dX3_readPerson_75 : decode cX3_readPerson 75 = .ok (.iload_n 1, 1) := by decide +kernel
theorem dX3_readPerson_76 : decode cX3_readPerson 76 = .ok (.iload_n 2, 1) := by decide +kernel
theorem dX3_readPerson_77 : decode cX3_readPerson 77 = .ok (.iload_n 3, 1) := by decide +kernel
theorem dX3_readPerson_78 : decode cX3_readPerson 78 = .ok (.iload 4, 2) := by decide +kernel
theorem dX3_readPerson_80 : decode cX3_readPerson 80 = .ok (.iconst 1, 1) := by decide +kernel
theorem dX3_readPerson_81 : decode cX3_readPerson 81 = .ok (.if_icmp .ne 7, 3) := by decide +kernel
theorem dX3_readPerson_84 : decode cX3_readPerson 84 = .ok (.iconst 1, 1) := by decide +kernel
theorem dX3_readPerson_85 : decode cX3_readPerson 85 = .ok (.goto 4, 3) := by decide +kernel
theorem dX3_readPerson_88 : decode cX3_readPerson 88 = .ok (.iconst 0, 1) := by decide +kernel
theorem dX3_readPerson_89 : decode cX3_readPerson 89 = .ok (.invokevirtual 109, 3) := by decide +kernel
theorem dX3_readPerson_92 : decode cX3_readPerson 92 = .ok (.pop, 1) := by decide +kernel
theorem dX3_readPerson_93 : decode cX3_readPerson 93 = .ok (.iconst 1, 1) := by decide +kernel
theorem dX3_readPerson_94 : decode cX3_readPerson 94 = .ok (.ireturn, 1) := by decide +kernel
theorem dX3_readFriend_0 : decode cX3_readFriend 0 = .ok (.aload_n 0, 1) := by decide +kernel
theorem dX3_readFriend_1 : decode cX3_readFriend 1 = .ok (.iconst 0, 1) := by decide +kernel
theorem dX3_readFriend_2 : decode cX3_readFriend 2 = .ok (.aload_n 0, 1) := by decide +kernel
theorem dX3_readFriend_3 : decode cX3_readFriend 3 = .ok (.getfield 12, 3) := by decide +kernel
theorem dX3_readFriend_6 : decode cX3_readFriend 6 = .ok (.getfield 113, 3) := by decide +kernel
theorem dX3_readFriend_9 : decode cX3_readFriend 9 = .ok (.iconst 1, 1) := by decide +kernel
theorem dX3_readFriend_10 : decode cX3_readFriend 10 = .ok (.isub, 1) := by decide +kernel
theorem dX3_readFriend_11 : decode cX3_readFriend 11 = .ok (.invokevirtual 105, 3) := by decide +kernel
theorem dX3_readFriend_14 : decode cX3_readFriend 14 = .ok (.istore_n 1, 1) := by decide +kernel
theorem dX3_readFriend_15 : decode cX3_readFriend 15 = .ok (.iload_n 1, 1) := by decide +kernel
theorem dX3_readFriend_16 : decode cX3_readFriend 16 = .ok (.iconst (-1), 1) := by decide +kernel
theorem dX3_readFriend_17 : decode cX3_readFriend 17 = .ok (.if_icmp .ne 7, 3) := by decide +kernel
theorem dX3_readFriend_20 : decode cX3_readFriend 20 = .ok (.iconst (-1), 1) := by decide +kernel
theorem dX3_readFriend_21 : decode cX3_readFriend 21 = .ok (.goto 17, 3) := by decide +kernel
theorem dX3_readFriend_24 : decode cX3_readFriend 24 = .ok (.aload_n 0, 1) := by decide +kernel
theorem dX3_readFriend_25 : decode cX3_readFriend 25 = .ok (.iconst 0, 1) := by decide +kernel
theorem dX3_readFriend_26 : decode cX3_readFriend 26 = .ok (.aload_n 0, 1) := by decide +kernel
theorem dX3_readFriend_27 : decode cX3_readFriend 27 = .ok (.getfield 12, 3) := by decide +kernel
theorem dX3_readFriend_30 : decode cX3_readFriend 30 = .ok (.getfield 113, 3) := by decide +kernel
theorem dX3_readFriend_33 : decode cX3_readFriend 33 = .ok (.iconst 1, 1) := by decide +kernel
theorem dX3_readFriend_34 : decode cX3_readFriend 34 = .ok (.isub, 1) := by decide +kernel
theorem dX3_readFriend_35 : decode cX3_readFriend 35 = .ok (.invokevirtual 105, 3) := by decide +kernel
theorem dX3_readFriend_38 : decode cX3_readFriend 38 = .ok (.istore_n 2, 1) := by decide +kernel
theorem dX3_readFriend_39 : decode cX3_readFriend 39 = .ok (.iload_n 2, 1) := by decide +kernel
theorem dX3_readFriend_40 : decode cX3_readFriend 40 = .ok (.iconst (-1), 1) := by decide +kernel
theorem dX3_readFriend_41 : decode cX3_readFriend 41 = .ok (.if_icmp .ne 5, 3) := by decide +kernel
theorem dX3_readFriend_44 : decode cX3_readFriend 44 = .ok (.iconst 0, 1) := by decide +kernel
theorem dX3_readFriend_45 : decode cX3_readFriend 45 = .ok (.ireturn, 1) := by decide +kernel
theorem dX3_readFriend_46 : decode cX3_readFriend 46 = .ok (.iload_n 2, 1) := by decide +kernel
theorem dX3_readFriend_47 : decode cX3_readFriend 47 = .ok (.iload_n 1, 1) := by decide +kernel
theorem dX3_readFriend_48 : decode cX3_readFriend 48 = .ok (.if_icmp .ne 12, 3) := by decide +kernel
theorem dX3_readFriend_51 : decode cX3_readFriend 51 = .ok (.aload_n 0, 1) := by decide +kernel
theorem dX3_readFriend_52 : decode cX3_readFriend 52 = .ok (.aload_n 0, 1) := by decide +kernel
theorem dX3_readFriend_53 : decode cX3_readFriend 53 = .ok (.getfield 116, 3) := by decide +kernel
theorem dX3_readFriend_56 : decode cX3_readFriend 56 = .ok (.invokevirtual 58, 3) := by decide +kernel
theorem dX3_readFriend_59 : decode cX3_readFriend 59 = .ok (.ireturn, 1) := by decide +kernel
theorem dX3_readFriend_60 : decode cX3_readFriend 60 = .ok (.aload_n 0, 1) := by decide +kernel
theorem dX3_readFriend_61 : decode cX3_readFriend 61 = .ok (.getfield 12, 3) := by decide +kernel
theorem dX3_readFriend_64 : decode cX3_readFriend 64 = .ok (.iload_n 1, 1) := by decide +kernel
theorem dX3_readFriend_65 : decode cX3_readFriend 65 = .ok (.invokevirtual 119, 3) := by decide +kernel
theorem dX3_readFriend_68 : decode cX3_readFriend 68 = .ok (.iload_n 2, 1) := by decide +kernel
theorem dX3_readFriend_69 : decode cX3_readFriend 69 = .ok (.putfield 123, 3) := by decide +kernel
theorem dX3_readFriend_72 : decode cX3_readFriend 72 = .ok (.iconst 1, 1) := by decide +kernel
theorem dX3_readFriend_73 : decode cX3_readFriend 73 = .ok (.ireturn, 1) := by decide +kernel
theorem dX3_readGone_0 : decode cX3_readGone 0 = .ok (.aload_n 0, 1) := by decide +kernel
theorem dX3_readGone_1 : decode cX3_readGone 1 = .ok (.iconst 0, 1) := by decide +kernel
theorem dX3_readGone_2 : decode cX3_readGone 2 = .ok (.aload_n 0, 1) := by decide +kernel
theorem dX3_readGone_3 : decode cX3_readGone 3 = .ok (.getfield 12, 3) := by decide +kernel
theorem dX3_readGone_6 : decode cX3_readGone 6 = .ok (.getfield 113, 3) := by decide +kernel
theorem dX3_readGone_9 : decode cX3_readGone 9 = .ok (.iconst 1, 1) := by decide +kernel
theorem dX3_readGone_10 : decode cX3_readGone 10 = .ok (.isub, 1) := by decide +kernel
theorem dX3_readGone_11 : decode cX3_readGone 11 = .ok (.invokevirtual 105, 3) := by decide +kernel
theorem dX3_readGone_14 : decode cX3_readGone 14 = .ok (.istore_n 1, 1) := by decide +kernel
theorem dX3_readGone_15 : decode cX3_readGone 15 = .ok (.iload_n 1, 1) := by decide +kernel
theorem dX3_readGone_16 : decode cX3_readGone 16 = .ok (.iconst (-1), 1) := by decide +kernel
theorem dX3_readGone_17 : decode cX3_readGone 17 = .ok (.if_icmp .ne 5, 3) := by decide +kernel
theorem dX3_readGone_20 : decode cX3_readGone 20 = .ok (.iconst 0, 1) := by decide +kernel
theorem dX3_readGone_21 : decode cX3_readGone 21 = .ok (.ireturn, 1) := by decide +kernel
theorem dX3_readGone_22 : decode cX3_readGone 22 = .ok (.aload_n 0, 1) := by decide +kernel
theorem dX3_readGone_23 : decode cX3_readGone 23 = .ok (.getfield 12, 3) := by decide +kernel
theorem dX3_readGone_26 : decode cX3_readGone 26 = .ok (.iload_n 1, 1) := by decide +kernel
theorem dX3_readGone_27 : decode cX3_readGone 27 = .ok (.invokevirtual 119, 3) := by decide +kernel
theorem dX3_readGone_30 : decode cX3_readGone 30 = .ok (.iconst 1, 1) := by decide +kernel
theorem dX3_readGone_31 : decode cX3_readGone 31 = .ok (.putfield 128, 3) := by decide +kernel
theorem dX3_readGone_34 : decode cX3_readGone 34 = .ok (.iconst 1, 1) := by decide +kernel
theorem dX3_readGone_35 : decode cX3_readGone 35 = .ok (.ireturn, 1) := by decide +kernel
theorem dX3_readSetting_0 : decode cX3_readSetting 0 = .ok (.aload_n 0, 1) := by decide +kernel
theorem dX3_readSetting_1 : decode cX3_readSetting 1 = .ok (.iload_n 1, 1) := by decide +kernel
theorem dX3_readSetting_2 : decode cX3_readSetting 2 = .ok (.invokestatic 131, 3) := by decide +kernel
theorem dX3_readSetting_5 : decode cX3_readSetting 5 = .ok (.iload_n 1, 1) := by decide +kernel
theorem dX3_readSetting_6 : decode cX3_readSetting 6 = .ok (.invokestatic 134, 3) := by decide +kernel
theorem dX3_readSetting_9 : decode cX3_readSetting 9 = .ok (.invokevirtual 105, 3) := by decide +kernel
theorem dX3_readSetting_12 : decode cX3_readSetting 12 = .ok (.istore_n 2, 1) := by decide +kernel
theorem dX3_readSetting_13 : decode cX3_readSetting 13 = .ok (.iload_n 2, 1) := by decide +kernel
theorem dX3_readSetting_14 : decode cX3_readSetting 14 = .ok (.iconst (-1), 1) := by decide +kernel
theorem dX3_readSetting_15 : decode cX3_readSetting 15 = .ok (.if_icmp .ne 5, 3) := by decide +kernel
theorem dX3_readSetting_18 : decode cX3_readSetting 18 = .ok (.iconst 0, 1) := by decide +kernel
theorem dX3_readSetting_19 : decode cX3_readSetting 19 = .ok (.ireturn, 1) := by decide +kernel
theorem dX3_readSetting_20 : decode cX3_readSetting 20 = .ok (.aload_n 0, 1) := by decide +kernel
theorem dX3_readSetting_21 : decode cX3_readSetting 21 = .ok (.getfield 12, 3) := by decide +kernel
theorem dX3_readSetting_24 : decode cX3_readSetting 24 = .ok (.iload_n 1, 1) := by decide +kernel
theorem dX3_readSetting_25 : decode cX3_readSetting 25 = .ok (.iload_n 2, 1) := by decide +kernel
theorem dX3_readSetting_26 : decode cX3_readSetting 26 = .ok (.invokevirtual 137, 3) := by decide +kernel
theorem dX3_readSetting_29 : decode cX3_readSetting 29 = .ok (.iconst 1, 1) := by decide +kernel
theorem dX3_readSetting_30 : decode cX3_readSetting 30 = .ok (.ireturn, 1) := by decide +kernel
theorem dX3_readNumber_0 : decode cX3_readNumber 0 = .ok (.aload_n 0, 1) := by decide +kernel
theorem dX3_readNumber_1 : decode cX3_readNumber 1 = .ok (.bipush 32, 2) := by decide +kernel
theorem dX3_readNumber_3 : decode cX3_readNumber 3 = .ok (.invokevirtual 47, 3) := by decide +kernel
theorem dX3_readNumber_6 : decode cX3_readNumber 6 = .ok (.ifCond .ne 5, 3) := by decide +kernel
theorem dX3_readNumber_9 : decode cX3_readNumber 9 = .ok (.iconst (-1), 1) := by decide +kernel
theorem dX3_readNumber_10 : decode cX3_readNumber 10 = .ok (.ireturn, 1) := by decide +kernel
theorem dX3_readNumber_11 : decode cX3_readNumber 11 = .ok (.aload_n 0, 1) := by decide +kernel
theorem dX3_readNumber_12 : decode cX3_readNumber 12 = .ok (.aload_n 0, 1) := by decide +kernel
theorem dX3_readNumber_13 : decode cX3_readNumber 13 = .ok (.getfield 40, 3) := by decide +kernel
theorem dX3_readNumber_16 : decode cX3_readNumber 16 = .ok (.putfield 116, 3) := by decide +kernel
theorem dX3_readNumber_19 : decode cX3_readNumber 19 = .ok (.aload_n 0, 1) := by decide +kernel
theorem dX3_readNumber_20 : decode cX3_readNumber 20 = .ok (.invokevirtual 141, 3) := by decide +kernel
theorem dX3_readNumber_23 : decode cX3_readNumber 23 = .ok (.ifCond .ne 14, 3) := by decide +kernel
theorem dX3_readNumber_26 : decode cX3_readNumber 26 = .ok (.aload_n 0, 1) := by decide +kernel
theorem dX3_readNumber_27 : decode cX3_readNumber 27 = .ok (.aload_n 0, 1) := by decide +kernel
theorem dX3_readNumber_28 : decode cX3_readNumber 28 = .ok (.getfield 40, 3) := by decide +kernel
theorem dX3_readNumber_31 : decode cX3_readNumber 31 = .ok (.invokevirtual 58, 3) := by decide +kernel
theorem dX3_readNumber_34 : decode cX3_readNumber 34 = .ok (.pop, 1) := by decide +kernel
theorem dX3_readNumber_35 : decode cX3_readNumber 35 = .ok (.iconst (-1), 1) := by decide +kernel
theorem dX3_readNumber_36 : decode cX3_readNumber 36 = .ok (.ireturn, 1) := by decide +kernel
theorem dX3_readNumber_37 : decode cX3_readNumber 37 = .ok (.aload_n 0, 1) := by decide +kernel
theorem dX3_readNumber_38 : decode cX3_readNumber 38 = .ok (.invokevirtual 144, 3) := by decide +kernel
theorem dX3_readNumber_41 : decode cX3_readNumber 41 = .ok (.istore_n 3, 1) := by decide +kernel
theorem dX3_readNumber_42 : decode cX3_readNumber 42 = .ok (.aload_n 0, 1) := by decide +kernel
theorem dX3_readNumber_43 : decode cX3_readNumber 43 = .ok (.invokevirtual 141, 3) := by decide +kernel
theorem dX3_readNumber_46 : decode cX3_readNumber 46 = .ok (.ifCond .eq 13, 3) := by decide +kernel
theorem dX3_readNumber_49 : decode cX3_readNumber 49 = .ok (.iload_n 3, 1) := by decide +kernel
theorem dX3_readNumber_50 : decode cX3_readNumber 50 = .ok (.bipush 10, 2) := by decide +kernel
theorem dX3_readNumber_52 : decode cX3_readNumber 52 = .ok (.imul, 1) := by decide +kernel
theorem dX3_readNumber_53 : decode cX3_readNumber 53 = .ok (.aload_n 0, 1) := by decide +kernel
theorem dX3_readNumber_54 : decode cX3_readNumber 54 = .ok (.invokevirtual 144, 3) := by decide +kernel
theorem dX3_readNumber_57 : decode cX3_readNumber 57 = .ok (.iadd, 1) := by decide +kernel
theorem dX3_readNumber_58 : decode cX3_readNumber 58 = .ok (.istore_n 3, 1) := by decide +kernel
theorem dX3_readNumber_59 : decode cX3_readNumber 59 = .ok (.iload_n 3, 1) := by decide +kernel
theorem dX3_readNumber_60 : decode cX3_readNumber 60 = .ok (.iload_n 1, 1) := by decide +kernel
theorem dX3_readNumber_61 : decode cX3_readNumber 61 = .ok (.if_icmp .lt 8, 3) := by decide +kernel
theorem dX3_readNumber_64 : decode cX3_readNumber 64 = .ok (.iload_n 3, 1) := by decide +kernel
theorem dX3_readNumber_65 : decode cX3_readNumber 65 = .ok (.iload_n 2, 1) := by decide +kernel
theorem dX3_readNumber_66 : decode cX3_readNumber 66 = .ok (.if_icmp .le 14, 3) := by decide +kernel
theorem dX3_readNumber_69 : decode cX3_readNumber 69 = .ok (.aload_n 0, 1) := by decide +kernel
theorem dX3_readNumber_70 : decode cX3_readNumber 70 = .ok (.aload_n 0, 1) := by decide +kernel
theorem dX3_readNumber_71 : decode cX3_readNumber 71 = .ok (.getfield 116, 3) := by decide +kernel
theorem dX3_readNumber_74 : decode cX3_readNumber 74 = .ok (.invokevirtual 58, 3) := by decide +kernel
theorem dX3_readNumber_77 : decode cX3_readNumber 77 = .ok (.pop, 1) := by decide +kernel
theorem dX3_readNumber_78 : decode cX3_readNumber 78 = .ok (.iconst (-1), 1) := by decide +kernel
theorem dX3_readNumber_79 : decode cX3_readNumber 79 = .ok (.ireturn, 1) := by decide +kernel
theorem dX3_readNumber_80 : decode cX3_readNumber 80 = .ok (.iload_n 3, 1) := by decide +kernel
theorem dX3_readNumber_81 : decode cX3_readNumber 81 = .ok (.ireturn, 1) := by decide +kernel
theorem dX3_isDigit_0 : decode cX3_isDigit 0 = .ok (.aload_n 0, 1) := by decide +kernel
theorem dX3_isDigit_1 : decode cX3_isDigit 1 = .ok (.invokevirtual 73, 3) := by decide +kernel
theorem dX3_isDigit_4 : decode cX3_isDigit 4 = .ok (.bipush 48, 2) := by decide +kernel
theorem dX3_isDigit_6 : decode cX3_isDigit 6 = .ok (.if_icmp .lt 16, 3) := by decide +kernel
theorem dX3_isDigit_9 : decode cX3_isDigit 9 = .ok (.aload_n 0, 1) := by decide +kernel
theorem dX3_isDigit_10 : decode cX3_isDigit 10 = .ok (.invokevirtual 73, 3) := by decide +kernel
theorem dX3_isDigit_13 : decode cX3_isDigit 13 = .ok (.bipush 57, 2) := by decide +kernel
theorem dX3_isDigit_15 : decode cX3_isDigit 15 = .ok (.if_icmp .gt 7, 3) := by decide +kernel
theorem dX3_isDigit_18 : decode cX3_isDigit 18 = .ok (.iconst 1, 1) := by decide +kernel
theorem dX3_isDigit_19 : decode cX3_isDigit 19 = .ok (.goto 4, 3) := by decide +kernel
theorem dX3_isDigit_22 : decode cX3_isDigit 22 = .ok (.iconst 0, 1) := by decide +kernel
theorem dX3_isDigit_23 : decode cX3_isDigit 23 = .ok (.ireturn, 1) := by decide +kernel
theorem dX3_readDigit_0 : decode cX3_readDigit 0 = .ok (.aload_n 0, 1) := by decide +kernel
theorem dX3_readDigit_1 : decode cX3_readDigit 1 = .ok (.invokevirtual 73, 3) := by decide +kernel
theorem dX3_readDigit_4 : decode cX3_readDigit 4 = .ok (.bipush 48, 2) := by decide +kernel
theorem dX3_readDigit_6 : decode cX3_readDigit 6 = .ok (.isub, 1) := by decide +kernel
theorem dX3_readDigit_7 : decode cX3_readDigit 7 = .ok (.istore_n 1, 1) := by decide +kernel
theorem dX3_readDigit_8 : decode cX3_readDigit 8 = .ok (.aload_n 0, 1) := by decide +kernel
theorem dX3_readDigit_9 : decode cX3_readDigit 9 = .ok (.dup, 1) := by decide +kernel
theorem dX3_readDigit_10 : decode cX3_readDigit 10 = .ok (.getfield 40, 3) := by decide +kernel
theorem dX3_readDigit_13 : decode cX3_readDigit 13 = .ok (.iconst 1, 1) := by decide +kernel
theorem dX3_readDigit_14 : decode cX3_readDigit 14 = .ok (.iadd, 1) := by decide +kernel
theorem dX3_readDigit_15 : decode cX3_readDigit 15 = .ok (.putfield 40, 3) := by decide +kernel
theorem dX3_readDigit_18 : decode cX3_readDigit 18 = .ok (.iload_n 1, 1) := by decide +kernel
theorem dX3_readDigit_19 : decode cX3_readDigit 19 = .ok (.ireturn, 1) := by decide +kernel
theorem dX3_readSign_0 : decode cX3_readSign 0 = .ok (.aload_n 0, 1) := by decide +kernel
theorem dX3_readSign_1 : decode cX3_readSign 1 = .ok (.invokevirtual 73, 3) := by decide +kernel
theorem dX3_readSign_4 : decode cX3_readSign 4 = .ok (.iload_n 1, 1) := by decide +kernel
theorem dX3_readSign_5 : decode cX3_readSign 5 = .ok (.if_icmp .eq 12, 3) := by decide +kernel
theorem dX3_readSign_8 : decode cX3_readSign 8 = .ok (.aload_n 0, 1) := by decide +kernel
theorem dX3_readSign_9 : decode cX3_readSign 9 = .ok (.aload_n 0, 1) := by decide +kernel
theorem dX3_readSign_10 : decode cX3_readSign 10 = .ok (.getfield 40, 3) := by decide +kernel
theorem dX3_readSign_13 : decode cX3_readSign 13 = .ok (.invokevirtual 58, 3) := by decide +kernel
theorem dX3_readSign_16 : decode cX3_readSign 16 = .ok (.ireturn, 1) := by decide +kernel
theorem dX3_readSign_17 : decode cX3_readSign 17 = .ok (.aload_n 0, 1) := by decide +kernel
theorem dX3_readSign_18 : decode cX3_readSign 18 = .ok (.dup, 1) := by decide +kernel
theorem dX3_readSign_19 : decode cX3_readSign 19 = .ok (.getfield 40, 3) := by decide +kernel
theorem dX3_readSign_22 : decode cX3_readSign 22 = .ok (.iconst 1, 1) := by decide +kernel
theorem dX3_readSign_23 : decode cX3_readSign 23 = .ok (.iadd, 1) := by decide +kernel
theorem dX3_readSign_24 : decode cX3_readSign 24 = .ok (.putfield 40, 3) := by decide +kernel
theorem dX3_readSign_27 : decode cX3_readSign 27 = .ok (.iconst 1, 1) := by decide +kernel
theorem dX3_readSign_28 : decode cX3_readSign 28 = .ok (.ireturn, 1) := by decide +kernel
theorem dX3_letter_0 : decode cX3_letter 0 = .ok (.aload_n 0, 1) := by decide +kernel
theorem dX3_letter_1 : decode cX3_letter 1 = .ok (.getfield 40, 3) := by decide +kernel
theorem dX3_letter_4 : decode cX3_letter 4 = .ok (.ifCond .lt 38, 3) := by decide +kernel
theorem dX3_letter_7 : decode cX3_letter 7 = .ok (.aload_n 0, 1) := by decide +kernel
theorem dX3_letter_8 : decode cX3_letter 8 = .ok (.getfield 40, 3) := by decide +kernel
theorem dX3_letter_11 : decode cX3_letter 11 = .ok (.aload_n 0, 1) := by decide +kernel
theorem dX3_letter_12 : decode cX3_letter 12 = .ok (.getfield 35, 3) := by decide +kernel
theorem dX3_letter_15 : decode cX3_letter 15 = .ok (.if_icmp .ge 27, 3) := by decide +kernel
theorem dX3_letter_18 : decode cX3_letter 18 = .ok (.aload_n 0, 1) := by decide +kernel
theorem dX3_letter_19 : decode cX3_letter 19 = .ok (.getfield 40, 3) := by decide +kernel
theorem dX3_letter_22 : decode cX3_letter 22 = .ok (.aload_n 0, 1) := by decide +kernel
theorem dX3_letter_23 : decode cX3_letter 23 = .ok (.getfield 22, 3) := by decide +kernel
theorem dX3_letter_26 : decode cX3_letter 26 = .ok (.arraylength, 1) := by decide +kernel
theorem dX3_letter_27 : decode cX3_letter 27 = .ok (.if_icmp .ge 15, 3) := by decide +kernel
theorem dX3_letter_30 : decode cX3_letter 30 = .ok (.aload_n 0, 1) := by decide +kernel
theorem dX3_letter_31 : decode cX3_letter 31 = .ok (.getfield 22, 3) := by decide +kernel
theorem dX3_letter_34 : decode cX3_letter 34 = .ok (.aload_n 0, 1) := by decide +kernel
theorem dX3_letter_35 : decode cX3_letter 35 = .ok (.getfield 40, 3) := by decide +kernel
theorem dX3_letter_38 : decode cX3_letter 38 = .ok (.iaload, 1) := by decide +kernel
theorem dX3_letter_39 : decode cX3_letter 39 = .ok (.goto 4, 3) := by decide +kernel
theorem dX3_letter_42 : decode cX3_letter 42 = .ok (.iconst (-1), 1) := by decide +kernel
theorem dX3_letter_43 : decode cX3_letter 43 = .ok (.ireturn, 1) := by decide +kernel
theorem dX3_fail_0 : decode cX3_fail 0 = .ok (.aload_n 0, 1) := by decide +kernel
theorem dX3_fail_1 : decode cX3_fail 1 = .ok (.iload_n 1, 1) := by decide +kernel
theorem dX3_fail_2 : decode cX3_fail 2 = .ok (.putfield 18, 3) := by decide +kernel
theorem dX3_fail_5 : decode cX3_fail 5 = .ok (.iconst 0, 1) := by decide +kernel
theorem dX3_fail_6 : decode cX3_fail 6 = .ok (.ireturn, 1) := by decide +kernel
