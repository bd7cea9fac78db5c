theorem dX2_init_0 : decode cX2_init 0 = .ok (.aload_n 0, 1) := by decide +kernel
theorem dX2_init_1 : decode cX2_init 1 = .ok (.invokespecial 3, 3) := by decide +kernel
theorem dX2_init_4 : decode cX2_init 4 = .ok (.aload_n 0, 1) := by decide +kernel
theorem dX2_init_5 : decode cX2_init 5 = .ok (.iconst (-1), 1) := by decide +kernel
theorem dX2_init_6 : decode cX2_init 6 = .ok (.putfield 9, 3) := by decide +kernel
theorem dX2_init_9 : decode cX2_init 9 = .ok (.return_, 1) := by decide +kernel
theorem dX2_enter_0 : decode cX2_enter 0 = .ok (.aload_n 0, 1) := by decide +kernel
theorem dX2_enter_1 : decode cX2_enter 1 = .ok (.iload_n 1, 1) := by decide +kernel
theorem dX2_enter_2 : decode cX2_enter 2 = .ok (.putfield 15, 3) := by decide +kernel
theorem dX2_enter_5 : decode cX2_enter 5 = .ok (.aload_n 0, 1) := by decide +kernel
theorem dX2_enter_6 : decode cX2_enter 6 = .ok (.iload_n 2, 1) := by decide +kernel
theorem dX2_enter_7 : decode cX2_enter 7 = .ok (.putfield 18, 3) := by decide +kernel
theorem dX2_enter_10 : decode cX2_enter 10 = .ok (.aload_n 0, 1) := by decide +kernel
theorem dX2_enter_11 : decode cX2_enter 11 = .ok (.iload_n 3, 1) := by decide +kernel
theorem dX2_enter_12 : decode cX2_enter 12 = .ok (.putfield 21, 3) := by decide +kernel
theorem dX2_enter_15 : decode cX2_enter 15 = .ok (.aload_n 0, 1) := by decide +kernel
theorem dX2_enter_16 : decode cX2_enter 16 = .ok (.iload 4, 2) := by decide +kernel
theorem dX2_enter_18 : decode cX2_enter 18 = .ok (.putfield 24, 3) := by decide +kernel
theorem dX2_enter_21 : decode cX2_enter 21 = .ok (.aload_n 0, 1) := by decide +kernel
theorem dX2_enter_22 : decode cX2_enter 22 = .ok (.iconst (-1), 1) := by decide +kernel
theorem dX2_enter_23 : decode cX2_enter 23 = .ok (.putfield 9, 3) := by decide +kernel
theorem dX2_enter_26 : decode cX2_enter 26 = .ok (.aload_n 0, 1) := by decide +kernel
theorem dX2_enter_27 : decode cX2_enter 27 = .ok (.iconst 0, 1) := by decide +kernel
theorem dX2_enter_28 : decode cX2_enter 28 = .ok (.putfield 28, 3) := by decide +kernel
theorem dX2_enter_31 : decode cX2_enter 31 = .ok (.aload_n 0, 1) := by decide +kernel
theorem dX2_enter_32 : decode cX2_enter 32 = .ok (.iconst 0, 1) := by decide +kernel
theorem dX2_enter_33 : decode cX2_enter 33 = .ok (.putfield 31, 3) := by decide +kernel
theorem dX2_enter_36 : decode cX2_enter 36 = .ok (.aload_n 0, 1) := by decide +kernel
theorem dX2_enter_37 : decode cX2_enter 37 = .ok (.iconst 0, 1) := by decide +kernel
theorem dX2_enter_38 : decode cX2_enter 38 = .ok (.putfield 34, 3) := by decide +kernel
theorem dX2_enter_41 : decode cX2_enter 41 = .ok (.aload_n 0, 1) := by decide +kernel
theorem dX2_enter_42 : decode cX2_enter 42 = .ok (.iconst 0, 1) := by decide +kernel
theorem dX2_enter_43 : decode cX2_enter 43 = .ok (.putfield 37, 3) := by decide +kernel
theorem dX2_enter_46 : decode cX2_enter 46 = .ok (.return_, 1) := by decide +kernel
theorem dX2_become_0 : decode cX2_become 0 = .ok (.aload_n 0, 1) := by decide +kernel
theorem dX2_become_1 : decode cX2_become 1 = .ok (.aload_n 1, 1) := by decide +kernel
theorem dX2_become_2 : decode cX2_become 2 = .ok (.getfield 15, 3) := by decide +kernel
theorem dX2_become_5 : decode cX2_become 5 = .ok (.putfield 15, 3) := by decide +kernel
theorem dX2_become_8 : decode cX2_become 8 = .ok (.aload_n 0, 1) := by decide +kernel
theorem dX2_become_9 : decode cX2_become 9 = .ok (.aload_n 1, 1) := by decide +kernel
theorem dX2_become_10 : decode cX2_become 10 = .ok (.getfield 18, 3) := by decide +kernel
theorem dX2_become_13 : decode cX2_become 13 = .ok (.putfield 18, 3) := by decide +kernel
theorem dX2_become_16 : decode cX2_become 16 = .ok (.aload_n 0, 1) := by decide +kernel
theorem dX2_become_17 : decode cX2_become 17 = .ok (.aload_n 1, 1) := by decide +kernel
theorem dX2_become_18 : decode cX2_become 18 = .ok (.getfield 21, 3) := by decide +kernel
theorem dX2_become_21 : decode cX2_become 21 = .ok (.putfield 21, 3) := by decide +kernel
theorem dX2_become_24 : decode cX2_become 24 = .ok (.aload_n 0, 1) := by decide +kernel
theorem dX2_become_25 : decode cX2_become 25 = .ok (.aload_n 1, 1) := by decide +kernel
theorem dX2_become_26 : decode cX2_become 26 = .ok (.getfield 24, 3) := by decide +kernel
theorem dX2_become_29 : decode cX2_become 29 = .ok (.putfield 24, 3) := by decide +kernel
theorem dX2_become_32 : decode cX2_become 32 = .ok (.aload_n 0, 1) := by decide +kernel
theorem dX2_become_33 : decode cX2_become 33 = .ok (.aload_n 1, 1) := by decide +kernel
theorem dX2_become_34 : decode cX2_become 34 = .ok (.getfield 9, 3) := by decide +kernel
theorem dX2_become_37 : decode cX2_become 37 = .ok (.putfield 9, 3) := by decide +kernel
theorem dX2_become_40 : decode cX2_become 40 = .ok (.aload_n 0, 1) := by decide +kernel
theorem dX2_become_41 : decode cX2_become 41 = .ok (.aload_n 1, 1) := by decide +kernel
theorem dX2_become_42 : decode cX2_become 42 = .ok (.getfield 28, 3) := by decide +kernel
theorem dX2_become_45 : decode cX2_become 45 = .ok (.putfield 28, 3) := by decide +kernel
theorem dX2_become_48 : decode cX2_become 48 = .ok (.aload_n 0, 1) := by decide +kernel
theorem dX2_become_49 : decode cX2_become 49 = .ok (.aload_n 1, 1) := by decide +kernel
theorem dX2_become_50 : decode cX2_become 50 = .ok (.getfield 31, 3) := by decide +kernel
theorem dX2_become_53 : decode cX2_become 53 = .ok (.putfield 31, 3) := by decide +kernel
theorem dX2_become_56 : decode cX2_become 56 = .ok (.aload_n 0, 1) := by decide +kernel
theorem dX2_become_57 : decode cX2_become 57 = .ok (.aload_n 1, 1) := by decide +kernel
theorem dX2_become_58 : decode cX2_become 58 = .ok (.getfield 34, 3) := by decide +kernel
theorem dX2_become_61 : decode cX2_become 61 = .ok (.putfield 34, 3) := by decide +kernel
theorem dX2_become_64 : decode cX2_become 64 = .ok (.aload_n 0, 1) := by decide +kernel
theorem dX2_become_65 : decode cX2_become 65 = .ok (.aload_n 1, 1) := by decide +kernel
theorem dX2_become_66 : decode cX2_become 66 = .ok (.getfield 37, 3) := by decide +kernel
theorem dX2_become_69 : decode cX2_become 69 = .ok (.putfield 37, 3) := by decide +kernel
theorem dX2_become_72 : decode cX2_become 72 = .ok (.return_, 1) := by decide +kernel
theorem dX2_pullOn_0 : decode cX2_pullOn 0 = .ok (.iload_n 1, 1) := by decide +kernel
theorem dX2_pullOn_1 : decode cX2_pullOn 1 = .ok (.aload_n 0, 1) := by decide +kernel
theorem dX2_pullOn_2 : decode cX2_pullOn 2 = .ok (.getfield 21, 3) := by decide +kernel
theorem dX2_pullOn_5 : decode cX2_pullOn 5 = .ok (.isub, 1) := by decide +kernel
theorem dX2_pullOn_6 : decode cX2_pullOn 6 = .ok (.invokestatic 40, 3) := by decide +kernel
theorem dX2_pullOn_9 : decode cX2_pullOn 9 = .ok (.iconst 2, 1) := by decide +kernel
theorem dX2_pullOn_10 : decode cX2_pullOn 10 = .ok (.idiv, 1) := by decide +kernel
theorem dX2_pullOn_11 : decode cX2_pullOn 11 = .ok (.istore 4, 2) := by decide +kernel
theorem dX2_pullOn_13 : decode cX2_pullOn 13 = .ok (.bipush 12, 2) := by decide +kernel
theorem dX2_pullOn_15 : decode cX2_pullOn 15 = .ok (.iload_n 2, 1) := by decide +kernel
theorem dX2_pullOn_16 : decode cX2_pullOn 16 = .ok (.isub, 1) := by decide +kernel
theorem dX2_pullOn_17 : decode cX2_pullOn 17 = .ok (.iload 4, 2) := by decide +kernel
theorem dX2_pullOn_19 : decode cX2_pullOn 19 = .ok (.isub, 1) := by decide +kernel
theorem dX2_pullOn_20 : decode cX2_pullOn 20 = .ok (.iconst 2, 1) := by decide +kernel
theorem dX2_pullOn_21 : decode cX2_pullOn 21 = .ok (.aload_n 0, 1) := by decide +kernel
theorem dX2_pullOn_22 : decode cX2_pullOn 22 = .ok (.getfield 28, 3) := by decide +kernel
theorem dX2_pullOn_25 : decode cX2_pullOn 25 = .ok (.imul, 1) := by decide +kernel
theorem dX2_pullOn_26 : decode cX2_pullOn 26 = .ok (.isub, 1) := by decide +kernel
theorem dX2_pullOn_27 : decode cX2_pullOn 27 = .ok (.istore 5, 2) := by decide +kernel
theorem dX2_pullOn_29 : decode cX2_pullOn 29 = .ok (.aload_n 0, 1) := by decide +kernel
theorem dX2_pullOn_30 : decode cX2_pullOn 30 = .ok (.getfield 24, 3) := by decide +kernel
theorem dX2_pullOn_33 : decode cX2_pullOn 33 = .ok (.ifCond .eq 17, 3) := by decide +kernel
theorem dX2_pullOn_36 : decode cX2_pullOn 36 = .ok (.iload 5, 2) := by decide +kernel
theorem dX2_pullOn_38 : decode cX2_pullOn 38 = .ok (.iconst 0, 1) := by decide +kernel
theorem dX2_pullOn_39 : decode cX2_pullOn 39 = .ok (.iconst 4, 1) := by decide +kernel
theorem dX2_pullOn_40 : decode cX2_pullOn 40 = .ok (.iload_n 3, 1) := by decide +kernel
theorem dX2_pullOn_41 : decode cX2_pullOn 41 = .ok (.iconst 3, 1) := by decide +kernel
theorem dX2_pullOn_42 : decode cX2_pullOn 42 = .ok (.idiv, 1) := by decide +kernel
theorem dX2_pullOn_43 : decode cX2_pullOn 43 = .ok (.isub, 1) := by decide +kernel
theorem dX2_pullOn_44 : decode cX2_pullOn 44 = .ok (.invokestatic 46, 3) := by decide +kernel
theorem dX2_pullOn_47 : decode cX2_pullOn 47 = .ok (.iadd, 1) := by decide +kernel
theorem dX2_pullOn_48 : decode cX2_pullOn 48 = .ok (.istore 5, 2) := by decide +kernel
theorem dX2_pullOn_50 : decode cX2_pullOn 50 = .ok (.aload_n 0, 1) := by decide +kernel
theorem dX2_pullOn_51 : decode cX2_pullOn 51 = .ok (.getfield 15, 3) := by decide +kernel
theorem dX2_pullOn_54 : decode cX2_pullOn 54 = .ok (.tableswitch 94 1 6 #[38, 56, 46, 64, 75, 46], 38) := by decide +kernel
theorem dX2_pullOn_92 : decode cX2_pullOn 92 = .ok (.iload 5, 2) := by decide +kernel
theorem dX2_pullOn_94 : decode cX2_pullOn 94 = .ok (.aload_n 0, 1) := by decide +kernel
theorem dX2_pullOn_95 : decode cX2_pullOn 95 = .ok (.getfield 18, 3) := by decide +kernel
theorem dX2_pullOn_98 : decode cX2_pullOn 98 = .ok (.iadd, 1) := by decide +kernel
theorem dX2_pullOn_99 : decode cX2_pullOn 99 = .ok (.ireturn, 1) := by decide +kernel
theorem dX2_pullOn_100 : decode cX2_pullOn 100 = .ok (.iload 5, 2) := by decide +kernel
theorem dX2_pullOn_102 : decode cX2_pullOn 102 = .ok (.aload_n 0, 1) := by decide +kernel
theorem dX2_pullOn_103 : decode cX2_pullOn 103 = .ok (.getfield 18, 3) := by decide +kernel
theorem dX2_pullOn_106 : decode cX2_pullOn 106 = .ok (.iadd, 1) := by decide +kernel
theorem dX2_pullOn_107 : decode cX2_pullOn 107 = .ok (.iconst 2, 1) := by decide +kernel
theorem dX2_pullOn_108 : decode cX2_pullOn 108 = .ok (.iadd, 1) := by decide +kernel
theorem dX2_pullOn_109 : decode cX2_pullOn 109 = .ok (.ireturn, 1) := by decide +kernel
theorem dX2_pullOn_110 : decode cX2_pullOn 110 = .ok (.iload 5, 2) := by decide +kernel
theorem dX2_pullOn_112 : decode cX2_pullOn 112 = .ok (.aload_n 0, 1) := by decide +kernel
theorem dX2_pullOn_113 : decode cX2_pullOn 113 = .ok (.getfield 18, 3) := by decide +kernel
theorem dX2_pullOn_116 : decode cX2_pullOn 116 = .ok (.isub, 1) := by decide +kernel
theorem dX2_pullOn_117 : decode cX2_pullOn 117 = .ok (.ireturn, 1) := by decide +kernel
theorem dX2_pullOn_118 : decode cX2_pullOn 118 = .ok (.iload 5, 2) := by decide +kernel
theorem dX2_pullOn_120 : decode cX2_pullOn 120 = .ok (.aload_n 0, 1) := by decide +kernel
theorem dX2_pullOn_121 : decode cX2_pullOn 121 = .ok (.getfield 18, 3) := by decide +kernel
theorem dX2_pullOn_124 : decode cX2_pullOn 124 = .ok (.isub, 1) := by decide +kernel
theorem dX2_pullOn_125 : decode cX2_pullOn 125 = .ok (.iload 4, 2) := by decide +kernel
theorem dX2_pullOn_127 : decode cX2_pullOn 127 = .ok (.isub, 1) := by decide +kernel
theorem dX2_pullOn_128 : decode cX2_pullOn 128 = .ok (.ireturn, 1) := by decide +kernel
theorem dX2_pullOn_129 : decode cX2_pullOn 129 = .ok (.aload_n 0, 1) := by decide +kernel
theorem dX2_pullOn_130 : decode cX2_pullOn 130 = .ok (.iload_n 3, 1) := by decide +kernel
theorem dX2_pullOn_131 : decode cX2_pullOn 131 = .ok (.invokevirtual 50, 3) := by decide +kernel
theorem dX2_pullOn_134 : decode cX2_pullOn 134 = .ok (.ifCond .eq 11, 3) := by decide +kernel
theorem dX2_pullOn_137 : decode cX2_pullOn 137 = .ok (.iload 5, 2) := by decide +kernel
theorem dX2_pullOn_139 : decode cX2_pullOn 139 = .ok (.bipush 20, 2) := by decide +kernel
theorem dX2_pullOn_141 : decode cX2_pullOn 141 = .ok (.isub, 1) := by decide +kernel
theorem dX2_pullOn_142 : decode cX2_pullOn 142 = .ok (.goto 5, 3) := by decide +kernel
theorem dX2_pullOn_145 : decode cX2_pullOn 145 = .ok (.iload 5, 2) := by decide +kernel
theorem dX2_pullOn_147 : decode cX2_pullOn 147 = .ok (.ireturn, 1) := by decide +kernel
theorem dX2_pullOn_148 : decode cX2_pullOn 148 = .ok (.iload 5, 2) := by decide +kernel
theorem dX2_pullOn_150 : decode cX2_pullOn 150 = .ok (.ireturn, 1) := by decide +kernel
theorem dX2_isMatchDay_0 : decode cX2_isMatchDay 0 = .ok (.aload_n 0, 1) := by decide +kernel
theorem dX2_isMatchDay_1 : decode cX2_isMatchDay 1 = .ok (.getfield 18, 3) := by decide +kernel
theorem dX2_isMatchDay_4 : decode cX2_isMatchDay 4 = .ok (.iconst 2, 1) := by decide +kernel
theorem dX2_isMatchDay_5 : decode cX2_isMatchDay 5 = .ok (.iadd, 1) := by decide +kernel
theorem dX2_isMatchDay_6 : decode cX2_isMatchDay 6 = .ok (.istore_n 2, 1) := by decide +kernel
theorem dX2_isMatchDay_7 : decode cX2_isMatchDay 7 = .ok (.iload_n 2, 1) := by decide +kernel
theorem dX2_isMatchDay_8 : decode cX2_isMatchDay 8 = .ok (.ifCond .le 13, 3) := by decide +kernel
theorem dX2_isMatchDay_11 : decode cX2_isMatchDay 11 = .ok (.iload_n 1, 1) := by decide +kernel
theorem dX2_isMatchDay_12 : decode cX2_isMatchDay 12 = .ok (.iload_n 2, 1) := by decide +kernel
theorem dX2_isMatchDay_13 : decode cX2_isMatchDay 13 = .ok (.irem, 1) := by decide +kernel
theorem dX2_isMatchDay_14 : decode cX2_isMatchDay 14 = .ok (.ifCond .ne 7, 3) := by decide +kernel
theorem dX2_isMatchDay_17 : decode cX2_isMatchDay 17 = .ok (.iconst 1, 1) := by decide +kernel
theorem dX2_isMatchDay_18 : decode cX2_isMatchDay 18 = .ok (.goto 4, 3) := by decide +kernel
theorem dX2_isMatchDay_21 : decode cX2_isMatchDay 21 = .ok (.iconst 0, 1) := by decide +kernel
theorem dX2_isMatchDay_22 : decode cX2_isMatchDay 22 = .ok (.ireturn, 1) := by decide +kernel
theorem dX2_sat_0 : decode cX2_sat 0 = .ok (.aload_n 0, 1) := by decide +kernel
theorem dX2_sat_1 : decode cX2_sat 1 = .ok (.dup, 1) := by decide +kernel
theorem dX2_sat_2 : decode cX2_sat 2 = .ok (.getfield 34, 3) := by decide +kernel
theorem dX2_sat_5 : decode cX2_sat 5 = .ok (.iconst 1, 1) := by decide +kernel
theorem dX2_sat_6 : decode cX2_sat 6 = .ok (.iadd, 1) := by decide +kernel
theorem dX2_sat_7 : decode cX2_sat 7 = .ok (.putfield 34, 3) := by decide +kernel
theorem dX2_sat_10 : decode cX2_sat 10 = .ok (.aload_n 0, 1) := by decide +kernel
theorem dX2_sat_11 : decode cX2_sat 11 = .ok (.iconst 0, 1) := by decide +kernel
theorem dX2_sat_12 : decode cX2_sat 12 = .ok (.aload_n 0, 1) := by decide +kernel
theorem dX2_sat_13 : decode cX2_sat 13 = .ok (.getfield 28, 3) := by decide +kernel
theorem dX2_sat_16 : decode cX2_sat 16 = .ok (.iconst 1, 1) := by decide +kernel
theorem dX2_sat_17 : decode cX2_sat 17 = .ok (.isub, 1) := by decide +kernel
theorem dX2_sat_18 : decode cX2_sat 18 = .ok (.invokestatic 46, 3) := by decide +kernel
theorem dX2_sat_21 : decode cX2_sat 21 = .ok (.putfield 28, 3) := by decide +kernel
theorem dX2_sat_24 : decode cX2_sat 24 = .ok (.aload_n 0, 1) := by decide +kernel
theorem dX2_sat_25 : decode cX2_sat 25 = .ok (.bipush 20, 2) := by decide +kernel
theorem dX2_sat_27 : decode cX2_sat 27 = .ok (.aload_n 0, 1) := by decide +kernel
theorem dX2_sat_28 : decode cX2_sat 28 = .ok (.getfield 21, 3) := by decide +kernel
theorem dX2_sat_31 : decode cX2_sat 31 = .ok (.iconst 1, 1) := by decide +kernel
theorem dX2_sat_32 : decode cX2_sat 32 = .ok (.iadd, 1) := by decide +kernel
theorem dX2_sat_33 : decode cX2_sat 33 = .ok (.invokestatic 54, 3) := by decide +kernel
theorem dX2_sat_36 : decode cX2_sat 36 = .ok (.putfield 21, 3) := by decide +kernel
theorem dX2_sat_39 : decode cX2_sat 39 = .ok (.aload_n 0, 1) := by decide +kernel
theorem dX2_sat_40 : decode cX2_sat 40 = .ok (.iconst 0, 1) := by decide +kernel
theorem dX2_sat_41 : decode cX2_sat 41 = .ok (.putfield 31, 3) := by decide +kernel
theorem dX2_sat_44 : decode cX2_sat 44 = .ok (.return_, 1) := by decide +kernel
theorem dX2_stayedAway_0 : decode cX2_stayedAway 0 = .ok (.aload_n 0, 1) := by decide +kernel
theorem dX2_stayedAway_1 : decode cX2_stayedAway 1 = .ok (.bipush 9, 2) := by decide +kernel
theorem dX2_stayedAway_3 : decode cX2_stayedAway 3 = .ok (.aload_n 0, 1) := by decide +kernel
theorem dX2_stayedAway_4 : decode cX2_stayedAway 4 = .ok (.getfield 28, 3) := by decide +kernel
theorem dX2_stayedAway_7 : decode cX2_stayedAway 7 = .ok (.iconst 1, 1) := by decide +kernel
theorem dX2_stayedAway_8 : decode cX2_stayedAway 8 = .ok (.iadd, 1) := by decide +kernel
theorem dX2_stayedAway_9 : decode cX2_stayedAway 9 = .ok (.invokestatic 54, 3) := by decide +kernel
theorem dX2_stayedAway_12 : decode cX2_stayedAway 12 = .ok (.putfield 28, 3) := by decide +kernel
theorem dX2_stayedAway_15 : decode cX2_stayedAway 15 = .ok (.aload_n 0, 1) := by decide +kernel
theorem dX2_stayedAway_16 : decode cX2_stayedAway 16 = .ok (.dup, 1) := by decide +kernel
theorem dX2_stayedAway_17 : decode cX2_stayedAway 17 = .ok (.getfield 31, 3) := by decide +kernel
theorem dX2_stayedAway_20 : decode cX2_stayedAway 20 = .ok (.iconst 1, 1) := by decide +kernel
theorem dX2_stayedAway_21 : decode cX2_stayedAway 21 = .ok (.iadd, 1) := by decide +kernel
theorem dX2_stayedAway_22 : decode cX2_stayedAway 22 = .ok (.putfield 31, 3) := by decide +kernel
theorem dX2_stayedAway_25 : decode cX2_stayedAway 25 = .ok (.aload_n 0, 1) := by decide +kernel
theorem dX2_stayedAway_26 : decode cX2_stayedAway 26 = .ok (.getfield 31, 3) := by decide +kernel
theorem dX2_stayedAway_29 : decode cX2_stayedAway 29 = .ok (.aload_n 0, 1) := by decide +kernel
theorem dX2_stayedAway_30 : decode cX2_stayedAway 30 = .ok (.getfield 24, 3) := by decide +kernel
theorem dX2_stayedAway_33 : decode cX2_stayedAway 33 = .ok (.ifCond .eq 7, 3) := by decide +kernel
theorem dX2_stayedAway_36 : decode cX2_stayedAway 36 = .ok (.iconst 3, 1) := by decide +kernel
theorem dX2_stayedAway_37 : decode cX2_stayedAway 37 = .ok (.goto 4, 3) := by decide +kernel
theorem dX2_stayedAway_40 : decode cX2_stayedAway 40 = .ok (.iconst 2, 1) := by decide +kernel
theorem dX2_stayedAway_41 : decode cX2_stayedAway 41 = .ok (.if_icmp .lt 8, 3) := by decide +kernel
theorem dX2_stayedAway_44 : decode cX2_stayedAway 44 = .ok (.aload_n 0, 1) := by decide +kernel
theorem dX2_stayedAway_45 : decode cX2_stayedAway 45 = .ok (.iconst 1, 1) := by decide +kernel
theorem dX2_stayedAway_46 : decode cX2_stayedAway 46 = .ok (.putfield 37, 3) := by decide +kernel
theorem dX2_stayedAway_49 : decode cX2_stayedAway 49 = .ok (.return_, 1) := by decide +kernel
theorem dX2_mark_0 : decode cX2_mark 0 = .ok (.iload_n 1, 1) := by decide +kernel
theorem dX2_mark_1 : decode cX2_mark 1 = .ok (.tableswitch 86 0 6 #[43, 48, 53, 58, 71, 76, 81], 43) := by decide +kernel
theorem dX2_mark_44 : decode cX2_mark 44 = .ok (.aload_n 0, 1) := by decide +kernel
theorem dX2_mark_45 : decode cX2_mark 45 = .ok (.getfield 15, 3) := by decide +kernel
theorem dX2_mark_48 : decode cX2_mark 48 = .ok (.ireturn, 1) := by decide +kernel
theorem dX2_mark_49 : decode cX2_mark 49 = .ok (.aload_n 0, 1) := by decide +kernel
theorem dX2_mark_50 : decode cX2_mark 50 = .ok (.getfield 18, 3) := by decide +kernel
theorem dX2_mark_53 : decode cX2_mark 53 = .ok (.ireturn, 1) := by decide +kernel
theorem dX2_mark_54 : decode cX2_mark 54 = .ok (.aload_n 0, 1) := by decide +kernel
theorem dX2_mark_55 : decode cX2_mark 55 = .ok (.getfield 21, 3) := by decide +kernel
theorem dX2_mark_58 : decode cX2_mark 58 = .ok (.ireturn, 1) := by decide +kernel
theorem dX2_mark_59 : decode cX2_mark 59 = .ok (.aload_n 0, 1) := by decide +kernel
theorem dX2_mark_60 : decode cX2_mark 60 = .ok (.getfield 24, 3) := by decide +kernel
theorem dX2_mark_63 : decode cX2_mark 63 = .ok (.ifCond .eq 7, 3) := by decide +kernel
theorem dX2_mark_66 : decode cX2_mark 66 = .ok (.iconst 1, 1) := by decide +kernel
theorem dX2_mark_67 : decode cX2_mark 67 = .ok (.goto 4, 3) := by decide +kernel
theorem dX2_mark_70 : decode cX2_mark 70 = .ok (.iconst 0, 1) := by decide +kernel
theorem dX2_mark_71 : decode cX2_mark 71 = .ok (.ireturn, 1) := by decide +kernel
theorem dX2_mark_72 : decode cX2_mark 72 = .ok (.aload_n 0, 1) := by decide +kernel
theorem dX2_mark_73 : decode cX2_mark 73 = .ok (.getfield 28, 3) := by decide +kernel
theorem dX2_mark_76 : decode cX2_mark 76 = .ok (.ireturn, 1) := by decide +kernel
theorem dX2_mark_77 : decode cX2_mark 77 = .ok (.aload_n 0, 1) := by decide +kernel
theorem dX2_mark_78 : decode cX2_mark 78 = .ok (.getfield 31, 3) := by decide +kernel
theorem dX2_mark_81 : decode cX2_mark 81 = .ok (.ireturn, 1) := by decide +kernel
theorem dX2_mark_82 : decode cX2_mark 82 = .ok (.aload_n 0, 1) := by decide +kernel
theorem dX2_mark_83 : decode cX2_mark 83 = .ok (.getfield 34, 3) := by decide +kernel
theorem dX2_mark_86 : decode cX2_mark 86 = .ok (.ireturn, 1) := by decide +kernel
theorem dX2_mark_87 : decode cX2_mark 87 = .ok (.aload_n 0, 1) := by decide +kernel
theorem dX2_mark_88 : decode cX2_mark 88 = .ok (.getfield 37, 3) := by decide +kernel
theorem dX2_mark_91 : decode cX2_mark 91 = .ok (.ifCond .eq 7, 3) := by decide +kernel
theorem dX2_mark_94 : decode cX2_mark 94 = .ok (.iconst 1, 1) := by decide +kernel
theorem dX2_mark_95 : decode cX2_mark 95 = .ok (.goto 4, 3) := by decide +kernel
theorem dX2_mark_98 : decode cX2_mark 98 = .ok (.iconst 0, 1) := by decide +kernel
theorem dX2_mark_99 : decode cX2_mark 99 = .ok (.ireturn, 1) := by decide +kernel
theorem dX2_sayingAs_0 : decode cX2_sayingAs 0 = .ok (.iload_n 1, 1) := by decide +kernel
theorem dX2_sayingAs_1 : decode cX2_sayingAs 1 = .ok (.tableswitch 54 1 6 #[39, 44, 39, 44, 49, 39], 39) := by decide +kernel
theorem dX2_sayingAs_40 : decode cX2_sayingAs 40 = .ok (.aload_n 0, 1) := by decide +kernel
theorem dX2_sayingAs_41 : decode cX2_sayingAs 41 = .ok (.getfield 34, 3) := by decide +kernel
theorem dX2_sayingAs_44 : decode cX2_sayingAs 44 = .ok (.ireturn, 1) := by decide +kernel
theorem dX2_sayingAs_45 : decode cX2_sayingAs 45 = .ok (.aload_n 0, 1) := by decide +kernel
theorem dX2_sayingAs_46 : decode cX2_sayingAs 46 = .ok (.getfield 28, 3) := by decide +kernel
theorem dX2_sayingAs_49 : decode cX2_sayingAs 49 = .ok (.ireturn, 1) := by decide +kernel
theorem dX2_sayingAs_50 : decode cX2_sayingAs 50 = .ok (.aload_n 0, 1) := by decide +kernel
theorem dX2_sayingAs_51 : decode cX2_sayingAs 51 = .ok (.getfield 18, 3) := by decide +kernel
theorem dX2_sayingAs_54 : decode cX2_sayingAs 54 = .ok (.ireturn, 1) := by decide +kernel
theorem dX2_sayingAs_55 : decode cX2_sayingAs 55 = .ok (.aload_n 0, 1) := by decide +kernel
theorem dX2_sayingAs_56 : decode cX2_sayingAs 56 = .ok (.getfield 21, 3) := by decide +kernel
theorem dX2_sayingAs_59 : decode cX2_sayingAs 59 = .ok (.ireturn, 1) := by decide +kernel
