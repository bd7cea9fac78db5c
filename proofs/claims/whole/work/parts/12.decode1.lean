theorem dX1_init_0 : decode cX1_init 0 = .ok (.aload_n 0, 1) := by decide +kernel
theorem dX1_init_1 : decode cX1_init 1 = .ok (.invokespecial 3, 3) := by decide +kernel
theorem dX1_init_4 : decode cX1_init 4 = .ok (.return_, 1) := by decide +kernel
theorem dX1_watch_0 : decode cX1_watch 0 = .ok (.aload_n 0, 1) := by decide +kernel
theorem dX1_watch_1 : decode cX1_watch 1 = .ok (.iconst 0, 1) := by decide +kernel
theorem dX1_watch_2 : decode cX1_watch 2 = .ok (.putfield 9, 3) := by decide +kernel
theorem dX1_watch_5 : decode cX1_watch 5 = .ok (.aload_n 0, 1) := by decide +kernel
theorem dX1_watch_6 : decode cX1_watch 6 = .ok (.iconst 0, 1) := by decide +kernel
theorem dX1_watch_7 : decode cX1_watch 7 = .ok (.putfield 15, 3) := by decide +kernel
theorem dX1_watch_10 : decode cX1_watch 10 = .ok (.aload_n 0, 1) := by decide +kernel
theorem dX1_watch_11 : decode cX1_watch 11 = .ok (.iconst (-1), 1) := by decide +kernel
theorem dX1_watch_12 : decode cX1_watch 12 = .ok (.putfield 18, 3) := by decide +kernel
theorem dX1_watch_15 : decode cX1_watch 15 = .ok (.aload_n 0, 1) := by decide +kernel
theorem dX1_watch_16 : decode cX1_watch 16 = .ok (.iconst (-1), 1) := by decide +kernel
theorem dX1_watch_17 : decode cX1_watch 17 = .ok (.putfield 21, 3) := by decide +kernel
theorem dX1_watch_20 : decode cX1_watch 20 = .ok (.bipush 11, 2) := by decide +kernel
theorem dX1_watch_22 : decode cX1_watch 22 = .ok (.istore_n 3, 1) := by decide +kernel
theorem dX1_watch_23 : decode cX1_watch 23 = .ok (.iconst 0, 1) := by decide +kernel
theorem dX1_watch_24 : decode cX1_watch 24 = .ok (.istore 4, 2) := by decide +kernel
theorem dX1_watch_26 : decode cX1_watch 26 = .ok (.iload 4, 2) := by decide +kernel
theorem dX1_watch_28 : decode cX1_watch 28 = .ok (.iload_n 2, 1) := by decide +kernel
theorem dX1_watch_29 : decode cX1_watch 29 = .ok (.if_icmp .ge 103, 3) := by decide +kernel
theorem dX1_watch_32 : decode cX1_watch 32 = .ok (.aload_n 1, 1) := by decide +kernel
theorem dX1_watch_33 : decode cX1_watch 33 = .ok (.iconst 0, 1) := by decide +kernel
theorem dX1_watch_34 : decode cX1_watch 34 = .ok (.invokevirtual 24, 3) := by decide +kernel
theorem dX1_watch_37 : decode cX1_watch 37 = .ok (.istore 5, 2) := by decide +kernel
theorem dX1_watch_39 : decode cX1_watch 39 = .ok (.aload_n 1, 1) := by decide +kernel
theorem dX1_watch_40 : decode cX1_watch 40 = .ok (.iload 5, 2) := by decide +kernel
theorem dX1_watch_42 : decode cX1_watch 42 = .ok (.invokevirtual 30, 3) := by decide +kernel
theorem dX1_watch_45 : decode cX1_watch 45 = .ok (.istore 6, 2) := by decide +kernel
theorem dX1_watch_47 : decode cX1_watch 47 = .ok (.iload 6, 2) := by decide +kernel
theorem dX1_watch_49 : decode cX1_watch 49 = .ok (.invokestatic 33, 3) := by decide +kernel
theorem dX1_watch_52 : decode cX1_watch 52 = .ok (.istore 7, 2) := by decide +kernel
theorem dX1_watch_54 : decode cX1_watch 54 = .ok (.aload_n 0, 1) := by decide +kernel
theorem dX1_watch_55 : decode cX1_watch 55 = .ok (.dup, 1) := by decide +kernel
theorem dX1_watch_56 : decode cX1_watch 56 = .ok (.getfield 9, 3) := by decide +kernel
theorem dX1_watch_59 : decode cX1_watch 59 = .ok (.iload 7, 2) := by decide +kernel
theorem dX1_watch_61 : decode cX1_watch 61 = .ok (.iadd, 1) := by decide +kernel
theorem dX1_watch_62 : decode cX1_watch 62 = .ok (.putfield 9, 3) := by decide +kernel
theorem dX1_watch_65 : decode cX1_watch 65 = .ok (.aload_n 0, 1) := by decide +kernel
theorem dX1_watch_66 : decode cX1_watch 66 = .ok (.dup, 1) := by decide +kernel
theorem dX1_watch_67 : decode cX1_watch 67 = .ok (.getfield 15, 3) := by decide +kernel
theorem dX1_watch_70 : decode cX1_watch 70 = .ok (.iload 5, 2) := by decide +kernel
theorem dX1_watch_72 : decode cX1_watch 72 = .ok (.invokestatic 33, 3) := by decide +kernel
theorem dX1_watch_75 : decode cX1_watch 75 = .ok (.iload 7, 2) := by decide +kernel
theorem dX1_watch_77 : decode cX1_watch 77 = .ok (.isub, 1) := by decide +kernel
theorem dX1_watch_78 : decode cX1_watch 78 = .ok (.iadd, 1) := by decide +kernel
theorem dX1_watch_79 : decode cX1_watch 79 = .ok (.putfield 15, 3) := by decide +kernel
theorem dX1_watch_82 : decode cX1_watch 82 = .ok (.iload 7, 2) := by decide +kernel
theorem dX1_watch_84 : decode cX1_watch 84 = .ok (.iload_n 3, 1) := by decide +kernel
theorem dX1_watch_85 : decode cX1_watch 85 = .ok (.if_icmp .ge 12, 3) := by decide +kernel
theorem dX1_watch_88 : decode cX1_watch 88 = .ok (.iload 7, 2) := by decide +kernel
theorem dX1_watch_90 : decode cX1_watch 90 = .ok (.istore_n 3, 1) := by decide +kernel
theorem dX1_watch_91 : decode cX1_watch 91 = .ok (.aload_n 0, 1) := by decide +kernel
theorem dX1_watch_92 : decode cX1_watch 92 = .ok (.iload 4, 2) := by decide +kernel
theorem dX1_watch_94 : decode cX1_watch 94 = .ok (.putfield 18, 3) := by decide +kernel
theorem dX1_watch_97 : decode cX1_watch 97 = .ok (.aload_n 0, 1) := by decide +kernel
theorem dX1_watch_98 : decode cX1_watch 98 = .ok (.getfield 21, 3) := by decide +kernel
theorem dX1_watch_101 : decode cX1_watch 101 = .ok (.iconst (-1), 1) := by decide +kernel
theorem dX1_watch_102 : decode cX1_watch 102 = .ok (.if_icmp .ne 18, 3) := by decide +kernel
theorem dX1_watch_105 : decode cX1_watch 105 = .ok (.iload 7, 2) := by decide +kernel
theorem dX1_watch_107 : decode cX1_watch 107 = .ok (.aload_n 1, 1) := by decide +kernel
theorem dX1_watch_108 : decode cX1_watch 108 = .ok (.getfield 38, 3) := by decide +kernel
theorem dX1_watch_111 : decode cX1_watch 111 = .ok (.if_icmp .ge 9, 3) := by decide +kernel
theorem dX1_watch_114 : decode cX1_watch 114 = .ok (.aload_n 0, 1) := by decide +kernel
theorem dX1_watch_115 : decode cX1_watch 115 = .ok (.iload 4, 2) := by decide +kernel
theorem dX1_watch_117 : decode cX1_watch 117 = .ok (.putfield 21, 3) := by decide +kernel
theorem dX1_watch_120 : decode cX1_watch 120 = .ok (.aload_n 1, 1) := by decide +kernel
theorem dX1_watch_121 : decode cX1_watch 121 = .ok (.iload 6, 2) := by decide +kernel
theorem dX1_watch_123 : decode cX1_watch 123 = .ok (.invokevirtual 41, 3) := by decide +kernel
theorem dX1_watch_126 : decode cX1_watch 126 = .ok (.iinc 4 1, 3) := by decide +kernel
theorem dX1_watch_129 : decode cX1_watch 129 = .ok (.goto (-103), 3) := by decide +kernel
theorem dX1_watch_132 : decode cX1_watch 132 = .ok (.return_, 1) := by decide +kernel
theorem dX1_firstWrong_0 : decode cX1_firstWrong 0 = .ok (.iconst 0, 1) := by decide +kernel
theorem dX1_firstWrong_1 : decode cX1_firstWrong 1 = .ok (.istore 4, 2) := by decide +kernel
theorem dX1_firstWrong_3 : decode cX1_firstWrong 3 = .ok (.iload 4, 2) := by decide +kernel
theorem dX1_firstWrong_5 : decode cX1_firstWrong 5 = .ok (.iload_n 3, 1) := by decide +kernel
theorem dX1_firstWrong_6 : decode cX1_firstWrong 6 = .ok (.if_icmp .ge 40, 3) := by decide +kernel
theorem dX1_firstWrong_9 : decode cX1_firstWrong 9 = .ok (.aload_n 1, 1) := by decide +kernel
theorem dX1_firstWrong_10 : decode cX1_firstWrong 10 = .ok (.aload_n 1, 1) := by decide +kernel
theorem dX1_firstWrong_11 : decode cX1_firstWrong 11 = .ok (.iconst 0, 1) := by decide +kernel
theorem dX1_firstWrong_12 : decode cX1_firstWrong 12 = .ok (.invokevirtual 24, 3) := by decide +kernel
theorem dX1_firstWrong_15 : decode cX1_firstWrong 15 = .ok (.invokevirtual 30, 3) := by decide +kernel
theorem dX1_firstWrong_18 : decode cX1_firstWrong 18 = .ok (.istore 5, 2) := by decide +kernel
theorem dX1_firstWrong_20 : decode cX1_firstWrong 20 = .ok (.aload_n 2, 1) := by decide +kernel
theorem dX1_firstWrong_21 : decode cX1_firstWrong 21 = .ok (.iload 4, 2) := by decide +kernel
theorem dX1_firstWrong_23 : decode cX1_firstWrong 23 = .ok (.invokevirtual 45, 3) := by decide +kernel
theorem dX1_firstWrong_26 : decode cX1_firstWrong 26 = .ok (.iload 5, 2) := by decide +kernel
theorem dX1_firstWrong_28 : decode cX1_firstWrong 28 = .ok (.if_icmp .eq 6, 3) := by decide +kernel
theorem dX1_firstWrong_31 : decode cX1_firstWrong 31 = .ok (.iload 4, 2) := by decide +kernel
theorem dX1_firstWrong_33 : decode cX1_firstWrong 33 = .ok (.ireturn, 1) := by decide +kernel
theorem dX1_firstWrong_34 : decode cX1_firstWrong 34 = .ok (.aload_n 1, 1) := by decide +kernel
theorem dX1_firstWrong_35 : decode cX1_firstWrong 35 = .ok (.iload 5, 2) := by decide +kernel
theorem dX1_firstWrong_37 : decode cX1_firstWrong 37 = .ok (.invokevirtual 41, 3) := by decide +kernel
theorem dX1_firstWrong_40 : decode cX1_firstWrong 40 = .ok (.iinc 4 1, 3) := by decide +kernel
theorem dX1_firstWrong_43 : decode cX1_firstWrong 43 = .ok (.goto (-40), 3) := by decide +kernel
theorem dX1_firstWrong_46 : decode cX1_firstWrong 46 = .ok (.iconst (-1), 1) := by decide +kernel
theorem dX1_firstWrong_47 : decode cX1_firstWrong 47 = .ok (.ireturn, 1) := by decide +kernel
