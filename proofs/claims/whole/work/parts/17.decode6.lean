theorem dX6_init_0 : decode cX6_init 0 = .ok (.aload_n 0, 1) := by decide +kernel
theorem dX6_init_1 : decode cX6_init 1 = .ok (.invokespecial 1, 3) := by decide +kernel
theorem dX6_init_4 : decode cX6_init 4 = .ok (.aload_n 0, 1) := by decide +kernel
theorem dX6_init_5 : decode cX6_init 5 = .ok (.new 7, 3) := by decide +kernel
theorem dX6_init_8 : decode cX6_init 8 = .ok (.dup, 1) := by decide +kernel
theorem dX6_init_9 : decode cX6_init 9 = .ok (.invokespecial 9, 3) := by decide +kernel
theorem dX6_init_12 : decode cX6_init 12 = .ok (.putfield 10, 3) := by decide +kernel
theorem dX6_init_15 : decode cX6_init 15 = .ok (.aload_n 0, 1) := by decide +kernel
theorem dX6_init_16 : decode cX6_init 16 = .ok (.new 7, 3) := by decide +kernel
theorem dX6_init_19 : decode cX6_init 19 = .ok (.dup, 1) := by decide +kernel
theorem dX6_init_20 : decode cX6_init 20 = .ok (.invokespecial 9, 3) := by decide +kernel
theorem dX6_init_23 : decode cX6_init 23 = .ok (.putfield 16, 3) := by decide +kernel
theorem dX6_init_26 : decode cX6_init 26 = .ok (.aload_n 0, 1) := by decide +kernel
theorem dX6_init_27 : decode cX6_init 27 = .ok (.new 7, 3) := by decide +kernel
theorem dX6_init_30 : decode cX6_init 30 = .ok (.dup, 1) := by decide +kernel
theorem dX6_init_31 : decode cX6_init 31 = .ok (.invokespecial 9, 3) := by decide +kernel
theorem dX6_init_34 : decode cX6_init 34 = .ok (.putfield 19, 3) := by decide +kernel
theorem dX6_init_37 : decode cX6_init 37 = .ok (.aload_n 0, 1) := by decide +kernel
theorem dX6_init_38 : decode cX6_init 38 = .ok (.new 22, 3) := by decide +kernel
theorem dX6_init_41 : decode cX6_init 41 = .ok (.dup, 1) := by decide +kernel
theorem dX6_init_42 : decode cX6_init 42 = .ok (.invokespecial 24, 3) := by decide +kernel
theorem dX6_init_45 : decode cX6_init 45 = .ok (.putfield 25, 3) := by decide +kernel
theorem dX6_init_48 : decode cX6_init 48 = .ok (.aload_n 0, 1) := by decide +kernel
theorem dX6_init_49 : decode cX6_init 49 = .ok (.bipush 8, 2) := by decide +kernel
theorem dX6_init_51 : decode cX6_init 51 = .ok (.anewarray 29, 3) := by decide +kernel
theorem dX6_init_54 : decode cX6_init 54 = .ok (.putfield 31, 3) := by decide +kernel
theorem dX6_init_57 : decode cX6_init 57 = .ok (.aload_n 0, 1) := by decide +kernel
theorem dX6_init_58 : decode cX6_init 58 = .ok (.new 29, 3) := by decide +kernel
theorem dX6_init_61 : decode cX6_init 61 = .ok (.dup, 1) := by decide +kernel
theorem dX6_init_62 : decode cX6_init 62 = .ok (.invokespecial 35, 3) := by decide +kernel
theorem dX6_init_65 : decode cX6_init 65 = .ok (.putfield 36, 3) := by decide +kernel
theorem dX6_init_68 : decode cX6_init 68 = .ok (.aload_n 0, 1) := by decide +kernel
theorem dX6_init_69 : decode cX6_init 69 = .ok (.new 40, 3) := by decide +kernel
theorem dX6_init_72 : decode cX6_init 72 = .ok (.dup, 1) := by decide +kernel
theorem dX6_init_73 : decode cX6_init 73 = .ok (.invokespecial 42, 3) := by decide +kernel
theorem dX6_init_76 : decode cX6_init 76 = .ok (.putfield 43, 3) := by decide +kernel
theorem dX6_init_79 : decode cX6_init 79 = .ok (.aload_n 0, 1) := by decide +kernel
theorem dX6_init_80 : decode cX6_init 80 = .ok (.new 47, 3) := by decide +kernel
theorem dX6_init_83 : decode cX6_init 83 = .ok (.dup, 1) := by decide +kernel
theorem dX6_init_84 : decode cX6_init 84 = .ok (.invokespecial 49, 3) := by decide +kernel
theorem dX6_init_87 : decode cX6_init 87 = .ok (.putfield 50, 3) := by decide +kernel
theorem dX6_init_90 : decode cX6_init 90 = .ok (.aload_n 0, 1) := by decide +kernel
theorem dX6_init_91 : decode cX6_init 91 = .ok (.bipush 8, 2) := by decide +kernel
theorem dX6_init_93 : decode cX6_init 93 = .ok (.newarray .int, 2) := by decide +kernel
theorem dX6_init_95 : decode cX6_init 95 = .ok (.putfield 54, 3) := by decide +kernel
theorem dX6_init_98 : decode cX6_init 98 = .ok (.aload_n 0, 1) := by decide +kernel
theorem dX6_init_99 : decode cX6_init 99 = .ok (.iconst (-1), 1) := by decide +kernel
theorem dX6_init_100 : decode cX6_init 100 = .ok (.putfield 58, 3) := by decide +kernel
theorem dX6_init_103 : decode cX6_init 103 = .ok (.iconst 0, 1) := by decide +kernel
theorem dX6_init_104 : decode cX6_init 104 = .ok (.istore_n 1, 1) := by decide +kernel
theorem dX6_init_105 : decode cX6_init 105 = .ok (.iload_n 1, 1) := by decide +kernel
theorem dX6_init_106 : decode cX6_init 106 = .ok (.aload_n 0, 1) := by decide +kernel
theorem dX6_init_107 : decode cX6_init 107 = .ok (.getfield 31, 3) := by decide +kernel
theorem dX6_init_110 : decode cX6_init 110 = .ok (.arraylength, 1) := by decide +kernel
theorem dX6_init_111 : decode cX6_init 111 = .ok (.if_icmp .ge 22, 3) := by decide +kernel
theorem dX6_init_114 : decode cX6_init 114 = .ok (.aload_n 0, 1) := by decide +kernel
theorem dX6_init_115 : decode cX6_init 115 = .ok (.getfield 31, 3) := by decide +kernel
theorem dX6_init_118 : decode cX6_init 118 = .ok (.iload_n 1, 1) := by decide +kernel
theorem dX6_init_119 : decode cX6_init 119 = .ok (.new 29, 3) := by decide +kernel
theorem dX6_init_122 : decode cX6_init 122 = .ok (.dup, 1) := by decide +kernel
theorem dX6_init_123 : decode cX6_init 123 = .ok (.invokespecial 35, 3) := by decide +kernel
theorem dX6_init_126 : decode cX6_init 126 = .ok (.aastore, 1) := by decide +kernel
theorem dX6_init_127 : decode cX6_init 127 = .ok (.iinc 1 1, 3) := by decide +kernel
theorem dX6_init_130 : decode cX6_init 130 = .ok (.goto (-25), 3) := by decide +kernel
theorem dX6_init_133 : decode cX6_init 133 = .ok (.return_, 1) := by decide +kernel
theorem dX6_row_0 : decode cX6_row 0 = .ok (.aload_n 0, 1) := by decide +kernel
theorem dX6_row_1 : decode cX6_row 1 = .ok (.iload_n 1, 1) := by decide +kernel
theorem dX6_row_2 : decode cX6_row 2 = .ok (.invokevirtual 62, 3) := by decide +kernel
theorem dX6_row_5 : decode cX6_row 5 = .ok (.ifCond .ne 9, 3) := by decide +kernel
theorem dX6_row_8 : decode cX6_row 8 = .ok (.aload_n 0, 1) := by decide +kernel
theorem dX6_row_9 : decode cX6_row 9 = .ok (.iconst (-1), 1) := by decide +kernel
theorem dX6_row_10 : decode cX6_row 10 = .ok (.invokevirtual 66, 3) := by decide +kernel
theorem dX6_row_13 : decode cX6_row 13 = .ok (.ireturn, 1) := by decide +kernel
theorem dX6_row_14 : decode cX6_row 14 = .ok (.iload_n 3, 1) := by decide +kernel
theorem dX6_row_15 : decode cX6_row 15 = .ok (.ifCond .ge 10, 3) := by decide +kernel
theorem dX6_row_18 : decode cX6_row 18 = .ok (.aload_n 0, 1) := by decide +kernel
theorem dX6_row_19 : decode cX6_row 19 = .ok (.bipush (-4), 2) := by decide +kernel
theorem dX6_row_21 : decode cX6_row 21 = .ok (.invokevirtual 66, 3) := by decide +kernel
theorem dX6_row_24 : decode cX6_row 24 = .ok (.ireturn, 1) := by decide +kernel
theorem dX6_row_25 : decode cX6_row 25 = .ok (.iload_n 2, 1) := by decide +kernel
theorem dX6_row_26 : decode cX6_row 26 = .ok (.ifCond .lt 8, 3) := by decide +kernel
theorem dX6_row_29 : decode cX6_row 29 = .ok (.iload_n 2, 1) := by decide +kernel
theorem dX6_row_30 : decode cX6_row 30 = .ok (.iconst 3, 1) := by decide +kernel
theorem dX6_row_31 : decode cX6_row 31 = .ok (.if_icmp .le 10, 3) := by decide +kernel
theorem dX6_row_34 : decode cX6_row 34 = .ok (.aload_n 0, 1) := by decide +kernel
theorem dX6_row_35 : decode cX6_row 35 = .ok (.bipush (-6), 2) := by decide +kernel
theorem dX6_row_37 : decode cX6_row 37 = .ok (.invokevirtual 66, 3) := by decide +kernel
theorem dX6_row_40 : decode cX6_row 40 = .ok (.ireturn, 1) := by decide +kernel
theorem dX6_row_41 : decode cX6_row 41 = .ok (.iload_n 3, 1) := by decide +kernel
theorem dX6_row_42 : decode cX6_row 42 = .ok (.sipush 160, 3) := by decide +kernel
theorem dX6_row_45 : decode cX6_row 45 = .ok (.if_icmp .le 10, 3) := by decide +kernel
theorem dX6_row_48 : decode cX6_row 48 = .ok (.aload_n 0, 1) := by decide +kernel
theorem dX6_row_49 : decode cX6_row 49 = .ok (.bipush (-7), 2) := by decide +kernel
theorem dX6_row_51 : decode cX6_row 51 = .ok (.invokevirtual 66, 3) := by decide +kernel
theorem dX6_row_54 : decode cX6_row 54 = .ok (.ireturn, 1) := by decide +kernel
theorem dX6_row_55 : decode cX6_row 55 = .ok (.aload_n 0, 1) := by decide +kernel
theorem dX6_row_56 : decode cX6_row 56 = .ok (.iload_n 1, 1) := by decide +kernel
theorem dX6_row_57 : decode cX6_row 57 = .ok (.invokevirtual 70, 3) := by decide +kernel
theorem dX6_row_60 : decode cX6_row 60 = .ok (.iload_n 2, 1) := by decide +kernel
theorem dX6_row_61 : decode cX6_row 61 = .ok (.iload_n 3, 1) := by decide +kernel
theorem dX6_row_62 : decode cX6_row 62 = .ok (.invokevirtual 74, 3) := by decide +kernel
theorem dX6_row_65 : decode cX6_row 65 = .ok (.iconst 1, 1) := by decide +kernel
theorem dX6_row_66 : decode cX6_row 66 = .ok (.ireturn, 1) := by decide +kernel
theorem dX6_set_0 : decode cX6_set 0 = .ok (.aload_n 0, 1) := by decide +kernel
theorem dX6_set_1 : decode cX6_set 1 = .ok (.iload_n 1, 1) := by decide +kernel
theorem dX6_set_2 : decode cX6_set 2 = .ok (.invokevirtual 78, 3) := by decide +kernel
theorem dX6_set_5 : decode cX6_set 5 = .ok (.istore 5, 2) := by decide +kernel
theorem dX6_set_7 : decode cX6_set 7 = .ok (.iload 5, 2) := by decide +kernel
theorem dX6_set_9 : decode cX6_set 9 = .ok (.ifCond .eq 10, 3) := by decide +kernel
theorem dX6_set_12 : decode cX6_set 12 = .ok (.aload_n 0, 1) := by decide +kernel
theorem dX6_set_13 : decode cX6_set 13 = .ok (.iload 5, 2) := by decide +kernel
theorem dX6_set_15 : decode cX6_set 15 = .ok (.invokevirtual 66, 3) := by decide +kernel
theorem dX6_set_18 : decode cX6_set 18 = .ok (.ireturn, 1) := by decide +kernel
theorem dX6_set_19 : decode cX6_set 19 = .ok (.aload_n 0, 1) := by decide +kernel
theorem dX6_set_20 : decode cX6_set 20 = .ok (.iload_n 1, 1) := by decide +kernel
theorem dX6_set_21 : decode cX6_set 21 = .ok (.invokevirtual 70, 3) := by decide +kernel
theorem dX6_set_24 : decode cX6_set 24 = .ok (.iload_n 2, 1) := by decide +kernel
theorem dX6_set_25 : decode cX6_set 25 = .ok (.invokevirtual 81, 3) := by decide +kernel
theorem dX6_set_28 : decode cX6_set 28 = .ok (.ifCond .ne 10, 3) := by decide +kernel
theorem dX6_set_31 : decode cX6_set 31 = .ok (.aload_n 0, 1) := by decide +kernel
theorem dX6_set_32 : decode cX6_set 32 = .ok (.bipush (-5), 2) := by decide +kernel
theorem dX6_set_34 : decode cX6_set 34 = .ok (.invokevirtual 66, 3) := by decide +kernel
theorem dX6_set_37 : decode cX6_set 37 = .ok (.ireturn, 1) := by decide +kernel
theorem dX6_set_38 : decode cX6_set 38 = .ok (.aload_n 0, 1) := by decide +kernel
theorem dX6_set_39 : decode cX6_set 39 = .ok (.iload_n 1, 1) := by decide +kernel
theorem dX6_set_40 : decode cX6_set 40 = .ok (.invokevirtual 70, 3) := by decide +kernel
theorem dX6_set_43 : decode cX6_set 43 = .ok (.iload_n 2, 1) := by decide +kernel
theorem dX6_set_44 : decode cX6_set 44 = .ok (.lload_n 3, 1) := by decide +kernel
theorem dX6_set_45 : decode cX6_set 45 = .ok (.invokevirtual 84, 3) := by decide +kernel
theorem dX6_set_48 : decode cX6_set 48 = .ok (.iconst 1, 1) := by decide +kernel
theorem dX6_set_49 : decode cX6_set 49 = .ok (.ireturn, 1) := by decide +kernel
theorem dX6_copy_0 : decode cX6_copy 0 = .ok (.aload_n 0, 1) := by decide +kernel
theorem dX6_copy_1 : decode cX6_copy 1 = .ok (.iload_n 1, 1) := by decide +kernel
theorem dX6_copy_2 : decode cX6_copy 2 = .ok (.invokevirtual 62, 3) := by decide +kernel
theorem dX6_copy_5 : decode cX6_copy 5 = .ok (.ifCond .eq 11, 3) := by decide +kernel
theorem dX6_copy_8 : decode cX6_copy 8 = .ok (.aload_n 0, 1) := by decide +kernel
theorem dX6_copy_9 : decode cX6_copy 9 = .ok (.iload_n 2, 1) := by decide +kernel
theorem dX6_copy_10 : decode cX6_copy 10 = .ok (.invokevirtual 62, 3) := by decide +kernel
theorem dX6_copy_13 : decode cX6_copy 13 = .ok (.ifCond .ne 9, 3) := by decide +kernel
theorem dX6_copy_16 : decode cX6_copy 16 = .ok (.aload_n 0, 1) := by decide +kernel
theorem dX6_copy_17 : decode cX6_copy 17 = .ok (.iconst (-1), 1) := by decide +kernel
theorem dX6_copy_18 : decode cX6_copy 18 = .ok (.invokevirtual 66, 3) := by decide +kernel
theorem dX6_copy_21 : decode cX6_copy 21 = .ok (.ireturn, 1) := by decide +kernel
theorem dX6_copy_22 : decode cX6_copy 22 = .ok (.aload_n 0, 1) := by decide +kernel
theorem dX6_copy_23 : decode cX6_copy 23 = .ok (.iload_n 1, 1) := by decide +kernel
theorem dX6_copy_24 : decode cX6_copy 24 = .ok (.invokevirtual 70, 3) := by decide +kernel
theorem dX6_copy_27 : decode cX6_copy 27 = .ok (.astore 6, 2) := by decide +kernel
theorem dX6_copy_29 : decode cX6_copy 29 = .ok (.aload_n 0, 1) := by decide +kernel
theorem dX6_copy_30 : decode cX6_copy 30 = .ok (.iload_n 2, 1) := by decide +kernel
theorem dX6_copy_31 : decode cX6_copy 31 = .ok (.invokevirtual 70, 3) := by decide +kernel
theorem dX6_copy_34 : decode cX6_copy 34 = .ok (.astore 7, 2) := by decide +kernel
theorem dX6_copy_36 : decode cX6_copy 36 = .ok (.aload 6, 2) := by decide +kernel
theorem dX6_copy_38 : decode cX6_copy 38 = .ok (.invokevirtual 88, 3) := by decide +kernel
theorem dX6_copy_41 : decode cX6_copy 41 = .ok (.ifCond .eq 15, 3) := by decide +kernel
theorem dX6_copy_44 : decode cX6_copy 44 = .ok (.aload 7, 2) := by decide +kernel
theorem dX6_copy_46 : decode cX6_copy 46 = .ok (.invokevirtual 88, 3) := by decide +kernel
theorem dX6_copy_49 : decode cX6_copy 49 = .ok (.ifCond .eq 7, 3) := by decide +kernel
theorem dX6_copy_52 : decode cX6_copy 52 = .ok (.iconst 1, 1) := by decide +kernel
theorem dX6_copy_53 : decode cX6_copy 53 = .ok (.goto 4, 3) := by decide +kernel
theorem dX6_copy_56 : decode cX6_copy 56 = .ok (.iconst 0, 1) := by decide +kernel
theorem dX6_copy_57 : decode cX6_copy 57 = .ok (.istore 8, 2) := by decide +kernel
theorem dX6_copy_59 : decode cX6_copy 59 = .ok (.aload 6, 2) := by decide +kernel
theorem dX6_copy_61 : decode cX6_copy 61 = .ok (.invokevirtual 92, 3) := by decide +kernel
theorem dX6_copy_64 : decode cX6_copy 64 = .ok (.ifCond .ne 29, 3) := by decide +kernel
theorem dX6_copy_67 : decode cX6_copy 67 = .ok (.aload 7, 2) := by decide +kernel
theorem dX6_copy_69 : decode cX6_copy 69 = .ok (.invokevirtual 92, 3) := by decide +kernel
theorem dX6_copy_72 : decode cX6_copy 72 = .ok (.ifCond .ne 21, 3) := by decide +kernel
theorem dX6_copy_75 : decode cX6_copy 75 = .ok (.iload 8, 2) := by decide +kernel
theorem dX6_copy_77 : decode cX6_copy 77 = .ok (.ifCond .eq 23, 3) := by decide +kernel
theorem dX6_copy_80 : decode cX6_copy 80 = .ok (.aload 6, 2) := by decide +kernel
theorem dX6_copy_82 : decode cX6_copy 82 = .ok (.getfield 95, 3) := by decide +kernel
theorem dX6_copy_85 : decode cX6_copy 85 = .ok (.aload 7, 2) := by decide +kernel
theorem dX6_copy_87 : decode cX6_copy 87 = .ok (.getfield 95, 3) := by decide +kernel
theorem dX6_copy_90 : decode cX6_copy 90 = .ok (.if_icmp .eq 10, 3) := by decide +kernel
theorem dX6_copy_93 : decode cX6_copy 93 = .ok (.aload_n 0, 1) := by decide +kernel
theorem dX6_copy_94 : decode cX6_copy 94 = .ok (.bipush (-2), 2) := by decide +kernel
theorem dX6_copy_96 : decode cX6_copy 96 = .ok (.invokevirtual 66, 3) := by decide +kernel
theorem dX6_copy_99 : decode cX6_copy 99 = .ok (.ireturn, 1) := by decide +kernel
theorem dX6_copy_100 : decode cX6_copy 100 = .ok (.iload 8, 2) := by decide +kernel
theorem dX6_copy_102 : decode cX6_copy 102 = .ok (.ifCond .ne 10, 3) := by decide +kernel
theorem dX6_copy_105 : decode cX6_copy 105 = .ok (.aload_n 0, 1) := by decide +kernel
theorem dX6_copy_106 : decode cX6_copy 106 = .ok (.bipush (-3), 2) := by decide +kernel
theorem dX6_copy_108 : decode cX6_copy 108 = .ok (.invokevirtual 66, 3) := by decide +kernel
theorem dX6_copy_111 : decode cX6_copy 111 = .ok (.ireturn, 1) := by decide +kernel
theorem dX6_copy_112 : decode cX6_copy 112 = .ok (.iload 5, 2) := by decide +kernel
theorem dX6_copy_114 : decode cX6_copy 114 = .ok (.ifCond .ge 10, 3) := by decide +kernel
theorem dX6_copy_117 : decode cX6_copy 117 = .ok (.aload_n 0, 1) := by decide +kernel
theorem dX6_copy_118 : decode cX6_copy 118 = .ok (.bipush (-4), 2) := by decide +kernel
theorem dX6_copy_120 : decode cX6_copy 120 = .ok (.invokevirtual 66, 3) := by decide +kernel
theorem dX6_copy_123 : decode cX6_copy 123 = .ok (.ireturn, 1) := by decide +kernel
theorem dX6_copy_124 : decode cX6_copy 124 = .ok (.aload 6, 2) := by decide +kernel
theorem dX6_copy_126 : decode cX6_copy 126 = .ok (.iload_n 3, 1) := by decide +kernel
theorem dX6_copy_127 : decode cX6_copy 127 = .ok (.iload 5, 2) := by decide +kernel
theorem dX6_copy_129 : decode cX6_copy 129 = .ok (.invokevirtual 98, 3) := by decide +kernel
theorem dX6_copy_132 : decode cX6_copy 132 = .ok (.ifCond .eq 15, 3) := by decide +kernel
theorem dX6_copy_135 : decode cX6_copy 135 = .ok (.aload 7, 2) := by decide +kernel
theorem dX6_copy_137 : decode cX6_copy 137 = .ok (.iload 4, 2) := by decide +kernel
theorem dX6_copy_139 : decode cX6_copy 139 = .ok (.iload 5, 2) := by decide +kernel
theorem dX6_copy_141 : decode cX6_copy 141 = .ok (.invokevirtual 98, 3) := by decide +kernel
theorem dX6_copy_144 : decode cX6_copy 144 = .ok (.ifCond .ne 10, 3) := by decide +kernel
theorem dX6_copy_147 : decode cX6_copy 147 = .ok (.aload_n 0, 1) := by decide +kernel
theorem dX6_copy_148 : decode cX6_copy 148 = .ok (.bipush (-5), 2) := by decide +kernel
theorem dX6_copy_150 : decode cX6_copy 150 = .ok (.invokevirtual 66, 3) := by decide +kernel
theorem dX6_copy_153 : decode cX6_copy 153 = .ok (.ireturn, 1) := by decide +kernel
theorem dX6_copy_154 : decode cX6_copy 154 = .ok (.aload 6, 2) := by decide +kernel
theorem dX6_copy_156 : decode cX6_copy 156 = .ok (.getfield 102, 3) := by decide +kernel
theorem dX6_copy_159 : decode cX6_copy 159 = .ok (.iload_n 3, 1) := by decide +kernel
theorem dX6_copy_160 : decode cX6_copy 160 = .ok (.aload 7, 2) := by decide +kernel
theorem dX6_copy_162 : decode cX6_copy 162 = .ok (.getfield 102, 3) := by decide +kernel
theorem dX6_copy_165 : decode cX6_copy 165 = .ok (.iload 4, 2) := by decide +kernel
theorem dX6_copy_167 : decode cX6_copy 167 = .ok (.iload 5, 2) := by decide +kernel
theorem dX6_copy_169 : decode cX6_copy 169 = .ok (.invokestatic 106, 3) := by decide +kernel
theorem dX6_copy_172 : decode cX6_copy 172 = .ok (.iconst 1, 1) := by decide +kernel
theorem dX6_copy_173 : decode cX6_copy 173 = .ok (.ireturn, 1) := by decide +kernel
theorem dX6_element_0 : decode cX6_element 0 = .ok (.aload_n 0, 1) := by decide +kernel
theorem dX6_element_1 : decode cX6_element 1 = .ok (.iload_n 1, 1) := by decide +kernel
theorem dX6_element_2 : decode cX6_element 2 = .ok (.invokevirtual 70, 3) := by decide +kernel
theorem dX6_element_5 : decode cX6_element 5 = .ok (.iload_n 2, 1) := by decide +kernel
theorem dX6_element_6 : decode cX6_element 6 = .ok (.invokevirtual 112, 3) := by decide +kernel
theorem dX6_element_9 : decode cX6_element 9 = .ok (.lreturn, 1) := by decide +kernel
theorem dX6_show_0 : decode cX6_show 0 = .ok (.aload_n 0, 1) := by decide +kernel
theorem dX6_show_1 : decode cX6_show 1 = .ok (.iload_n 1, 1) := by decide +kernel
theorem dX6_show_2 : decode cX6_show 2 = .ok (.invokevirtual 62, 3) := by decide +kernel
theorem dX6_show_5 : decode cX6_show 5 = .ok (.ifCond .eq 19, 3) := by decide +kernel
theorem dX6_show_8 : decode cX6_show 8 = .ok (.iload_n 2, 1) := by decide +kernel
theorem dX6_show_9 : decode cX6_show 9 = .ok (.iconst (-1), 1) := by decide +kernel
theorem dX6_show_10 : decode cX6_show 10 = .ok (.if_icmp .eq 20, 3) := by decide +kernel
theorem dX6_show_13 : decode cX6_show 13 = .ok (.aload_n 0, 1) := by decide +kernel
theorem dX6_show_14 : decode cX6_show 14 = .ok (.getfield 10, 3) := by decide +kernel
theorem dX6_show_17 : decode cX6_show 17 = .ok (.iload_n 2, 1) := by decide +kernel
theorem dX6_show_18 : decode cX6_show 18 = .ok (.invokevirtual 116, 3) := by decide +kernel
theorem dX6_show_21 : decode cX6_show 21 = .ok (.ifCond .ne 9, 3) := by decide +kernel
theorem dX6_show_24 : decode cX6_show 24 = .ok (.aload_n 0, 1) := by decide +kernel
theorem dX6_show_25 : decode cX6_show 25 = .ok (.iconst (-1), 1) := by decide +kernel
theorem dX6_show_26 : decode cX6_show 26 = .ok (.invokevirtual 66, 3) := by decide +kernel
theorem dX6_show_29 : decode cX6_show 29 = .ok (.ireturn, 1) := by decide +kernel
theorem dX6_show_30 : decode cX6_show 30 = .ok (.aload_n 0, 1) := by decide +kernel
theorem dX6_show_31 : decode cX6_show 31 = .ok (.iload_n 1, 1) := by decide +kernel
theorem dX6_show_32 : decode cX6_show 32 = .ok (.invokevirtual 70, 3) := by decide +kernel
theorem dX6_show_35 : decode cX6_show 35 = .ok (.iload_n 2, 1) := by decide +kernel
theorem dX6_show_36 : decode cX6_show 36 = .ok (.invokevirtual 119, 3) := by decide +kernel
theorem dX6_show_39 : decode cX6_show 39 = .ok (.iload_n 2, 1) := by decide +kernel
theorem dX6_show_40 : decode cX6_show 40 = .ok (.iconst (-1), 1) := by decide +kernel
theorem dX6_show_41 : decode cX6_show 41 = .ok (.if_icmp .ne 7, 3) := by decide +kernel
theorem dX6_show_44 : decode cX6_show 44 = .ok (.iconst 0, 1) := by decide +kernel
theorem dX6_show_45 : decode cX6_show 45 = .ok (.goto 4, 3) := by decide +kernel
theorem dX6_show_48 : decode cX6_show 48 = .ok (.iconst 1, 1) := by decide +kernel
theorem dX6_show_49 : decode cX6_show 49 = .ok (.ireturn, 1) := by decide +kernel
theorem dX6_holds_0 : decode cX6_holds 0 = .ok (.aload_n 0, 1) := by decide +kernel
theorem dX6_holds_1 : decode cX6_holds 1 = .ok (.iload_n 1, 1) := by decide +kernel
theorem dX6_holds_2 : decode cX6_holds 2 = .ok (.invokevirtual 70, 3) := by decide +kernel
theorem dX6_holds_5 : decode cX6_holds 5 = .ok (.astore_n 2, 1) := by decide +kernel
theorem dX6_holds_6 : decode cX6_holds 6 = .ok (.aload_n 2, 1) := by decide +kernel
theorem dX6_holds_7 : decode cX6_holds 7 = .ok (.invokevirtual 88, 3) := by decide +kernel
theorem dX6_holds_10 : decode cX6_holds 10 = .ok (.ifCond .eq 13, 3) := by decide +kernel
theorem dX6_holds_13 : decode cX6_holds 13 = .ok (.bipush 100, 2) := by decide +kernel
theorem dX6_holds_15 : decode cX6_holds 15 = .ok (.aload_n 2, 1) := by decide +kernel
theorem dX6_holds_16 : decode cX6_holds 16 = .ok (.getfield 95, 3) := by decide +kernel
theorem dX6_holds_19 : decode cX6_holds 19 = .ok (.iadd, 1) := by decide +kernel
theorem dX6_holds_20 : decode cX6_holds 20 = .ok (.goto 7, 3) := by decide +kernel
theorem dX6_holds_23 : decode cX6_holds 23 = .ok (.aload_n 2, 1) := by decide +kernel
theorem dX6_holds_24 : decode cX6_holds 24 = .ok (.getfield 123, 3) := by decide +kernel
theorem dX6_holds_27 : decode cX6_holds 27 = .ok (.ireturn, 1) := by decide +kernel
theorem dX6_says_0 : decode cX6_says 0 = .ok (.aload_n 0, 1) := by decide +kernel
theorem dX6_says_1 : decode cX6_says 1 = .ok (.iload_n 1, 1) := by decide +kernel
theorem dX6_says_2 : decode cX6_says 2 = .ok (.invokevirtual 62, 3) := by decide +kernel
theorem dX6_says_5 : decode cX6_says 5 = .ok (.ifCond .eq 10, 3) := by decide +kernel
theorem dX6_says_8 : decode cX6_says 8 = .ok (.iload_n 2, 1) := by decide +kernel
theorem dX6_says_9 : decode cX6_says 9 = .ok (.invokestatic 126, 3) := by decide +kernel
theorem dX6_says_12 : decode cX6_says 12 = .ok (.ifCond .ne 9, 3) := by decide +kernel
theorem dX6_says_15 : decode cX6_says 15 = .ok (.aload_n 0, 1) := by decide +kernel
theorem dX6_says_16 : decode cX6_says 16 = .ok (.iconst (-1), 1) := by decide +kernel
theorem dX6_says_17 : decode cX6_says 17 = .ok (.invokevirtual 66, 3) := by decide +kernel
theorem dX6_says_20 : decode cX6_says 20 = .ok (.ireturn, 1) := by decide +kernel
theorem dX6_says_21 : decode cX6_says 21 = .ok (.aload_n 0, 1) := by decide +kernel
theorem dX6_says_22 : decode cX6_says 22 = .ok (.iload_n 1, 1) := by decide +kernel
theorem dX6_says_23 : decode cX6_says 23 = .ok (.invokevirtual 70, 3) := by decide +kernel
theorem dX6_says_26 : decode cX6_says 26 = .ok (.astore_n 3, 1) := by decide +kernel
theorem dX6_says_27 : decode cX6_says 27 = .ok (.aload_n 0, 1) := by decide +kernel
theorem dX6_says_28 : decode cX6_says 28 = .ok (.getfield 10, 3) := by decide +kernel
theorem dX6_says_31 : decode cX6_says 31 = .ok (.aload_n 3, 1) := by decide +kernel
theorem dX6_says_32 : decode cX6_says 32 = .ok (.getfield 123, 3) := by decide +kernel
theorem dX6_says_35 : decode cX6_says 35 = .ok (.invokevirtual 129, 3) := by decide +kernel
theorem dX6_says_38 : decode cX6_says 38 = .ok (.astore 4, 2) := by decide +kernel
theorem dX6_says_40 : decode cX6_says 40 = .ok (.aload_n 3, 1) := by decide +kernel
theorem dX6_says_41 : decode cX6_says 41 = .ok (.invokevirtual 88, 3) := by decide +kernel
theorem dX6_says_44 : decode cX6_says 44 = .ok (.ifCond .ne 22, 3) := by decide +kernel
theorem dX6_says_47 : decode cX6_says 47 = .ok (.aload_n 3, 1) := by decide +kernel
theorem dX6_says_48 : decode cX6_says 48 = .ok (.invokevirtual 92, 3) := by decide +kernel
theorem dX6_says_51 : decode cX6_says 51 = .ok (.ifCond .eq 22, 3) := by decide +kernel
theorem dX6_says_54 : decode cX6_says 54 = .ok (.aload 4, 2) := by decide +kernel
theorem dX6_says_56 : decode cX6_says 56 = .ok (.getfield 133, 3) := by decide +kernel
theorem dX6_says_59 : decode cX6_says 59 = .ok (.iload_n 2, 1) := by decide +kernel
theorem dX6_says_60 : decode cX6_says 60 = .ok (.invokestatic 138, 3) := by decide +kernel
theorem dX6_says_63 : decode cX6_says 63 = .ok (.ifCond .ne 10, 3) := by decide +kernel
theorem dX6_says_66 : decode cX6_says 66 = .ok (.aload_n 0, 1) := by decide +kernel
theorem dX6_says_67 : decode cX6_says 67 = .ok (.bipush (-2), 2) := by decide +kernel
theorem dX6_says_69 : decode cX6_says 69 = .ok (.invokevirtual 66, 3) := by decide +kernel
theorem dX6_says_72 : decode cX6_says 72 = .ok (.ireturn, 1) := by decide +kernel
theorem dX6_says_73 : decode cX6_says 73 = .ok (.aload_n 3, 1) := by decide +kernel
theorem dX6_says_74 : decode cX6_says 74 = .ok (.invokevirtual 92, 3) := by decide +kernel
theorem dX6_says_77 : decode cX6_says 77 = .ok (.ifCond .eq 12, 3) := by decide +kernel
theorem dX6_says_80 : decode cX6_says 80 = .ok (.aload 4, 2) := by decide +kernel
theorem dX6_says_82 : decode cX6_says 82 = .ok (.iload_n 2, 1) := by decide +kernel
theorem dX6_says_83 : decode cX6_says 83 = .ok (.invokevirtual 141, 3) := by decide +kernel
theorem dX6_says_86 : decode cX6_says 86 = .ok (.goto 9, 3) := by decide +kernel
theorem dX6_says_89 : decode cX6_says 89 = .ok (.aload_n 0, 1) := by decide +kernel
theorem dX6_says_90 : decode cX6_says 90 = .ok (.bipush (-3), 2) := by decide +kernel
theorem dX6_says_92 : decode cX6_says 92 = .ok (.invokevirtual 66, 3) := by decide +kernel
theorem dX6_says_95 : decode cX6_says 95 = .ok (.ireturn, 1) := by decide +kernel
theorem dX6_person_0 : decode cX6_person 0 = .ok (.iload_n 1, 1) := by decide +kernel
theorem dX6_person_1 : decode cX6_person 1 = .ok (.invokestatic 126, 3) := by decide +kernel
theorem dX6_person_4 : decode cX6_person 4 = .ok (.ifCond .ne 9, 3) := by decide +kernel
theorem dX6_person_7 : decode cX6_person 7 = .ok (.aload_n 0, 1) := by decide +kernel
theorem dX6_person_8 : decode cX6_person 8 = .ok (.iconst (-1), 1) := by decide +kernel
theorem dX6_person_9 : decode cX6_person 9 = .ok (.invokevirtual 66, 3) := by decide +kernel
theorem dX6_person_12 : decode cX6_person 12 = .ok (.ireturn, 1) := by decide +kernel
theorem dX6_person_13 : decode cX6_person 13 = .ok (.iload_n 2, 1) := by decide +kernel
theorem dX6_person_14 : decode cX6_person 14 = .ok (.ifCond .lt 19, 3) := by decide +kernel
theorem dX6_person_17 : decode cX6_person 17 = .ok (.iload_n 2, 1) := by decide +kernel
theorem dX6_person_18 : decode cX6_person 18 = .ok (.bipush 9, 2) := by decide +kernel
theorem dX6_person_20 : decode cX6_person 20 = .ok (.if_icmp .gt 13, 3) := by decide +kernel
theorem dX6_person_23 : decode cX6_person 23 = .ok (.iload_n 3, 1) := by decide +kernel
theorem dX6_person_24 : decode cX6_person 24 = .ok (.ifCond .lt 9, 3) := by decide +kernel
theorem dX6_person_27 : decode cX6_person 27 = .ok (.iload_n 3, 1) := by decide +kernel
theorem dX6_person_28 : decode cX6_person 28 = .ok (.bipush 20, 2) := by decide +kernel
theorem dX6_person_30 : decode cX6_person 30 = .ok (.if_icmp .le 10, 3) := by decide +kernel
theorem dX6_person_33 : decode cX6_person 33 = .ok (.aload_n 0, 1) := by decide +kernel
theorem dX6_person_34 : decode cX6_person 34 = .ok (.bipush (-6), 2) := by decide +kernel
theorem dX6_person_36 : decode cX6_person 36 = .ok (.invokevirtual 66, 3) := by decide +kernel
theorem dX6_person_39 : decode cX6_person 39 = .ok (.ireturn, 1) := by decide +kernel
theorem dX6_person_40 : decode cX6_person 40 = .ok (.aload_n 0, 1) := by decide +kernel
theorem dX6_person_41 : decode cX6_person 41 = .ok (.getfield 10, 3) := by decide +kernel
theorem dX6_person_44 : decode cX6_person 44 = .ok (.invokevirtual 144, 3) := by decide +kernel
theorem dX6_person_47 : decode cX6_person 47 = .ok (.ifCond .eq 10, 3) := by decide +kernel
theorem dX6_person_50 : decode cX6_person 50 = .ok (.aload_n 0, 1) := by decide +kernel
theorem dX6_person_51 : decode cX6_person 51 = .ok (.bipush (-7), 2) := by decide +kernel
theorem dX6_person_53 : decode cX6_person 53 = .ok (.invokevirtual 66, 3) := by decide +kernel
theorem dX6_person_56 : decode cX6_person 56 = .ok (.ireturn, 1) := by decide +kernel
theorem dX6_person_57 : decode cX6_person 57 = .ok (.aload_n 0, 1) := by decide +kernel
theorem dX6_person_58 : decode cX6_person 58 = .ok (.getfield 10, 3) := by decide +kernel
theorem dX6_person_61 : decode cX6_person 61 = .ok (.iload_n 1, 1) := by decide +kernel
theorem dX6_person_62 : decode cX6_person 62 = .ok (.iload_n 2, 1) := by decide +kernel
theorem dX6_person_63 : decode cX6_person 63 = .ok (.iload_n 3, 1) := by decide +kernel
theorem dX6_person_64 : decode cX6_person 64 = .ok (.iload 4, 2) := by decide +kernel
theorem dX6_person_66 : decode cX6_person 66 = .ok (.invokevirtual 147, 3) := by decide +kernel
theorem dX6_person_69 : decode cX6_person 69 = .ok (.ireturn, 1) := by decide +kernel
theorem dX6_friend_0 : decode cX6_friend 0 = .ok (.aload_n 0, 1) := by decide +kernel
theorem dX6_friend_1 : decode cX6_friend 1 = .ok (.getfield 10, 3) := by decide +kernel
theorem dX6_friend_4 : decode cX6_friend 4 = .ok (.iload_n 1, 1) := by decide +kernel
theorem dX6_friend_5 : decode cX6_friend 5 = .ok (.invokevirtual 116, 3) := by decide +kernel
theorem dX6_friend_8 : decode cX6_friend 8 = .ok (.ifCond .eq 19, 3) := by decide +kernel
theorem dX6_friend_11 : decode cX6_friend 11 = .ok (.iload_n 2, 1) := by decide +kernel
theorem dX6_friend_12 : decode cX6_friend 12 = .ok (.iconst (-1), 1) := by decide +kernel
theorem dX6_friend_13 : decode cX6_friend 13 = .ok (.if_icmp .eq 23, 3) := by decide +kernel
theorem dX6_friend_16 : decode cX6_friend 16 = .ok (.aload_n 0, 1) := by decide +kernel
theorem dX6_friend_17 : decode cX6_friend 17 = .ok (.getfield 10, 3) := by decide +kernel
theorem dX6_friend_20 : decode cX6_friend 20 = .ok (.iload_n 2, 1) := by decide +kernel
theorem dX6_friend_21 : decode cX6_friend 21 = .ok (.invokevirtual 116, 3) := by decide +kernel
theorem dX6_friend_24 : decode cX6_friend 24 = .ok (.ifCond .ne 12, 3) := by decide +kernel
theorem dX6_friend_27 : decode cX6_friend 27 = .ok (.aload_n 0, 1) := by decide +kernel
theorem dX6_friend_28 : decode cX6_friend 28 = .ok (.iconst (-1), 1) := by decide +kernel
theorem dX6_friend_29 : decode cX6_friend 29 = .ok (.invokevirtual 66, 3) := by decide +kernel
theorem dX6_friend_32 : decode cX6_friend 32 = .ok (.bipush 10, 2) := by decide +kernel
theorem dX6_friend_34 : decode cX6_friend 34 = .ok (.isub, 1) := by decide +kernel
theorem dX6_friend_35 : decode cX6_friend 35 = .ok (.ireturn, 1) := by decide +kernel
theorem dX6_friend_36 : decode cX6_friend 36 = .ok (.iload_n 1, 1) := by decide +kernel
theorem dX6_friend_37 : decode cX6_friend 37 = .ok (.iload_n 2, 1) := by decide +kernel
theorem dX6_friend_38 : decode cX6_friend 38 = .ok (.if_icmp .ne 13, 3) := by decide +kernel
theorem dX6_friend_41 : decode cX6_friend 41 = .ok (.aload_n 0, 1) := by decide +kernel
theorem dX6_friend_42 : decode cX6_friend 42 = .ok (.bipush (-6), 2) := by decide +kernel
theorem dX6_friend_44 : decode cX6_friend 44 = .ok (.invokevirtual 66, 3) := by decide +kernel
theorem dX6_friend_47 : decode cX6_friend 47 = .ok (.bipush 10, 2) := by decide +kernel
theorem dX6_friend_49 : decode cX6_friend 49 = .ok (.isub, 1) := by decide +kernel
theorem dX6_friend_50 : decode cX6_friend 50 = .ok (.ireturn, 1) := by decide +kernel
theorem dX6_friend_51 : decode cX6_friend 51 = .ok (.aload_n 0, 1) := by decide +kernel
theorem dX6_friend_52 : decode cX6_friend 52 = .ok (.getfield 10, 3) := by decide +kernel
theorem dX6_friend_55 : decode cX6_friend 55 = .ok (.iload_n 1, 1) := by decide +kernel
theorem dX6_friend_56 : decode cX6_friend 56 = .ok (.invokevirtual 129, 3) := by decide +kernel
theorem dX6_friend_59 : decode cX6_friend 59 = .ok (.getfield 151, 3) := by decide +kernel
theorem dX6_friend_62 : decode cX6_friend 62 = .ok (.istore_n 3, 1) := by decide +kernel
theorem dX6_friend_63 : decode cX6_friend 63 = .ok (.aload_n 0, 1) := by decide +kernel
theorem dX6_friend_64 : decode cX6_friend 64 = .ok (.getfield 10, 3) := by decide +kernel
theorem dX6_friend_67 : decode cX6_friend 67 = .ok (.iload_n 1, 1) := by decide +kernel
theorem dX6_friend_68 : decode cX6_friend 68 = .ok (.invokevirtual 129, 3) := by decide +kernel
theorem dX6_friend_71 : decode cX6_friend 71 = .ok (.iload_n 2, 1) := by decide +kernel
theorem dX6_friend_72 : decode cX6_friend 72 = .ok (.putfield 151, 3) := by decide +kernel
theorem dX6_friend_75 : decode cX6_friend 75 = .ok (.iload_n 3, 1) := by decide +kernel
theorem dX6_friend_76 : decode cX6_friend 76 = .ok (.ireturn, 1) := by decide +kernel
theorem dX6_ask_0 : decode cX6_ask 0 = .ok (.iload_n 1, 1) := by decide +kernel
theorem dX6_ask_1 : decode cX6_ask 1 = .ok (.ifCond .lt 24, 3) := by decide +kernel
theorem dX6_ask_4 : decode cX6_ask 4 = .ok (.iload_n 1, 1) := by decide +kernel
theorem dX6_ask_5 : decode cX6_ask 5 = .ok (.iconst 3, 1) := by decide +kernel
theorem dX6_ask_6 : decode cX6_ask 6 = .ok (.if_icmp .gt 19, 3) := by decide +kernel
theorem dX6_ask_9 : decode cX6_ask 9 = .ok (.iload_n 2, 1) := by decide +kernel
theorem dX6_ask_10 : decode cX6_ask 10 = .ok (.iload_n 1, 1) := by decide +kernel
theorem dX6_ask_11 : decode cX6_ask 11 = .ok (.invokestatic 154, 3) := by decide +kernel
theorem dX6_ask_14 : decode cX6_ask 14 = .ok (.if_icmp .lt 11, 3) := by decide +kernel
theorem dX6_ask_17 : decode cX6_ask 17 = .ok (.iload_n 2, 1) := by decide +kernel
theorem dX6_ask_18 : decode cX6_ask 18 = .ok (.iload_n 1, 1) := by decide +kernel
theorem dX6_ask_19 : decode cX6_ask 19 = .ok (.invokestatic 157, 3) := by decide +kernel
theorem dX6_ask_22 : decode cX6_ask 22 = .ok (.if_icmp .le 10, 3) := by decide +kernel
theorem dX6_ask_25 : decode cX6_ask 25 = .ok (.aload_n 0, 1) := by decide +kernel
theorem dX6_ask_26 : decode cX6_ask 26 = .ok (.bipush (-6), 2) := by decide +kernel
theorem dX6_ask_28 : decode cX6_ask 28 = .ok (.invokevirtual 66, 3) := by decide +kernel
theorem dX6_ask_31 : decode cX6_ask 31 = .ok (.ireturn, 1) := by decide +kernel
theorem dX6_ask_32 : decode cX6_ask 32 = .ok (.aload_n 0, 1) := by decide +kernel
theorem dX6_ask_33 : decode cX6_ask 33 = .ok (.getfield 10, 3) := by decide +kernel
theorem dX6_ask_36 : decode cX6_ask 36 = .ok (.iload_n 1, 1) := by decide +kernel
theorem dX6_ask_37 : decode cX6_ask 37 = .ok (.invokevirtual 160, 3) := by decide +kernel
theorem dX6_ask_40 : decode cX6_ask 40 = .ok (.istore_n 3, 1) := by decide +kernel
theorem dX6_ask_41 : decode cX6_ask 41 = .ok (.aload_n 0, 1) := by decide +kernel
theorem dX6_ask_42 : decode cX6_ask 42 = .ok (.getfield 10, 3) := by decide +kernel
theorem dX6_ask_45 : decode cX6_ask 45 = .ok (.iload_n 1, 1) := by decide +kernel
theorem dX6_ask_46 : decode cX6_ask 46 = .ok (.iload_n 2, 1) := by decide +kernel
theorem dX6_ask_47 : decode cX6_ask 47 = .ok (.invokevirtual 163, 3) := by decide +kernel
theorem dX6_ask_50 : decode cX6_ask 50 = .ok (.iload_n 3, 1) := by decide +kernel
theorem dX6_ask_51 : decode cX6_ask 51 = .ok (.ireturn, 1) := by decide +kernel
theorem dX6_go_0 : decode cX6_go 0 = .ok (.aload_n 0, 1) := by decide +kernel
theorem dX6_go_1 : decode cX6_go 1 = .ok (.getfield 10, 3) := by decide +kernel
theorem dX6_go_4 : decode cX6_go 4 = .ok (.iload_n 1, 1) := by decide +kernel
theorem dX6_go_5 : decode cX6_go 5 = .ok (.invokevirtual 116, 3) := by decide +kernel
theorem dX6_go_8 : decode cX6_go 8 = .ok (.ifCond .ne 9, 3) := by decide +kernel
theorem dX6_go_11 : decode cX6_go 11 = .ok (.aload_n 0, 1) := by decide +kernel
theorem dX6_go_12 : decode cX6_go 12 = .ok (.iconst (-1), 1) := by decide +kernel
theorem dX6_go_13 : decode cX6_go 13 = .ok (.invokevirtual 66, 3) := by decide +kernel
theorem dX6_go_16 : decode cX6_go 16 = .ok (.ireturn, 1) := by decide +kernel
theorem dX6_go_17 : decode cX6_go 17 = .ok (.aload_n 0, 1) := by decide +kernel
theorem dX6_go_18 : decode cX6_go 18 = .ok (.getfield 10, 3) := by decide +kernel
theorem dX6_go_21 : decode cX6_go 21 = .ok (.iload_n 1, 1) := by decide +kernel
theorem dX6_go_22 : decode cX6_go 22 = .ok (.invokevirtual 129, 3) := by decide +kernel
theorem dX6_go_25 : decode cX6_go 25 = .ok (.astore_n 3, 1) := by decide +kernel
theorem dX6_go_26 : decode cX6_go 26 = .ok (.aload_n 3, 1) := by decide +kernel
theorem dX6_go_27 : decode cX6_go 27 = .ok (.getfield 166, 3) := by decide +kernel
theorem dX6_go_30 : decode cX6_go 30 = .ok (.ifCond .eq 7, 3) := by decide +kernel
theorem dX6_go_33 : decode cX6_go 33 = .ok (.iconst 1, 1) := by decide +kernel
theorem dX6_go_34 : decode cX6_go 34 = .ok (.goto 4, 3) := by decide +kernel
theorem dX6_go_37 : decode cX6_go 37 = .ok (.iconst 0, 1) := by decide +kernel
theorem dX6_go_38 : decode cX6_go 38 = .ok (.istore 4, 2) := by decide +kernel
theorem dX6_go_40 : decode cX6_go 40 = .ok (.aload_n 3, 1) := by decide +kernel
theorem dX6_go_41 : decode cX6_go 41 = .ok (.iload_n 2, 1) := by decide +kernel
theorem dX6_go_42 : decode cX6_go 42 = .ok (.putfield 166, 3) := by decide +kernel
theorem dX6_go_45 : decode cX6_go 45 = .ok (.iload_n 2, 1) := by decide +kernel
theorem dX6_go_46 : decode cX6_go 46 = .ok (.ifCond .ne 8, 3) := by decide +kernel
theorem dX6_go_49 : decode cX6_go 49 = .ok (.aload_n 3, 1) := by decide +kernel
theorem dX6_go_50 : decode cX6_go 50 = .ok (.iconst 0, 1) := by decide +kernel
theorem dX6_go_51 : decode cX6_go 51 = .ok (.putfield 170, 3) := by decide +kernel
theorem dX6_go_54 : decode cX6_go 54 = .ok (.iload 4, 2) := by decide +kernel
theorem dX6_go_56 : decode cX6_go 56 = .ok (.ireturn, 1) := by decide +kernel
theorem dX6_personOf_0 : decode cX6_personOf 0 = .ok (.aload_n 0, 1) := by decide +kernel
theorem dX6_personOf_1 : decode cX6_personOf 1 = .ok (.getfield 10, 3) := by decide +kernel
theorem dX6_personOf_4 : decode cX6_personOf 4 = .ok (.iload_n 1, 1) := by decide +kernel
theorem dX6_personOf_5 : decode cX6_personOf 5 = .ok (.invokevirtual 116, 3) := by decide +kernel
theorem dX6_personOf_8 : decode cX6_personOf 8 = .ok (.ifCond .eq 13, 3) := by decide +kernel
theorem dX6_personOf_11 : decode cX6_personOf 11 = .ok (.iload_n 2, 1) := by decide +kernel
theorem dX6_personOf_12 : decode cX6_personOf 12 = .ok (.ifCond .lt 9, 3) := by decide +kernel
theorem dX6_personOf_15 : decode cX6_personOf 15 = .ok (.iload_n 2, 1) := by decide +kernel
theorem dX6_personOf_16 : decode cX6_personOf 16 = .ok (.bipush 7, 2) := by decide +kernel
theorem dX6_personOf_18 : decode cX6_personOf 18 = .ok (.if_icmp .le 10, 3) := by decide +kernel
theorem dX6_personOf_21 : decode cX6_personOf 21 = .ok (.aload_n 0, 1) := by decide +kernel
theorem dX6_personOf_22 : decode cX6_personOf 22 = .ok (.bipush (-5), 2) := by decide +kernel
theorem dX6_personOf_24 : decode cX6_personOf 24 = .ok (.invokevirtual 66, 3) := by decide +kernel
theorem dX6_personOf_27 : decode cX6_personOf 27 = .ok (.ireturn, 1) := by decide +kernel
theorem dX6_personOf_28 : decode cX6_personOf 28 = .ok (.aload_n 0, 1) := by decide +kernel
theorem dX6_personOf_29 : decode cX6_personOf 29 = .ok (.getfield 10, 3) := by decide +kernel
theorem dX6_personOf_32 : decode cX6_personOf 32 = .ok (.iload_n 1, 1) := by decide +kernel
theorem dX6_personOf_33 : decode cX6_personOf 33 = .ok (.invokevirtual 129, 3) := by decide +kernel
theorem dX6_personOf_36 : decode cX6_personOf 36 = .ok (.iload_n 2, 1) := by decide +kernel
theorem dX6_personOf_37 : decode cX6_personOf 37 = .ok (.invokevirtual 173, 3) := by decide +kernel
theorem dX6_personOf_40 : decode cX6_personOf 40 = .ok (.ireturn, 1) := by decide +kernel
theorem dX6_school_0 : decode cX6_school 0 = .ok (.aload_n 0, 1) := by decide +kernel
theorem dX6_school_1 : decode cX6_school 1 = .ok (.iload_n 1, 1) := by decide +kernel
theorem dX6_school_2 : decode cX6_school 2 = .ok (.invokevirtual 78, 3) := by decide +kernel
theorem dX6_school_5 : decode cX6_school 5 = .ok (.istore_n 2, 1) := by decide +kernel
theorem dX6_school_6 : decode cX6_school 6 = .ok (.iload_n 2, 1) := by decide +kernel
theorem dX6_school_7 : decode cX6_school 7 = .ok (.ifCond .eq 9, 3) := by decide +kernel
theorem dX6_school_10 : decode cX6_school 10 = .ok (.aload_n 0, 1) := by decide +kernel
theorem dX6_school_11 : decode cX6_school 11 = .ok (.iload_n 2, 1) := by decide +kernel
theorem dX6_school_12 : decode cX6_school 12 = .ok (.invokevirtual 66, 3) := by decide +kernel
theorem dX6_school_15 : decode cX6_school 15 = .ok (.ireturn, 1) := by decide +kernel
theorem dX6_school_16 : decode cX6_school 16 = .ok (.aload_n 0, 1) := by decide +kernel
theorem dX6_school_17 : decode cX6_school 17 = .ok (.getfield 43, 3) := by decide +kernel
theorem dX6_school_20 : decode cX6_school 20 = .ok (.aload_n 0, 1) := by decide +kernel
theorem dX6_school_21 : decode cX6_school 21 = .ok (.iload_n 1, 1) := by decide +kernel
theorem dX6_school_22 : decode cX6_school 22 = .ok (.invokevirtual 70, 3) := by decide +kernel
theorem dX6_school_25 : decode cX6_school 25 = .ok (.aload_n 0, 1) := by decide +kernel
theorem dX6_school_26 : decode cX6_school 26 = .ok (.getfield 10, 3) := by decide +kernel
theorem dX6_school_29 : decode cX6_school 29 = .ok (.invokevirtual 176, 3) := by decide +kernel
theorem dX6_school_32 : decode cX6_school 32 = .ok (.istore_n 3, 1) := by decide +kernel
theorem dX6_school_33 : decode cX6_school 33 = .ok (.aload_n 0, 1) := by decide +kernel
theorem dX6_school_34 : decode cX6_school 34 = .ok (.aload_n 0, 1) := by decide +kernel
theorem dX6_school_35 : decode cX6_school 35 = .ok (.getfield 43, 3) := by decide +kernel
theorem dX6_school_38 : decode cX6_school 38 = .ok (.getfield 180, 3) := by decide +kernel
theorem dX6_school_41 : decode cX6_school 41 = .ok (.putfield 58, 3) := by decide +kernel
theorem dX6_school_44 : decode cX6_school 44 = .ok (.aload_n 0, 1) := by decide +kernel
theorem dX6_school_45 : decode cX6_school 45 = .ok (.getfield 58, 3) := by decide +kernel
theorem dX6_school_48 : decode cX6_school 48 = .ok (.iconst (-1), 1) := by decide +kernel
theorem dX6_school_49 : decode cX6_school 49 = .ok (.if_icmp .eq 10, 3) := by decide +kernel
theorem dX6_school_52 : decode cX6_school 52 = .ok (.aload_n 0, 1) := by decide +kernel
theorem dX6_school_53 : decode cX6_school 53 = .ok (.bipush (-6), 2) := by decide +kernel
theorem dX6_school_55 : decode cX6_school 55 = .ok (.invokevirtual 66, 3) := by decide +kernel
theorem dX6_school_58 : decode cX6_school 58 = .ok (.ireturn, 1) := by decide +kernel
theorem dX6_school_59 : decode cX6_school 59 = .ok (.aload_n 0, 1) := by decide +kernel
theorem dX6_school_60 : decode cX6_school 60 = .ok (.getfield 10, 3) := by decide +kernel
theorem dX6_school_63 : decode cX6_school 63 = .ok (.aload_n 0, 1) := by decide +kernel
theorem dX6_school_64 : decode cX6_school 64 = .ok (.getfield 43, 3) := by decide +kernel
theorem dX6_school_67 : decode cX6_school 67 = .ok (.getfield 183, 3) := by decide +kernel
theorem dX6_school_70 : decode cX6_school 70 = .ok (.invokevirtual 186, 3) := by decide +kernel
theorem dX6_school_73 : decode cX6_school 73 = .ok (.iload_n 3, 1) := by decide +kernel
theorem dX6_school_74 : decode cX6_school 74 = .ok (.ireturn, 1) := by decide +kernel
theorem dX6_fault_0 : decode cX6_fault 0 = .ok (.aload_n 0, 1) := by decide +kernel
theorem dX6_fault_1 : decode cX6_fault 1 = .ok (.getfield 58, 3) := by decide +kernel
theorem dX6_fault_4 : decode cX6_fault 4 = .ok (.ireturn, 1) := by decide +kernel
theorem dX6_will_0 : decode cX6_will 0 = .ok (.aload_n 0, 1) := by decide +kernel
theorem dX6_will_1 : decode cX6_will 1 = .ok (.getfield 10, 3) := by decide +kernel
theorem dX6_will_4 : decode cX6_will 4 = .ok (.iload_n 1, 1) := by decide +kernel
theorem dX6_will_5 : decode cX6_will 5 = .ok (.invokevirtual 116, 3) := by decide +kernel
theorem dX6_will_8 : decode cX6_will 8 = .ok (.ifCond .ne 13, 3) := by decide +kernel
theorem dX6_will_11 : decode cX6_will 11 = .ok (.aload_n 0, 1) := by decide +kernel
theorem dX6_will_12 : decode cX6_will 12 = .ok (.iconst (-1), 1) := by decide +kernel
theorem dX6_will_13 : decode cX6_will 13 = .ok (.invokevirtual 66, 3) := by decide +kernel
theorem dX6_will_16 : decode cX6_will 16 = .ok (.sipush 1000, 3) := by decide +kernel
theorem dX6_will_19 : decode cX6_will 19 = .ok (.isub, 1) := by decide +kernel
theorem dX6_will_20 : decode cX6_will 20 = .ok (.ireturn, 1) := by decide +kernel
theorem dX6_will_21 : decode cX6_will 21 = .ok (.aload_n 0, 1) := by decide +kernel
theorem dX6_will_22 : decode cX6_will 22 = .ok (.getfield 10, 3) := by decide +kernel
theorem dX6_will_25 : decode cX6_will 25 = .ok (.iload_n 1, 1) := by decide +kernel
theorem dX6_will_26 : decode cX6_will 26 = .ok (.invokevirtual 190, 3) := by decide +kernel
theorem dX6_will_29 : decode cX6_will 29 = .ok (.ireturn, 1) := by decide +kernel
theorem dX6_tonight_0 : decode cX6_tonight 0 = .ok (.iload_n 1, 1) := by decide +kernel
theorem dX6_tonight_1 : decode cX6_tonight 1 = .ok (.ifCond .lt 8, 3) := by decide +kernel
theorem dX6_tonight_4 : decode cX6_tonight 4 = .ok (.iload_n 1, 1) := by decide +kernel
theorem dX6_tonight_5 : decode cX6_tonight 5 = .ok (.iconst 2, 1) := by decide +kernel
theorem dX6_tonight_6 : decode cX6_tonight 6 = .ok (.if_icmp .le 10, 3) := by decide +kernel
theorem dX6_tonight_9 : decode cX6_tonight 9 = .ok (.aload_n 0, 1) := by decide +kernel
theorem dX6_tonight_10 : decode cX6_tonight 10 = .ok (.bipush (-5), 2) := by decide +kernel
theorem dX6_tonight_12 : decode cX6_tonight 12 = .ok (.invokevirtual 66, 3) := by decide +kernel
theorem dX6_tonight_15 : decode cX6_tonight 15 = .ok (.ireturn, 1) := by decide +kernel
theorem dX6_tonight_16 : decode cX6_tonight 16 = .ok (.aload_n 0, 1) := by decide +kernel
theorem dX6_tonight_17 : decode cX6_tonight 17 = .ok (.getfield 10, 3) := by decide +kernel
theorem dX6_tonight_20 : decode cX6_tonight 20 = .ok (.iconst 0, 1) := by decide +kernel
theorem dX6_tonight_21 : decode cX6_tonight 21 = .ok (.invokevirtual 193, 3) := by decide +kernel
theorem dX6_tonight_24 : decode cX6_tonight 24 = .ok (.istore_n 2, 1) := by decide +kernel
theorem dX6_tonight_25 : decode cX6_tonight 25 = .ok (.aload_n 0, 1) := by decide +kernel
theorem dX6_tonight_26 : decode cX6_tonight 26 = .ok (.getfield 10, 3) := by decide +kernel
theorem dX6_tonight_29 : decode cX6_tonight 29 = .ok (.iload_n 2, 1) := by decide +kernel
theorem dX6_tonight_30 : decode cX6_tonight 30 = .ok (.invokevirtual 196, 3) := by decide +kernel
theorem dX6_tonight_33 : decode cX6_tonight 33 = .ok (.istore_n 3, 1) := by decide +kernel
theorem dX6_tonight_34 : decode cX6_tonight 34 = .ok (.iload_n 1, 1) := by decide +kernel
theorem dX6_tonight_35 : decode cX6_tonight 35 = .ok (.ifCond .ne 7, 3) := by decide +kernel
theorem dX6_tonight_38 : decode cX6_tonight 38 = .ok (.iload_n 2, 1) := by decide +kernel
theorem dX6_tonight_39 : decode cX6_tonight 39 = .ok (.goto 17, 3) := by decide +kernel
theorem dX6_tonight_42 : decode cX6_tonight 42 = .ok (.iload_n 1, 1) := by decide +kernel
theorem dX6_tonight_43 : decode cX6_tonight 43 = .ok (.iconst 1, 1) := by decide +kernel
theorem dX6_tonight_44 : decode cX6_tonight 44 = .ok (.if_icmp .ne 7, 3) := by decide +kernel
theorem dX6_tonight_47 : decode cX6_tonight 47 = .ok (.iload_n 3, 1) := by decide +kernel
theorem dX6_tonight_48 : decode cX6_tonight 48 = .ok (.goto 8, 3) := by decide +kernel
theorem dX6_tonight_51 : decode cX6_tonight 51 = .ok (.iload_n 2, 1) := by decide +kernel
theorem dX6_tonight_52 : decode cX6_tonight 52 = .ok (.iload_n 3, 1) := by decide +kernel
theorem dX6_tonight_53 : decode cX6_tonight 53 = .ok (.iconst (-1), 1) := by decide +kernel
theorem dX6_tonight_54 : decode cX6_tonight 54 = .ok (.ixor, 1) := by decide +kernel
theorem dX6_tonight_55 : decode cX6_tonight 55 = .ok (.iand, 1) := by decide +kernel
theorem dX6_tonight_56 : decode cX6_tonight 56 = .ok (.ireturn, 1) := by decide +kernel
theorem dX6_ahead_0 : decode cX6_ahead 0 = .ok (.iload_n 2, 1) := by decide +kernel
theorem dX6_ahead_1 : decode cX6_ahead 1 = .ok (.ifCond .lt 8, 3) := by decide +kernel
theorem dX6_ahead_4 : decode cX6_ahead 4 = .ok (.iload_n 2, 1) := by decide +kernel
theorem dX6_ahead_5 : decode cX6_ahead 5 = .ok (.iconst 2, 1) := by decide +kernel
theorem dX6_ahead_6 : decode cX6_ahead 6 = .ok (.if_icmp .le 10, 3) := by decide +kernel
theorem dX6_ahead_9 : decode cX6_ahead 9 = .ok (.aload_n 0, 1) := by decide +kernel
theorem dX6_ahead_10 : decode cX6_ahead 10 = .ok (.bipush (-5), 2) := by decide +kernel
theorem dX6_ahead_12 : decode cX6_ahead 12 = .ok (.invokevirtual 66, 3) := by decide +kernel
theorem dX6_ahead_15 : decode cX6_ahead 15 = .ok (.ireturn, 1) := by decide +kernel
theorem dX6_ahead_16 : decode cX6_ahead 16 = .ok (.iload_n 1, 1) := by decide +kernel
theorem dX6_ahead_17 : decode cX6_ahead 17 = .ok (.invokestatic 199, 3) := by decide +kernel
theorem dX6_ahead_20 : decode cX6_ahead 20 = .ok (.ifCond .ne 10, 3) := by decide +kernel
theorem dX6_ahead_23 : decode cX6_ahead 23 = .ok (.aload_n 0, 1) := by decide +kernel
theorem dX6_ahead_24 : decode cX6_ahead 24 = .ok (.bipush (-6), 2) := by decide +kernel
theorem dX6_ahead_26 : decode cX6_ahead 26 = .ok (.invokevirtual 66, 3) := by decide +kernel
theorem dX6_ahead_29 : decode cX6_ahead 29 = .ok (.ireturn, 1) := by decide +kernel
theorem dX6_ahead_30 : decode cX6_ahead 30 = .ok (.aload_n 0, 1) := by decide +kernel
theorem dX6_ahead_31 : decode cX6_ahead 31 = .ok (.getfield 16, 3) := by decide +kernel
theorem dX6_ahead_34 : decode cX6_ahead 34 = .ok (.aload_n 0, 1) := by decide +kernel
theorem dX6_ahead_35 : decode cX6_ahead 35 = .ok (.getfield 10, 3) := by decide +kernel
theorem dX6_ahead_38 : decode cX6_ahead 38 = .ok (.invokevirtual 186, 3) := by decide +kernel
theorem dX6_ahead_41 : decode cX6_ahead 41 = .ok (.aload_n 0, 1) := by decide +kernel
theorem dX6_ahead_42 : decode cX6_ahead 42 = .ok (.getfield 25, 3) := by decide +kernel
theorem dX6_ahead_45 : decode cX6_ahead 45 = .ok (.aload_n 0, 1) := by decide +kernel
theorem dX6_ahead_46 : decode cX6_ahead 46 = .ok (.getfield 16, 3) := by decide +kernel
theorem dX6_ahead_49 : decode cX6_ahead 49 = .ok (.iload_n 1, 1) := by decide +kernel
theorem dX6_ahead_50 : decode cX6_ahead 50 = .ok (.invokevirtual 202, 3) := by decide +kernel
theorem dX6_ahead_53 : decode cX6_ahead 53 = .ok (.iload_n 2, 1) := by decide +kernel
theorem dX6_ahead_54 : decode cX6_ahead 54 = .ok (.ifCond .ne 16, 3) := by decide +kernel
theorem dX6_ahead_57 : decode cX6_ahead 57 = .ok (.aload_n 0, 1) := by decide +kernel
theorem dX6_ahead_58 : decode cX6_ahead 58 = .ok (.getfield 16, 3) := by decide +kernel
theorem dX6_ahead_61 : decode cX6_ahead 61 = .ok (.invokevirtual 206, 3) := by decide +kernel
theorem dX6_ahead_64 : decode cX6_ahead 64 = .ok (.invokestatic 210, 3) := by decide +kernel
theorem dX6_ahead_67 : decode cX6_ahead 67 = .ok (.goto 25, 3) := by decide +kernel
theorem dX6_ahead_70 : decode cX6_ahead 70 = .ok (.iload_n 2, 1) := by decide +kernel
theorem dX6_ahead_71 : decode cX6_ahead 71 = .ok (.iconst 1, 1) := by decide +kernel
theorem dX6_ahead_72 : decode cX6_ahead 72 = .ok (.if_icmp .ne 13, 3) := by decide +kernel
theorem dX6_ahead_75 : decode cX6_ahead 75 = .ok (.aload_n 0, 1) := by decide +kernel
theorem dX6_ahead_76 : decode cX6_ahead 76 = .ok (.getfield 25, 3) := by decide +kernel
theorem dX6_ahead_79 : decode cX6_ahead 79 = .ok (.getfield 215, 3) := by decide +kernel
theorem dX6_ahead_82 : decode cX6_ahead 82 = .ok (.goto 10, 3) := by decide +kernel
theorem dX6_ahead_85 : decode cX6_ahead 85 = .ok (.aload_n 0, 1) := by decide +kernel
theorem dX6_ahead_86 : decode cX6_ahead 86 = .ok (.getfield 25, 3) := by decide +kernel
theorem dX6_ahead_89 : decode cX6_ahead 89 = .ok (.getfield 218, 3) := by decide +kernel
theorem dX6_ahead_92 : decode cX6_ahead 92 = .ok (.ireturn, 1) := by decide +kernel
theorem dX6_worst_0 : decode cX6_worst 0 = .ok (.iload_n 2, 1) := by decide +kernel
theorem dX6_worst_1 : decode cX6_worst 1 = .ok (.ifCond .lt 8, 3) := by decide +kernel
theorem dX6_worst_4 : decode cX6_worst 4 = .ok (.iload_n 2, 1) := by decide +kernel
theorem dX6_worst_5 : decode cX6_worst 5 = .ok (.iconst 1, 1) := by decide +kernel
theorem dX6_worst_6 : decode cX6_worst 6 = .ok (.if_icmp .le 13, 3) := by decide +kernel
theorem dX6_worst_9 : decode cX6_worst 9 = .ok (.aload_n 0, 1) := by decide +kernel
theorem dX6_worst_10 : decode cX6_worst 10 = .ok (.bipush (-5), 2) := by decide +kernel
theorem dX6_worst_12 : decode cX6_worst 12 = .ok (.invokevirtual 66, 3) := by decide +kernel
theorem dX6_worst_15 : decode cX6_worst 15 = .ok (.bipush 10, 2) := by decide +kernel
theorem dX6_worst_17 : decode cX6_worst 17 = .ok (.isub, 1) := by decide +kernel
theorem dX6_worst_18 : decode cX6_worst 18 = .ok (.ireturn, 1) := by decide +kernel
theorem dX6_worst_19 : decode cX6_worst 19 = .ok (.iload_n 1, 1) := by decide +kernel
theorem dX6_worst_20 : decode cX6_worst 20 = .ok (.ifCond .eq 10, 3) := by decide +kernel
theorem dX6_worst_23 : decode cX6_worst 23 = .ok (.iload_n 1, 1) := by decide +kernel
theorem dX6_worst_24 : decode cX6_worst 24 = .ok (.invokestatic 199, 3) := by decide +kernel
theorem dX6_worst_27 : decode cX6_worst 27 = .ok (.ifCond .ne 13, 3) := by decide +kernel
theorem dX6_worst_30 : decode cX6_worst 30 = .ok (.aload_n 0, 1) := by decide +kernel
theorem dX6_worst_31 : decode cX6_worst 31 = .ok (.bipush (-6), 2) := by decide +kernel
theorem dX6_worst_33 : decode cX6_worst 33 = .ok (.invokevirtual 66, 3) := by decide +kernel
theorem dX6_worst_36 : decode cX6_worst 36 = .ok (.bipush 10, 2) := by decide +kernel
theorem dX6_worst_38 : decode cX6_worst 38 = .ok (.isub, 1) := by decide +kernel
theorem dX6_worst_39 : decode cX6_worst 39 = .ok (.ireturn, 1) := by decide +kernel
theorem dX6_worst_40 : decode cX6_worst 40 = .ok (.aload_n 0, 1) := by decide +kernel
theorem dX6_worst_41 : decode cX6_worst 41 = .ok (.getfield 16, 3) := by decide +kernel
theorem dX6_worst_44 : decode cX6_worst 44 = .ok (.aload_n 0, 1) := by decide +kernel
theorem dX6_worst_45 : decode cX6_worst 45 = .ok (.getfield 10, 3) := by decide +kernel
theorem dX6_worst_48 : decode cX6_worst 48 = .ok (.invokevirtual 186, 3) := by decide +kernel
theorem dX6_worst_51 : decode cX6_worst 51 = .ok (.aload_n 0, 1) := by decide +kernel
theorem dX6_worst_52 : decode cX6_worst 52 = .ok (.getfield 25, 3) := by decide +kernel
theorem dX6_worst_55 : decode cX6_worst 55 = .ok (.aload_n 0, 1) := by decide +kernel
theorem dX6_worst_56 : decode cX6_worst 56 = .ok (.getfield 16, 3) := by decide +kernel
theorem dX6_worst_59 : decode cX6_worst 59 = .ok (.iload_n 1, 1) := by decide +kernel
theorem dX6_worst_60 : decode cX6_worst 60 = .ok (.invokevirtual 202, 3) := by decide +kernel
theorem dX6_worst_63 : decode cX6_worst 63 = .ok (.iload_n 2, 1) := by decide +kernel
theorem dX6_worst_64 : decode cX6_worst 64 = .ok (.ifCond .ne 13, 3) := by decide +kernel
theorem dX6_worst_67 : decode cX6_worst 67 = .ok (.aload_n 0, 1) := by decide +kernel
theorem dX6_worst_68 : decode cX6_worst 68 = .ok (.getfield 25, 3) := by decide +kernel
theorem dX6_worst_71 : decode cX6_worst 71 = .ok (.getfield 221, 3) := by decide +kernel
theorem dX6_worst_74 : decode cX6_worst 74 = .ok (.goto 10, 3) := by decide +kernel
theorem dX6_worst_77 : decode cX6_worst 77 = .ok (.aload_n 0, 1) := by decide +kernel
theorem dX6_worst_78 : decode cX6_worst 78 = .ok (.getfield 25, 3) := by decide +kernel
theorem dX6_worst_81 : decode cX6_worst 81 = .ok (.getfield 224, 3) := by decide +kernel
theorem dX6_worst_84 : decode cX6_worst 84 = .ok (.ireturn, 1) := by decide +kernel
theorem dX6_ones_0 : decode cX6_ones 0 = .ok (.aload_n 0, 1) := by decide +kernel
theorem dX6_ones_1 : decode cX6_ones 1 = .ok (.getfield 10, 3) := by decide +kernel
theorem dX6_ones_4 : decode cX6_ones 4 = .ok (.iload_n 1, 1) := by decide +kernel
theorem dX6_ones_5 : decode cX6_ones 5 = .ok (.invokevirtual 116, 3) := by decide +kernel
theorem dX6_ones_8 : decode cX6_ones 8 = .ok (.ifCond .ne 9, 3) := by decide +kernel
theorem dX6_ones_11 : decode cX6_ones 11 = .ok (.aload_n 0, 1) := by decide +kernel
theorem dX6_ones_12 : decode cX6_ones 12 = .ok (.iconst (-1), 1) := by decide +kernel
theorem dX6_ones_13 : decode cX6_ones 13 = .ok (.invokevirtual 66, 3) := by decide +kernel
theorem dX6_ones_16 : decode cX6_ones 16 = .ok (.ireturn, 1) := by decide +kernel
theorem dX6_ones_17 : decode cX6_ones 17 = .ok (.iload_n 3, 1) := by decide +kernel
theorem dX6_ones_18 : decode cX6_ones 18 = .ok (.ifCond .lt 8, 3) := by decide +kernel
theorem dX6_ones_21 : decode cX6_ones 21 = .ok (.iload_n 3, 1) := by decide +kernel
theorem dX6_ones_22 : decode cX6_ones 22 = .ok (.iconst 1, 1) := by decide +kernel
theorem dX6_ones_23 : decode cX6_ones 23 = .ok (.if_icmp .le 10, 3) := by decide +kernel
theorem dX6_ones_26 : decode cX6_ones 26 = .ok (.aload_n 0, 1) := by decide +kernel
theorem dX6_ones_27 : decode cX6_ones 27 = .ok (.bipush (-5), 2) := by decide +kernel
theorem dX6_ones_29 : decode cX6_ones 29 = .ok (.invokevirtual 66, 3) := by decide +kernel
theorem dX6_ones_32 : decode cX6_ones 32 = .ok (.ireturn, 1) := by decide +kernel
theorem dX6_ones_33 : decode cX6_ones 33 = .ok (.iload_n 2, 1) := by decide +kernel
theorem dX6_ones_34 : decode cX6_ones 34 = .ok (.invokestatic 199, 3) := by decide +kernel
theorem dX6_ones_37 : decode cX6_ones 37 = .ok (.ifCond .ne 10, 3) := by decide +kernel
theorem dX6_ones_40 : decode cX6_ones 40 = .ok (.aload_n 0, 1) := by decide +kernel
theorem dX6_ones_41 : decode cX6_ones 41 = .ok (.bipush (-6), 2) := by decide +kernel
theorem dX6_ones_43 : decode cX6_ones 43 = .ok (.invokevirtual 66, 3) := by decide +kernel
theorem dX6_ones_46 : decode cX6_ones 46 = .ok (.ireturn, 1) := by decide +kernel
theorem dX6_ones_47 : decode cX6_ones 47 = .ok (.aload_n 0, 1) := by decide +kernel
theorem dX6_ones_48 : decode cX6_ones 48 = .ok (.getfield 16, 3) := by decide +kernel
theorem dX6_ones_51 : decode cX6_ones 51 = .ok (.aload_n 0, 1) := by decide +kernel
theorem dX6_ones_52 : decode cX6_ones 52 = .ok (.getfield 10, 3) := by decide +kernel
theorem dX6_ones_55 : decode cX6_ones 55 = .ok (.invokevirtual 186, 3) := by decide +kernel
theorem dX6_ones_58 : decode cX6_ones 58 = .ok (.aload_n 0, 1) := by decide +kernel
theorem dX6_ones_59 : decode cX6_ones 59 = .ok (.getfield 25, 3) := by decide +kernel
theorem dX6_ones_62 : decode cX6_ones 62 = .ok (.aload_n 0, 1) := by decide +kernel
theorem dX6_ones_63 : decode cX6_ones 63 = .ok (.getfield 16, 3) := by decide +kernel
theorem dX6_ones_66 : decode cX6_ones 66 = .ok (.iload_n 2, 1) := by decide +kernel
theorem dX6_ones_67 : decode cX6_ones 67 = .ok (.invokevirtual 202, 3) := by decide +kernel
theorem dX6_ones_70 : decode cX6_ones 70 = .ok (.iload_n 3, 1) := by decide +kernel
theorem dX6_ones_71 : decode cX6_ones 71 = .ok (.ifCond .ne 17, 3) := by decide +kernel
theorem dX6_ones_74 : decode cX6_ones 74 = .ok (.aload_n 0, 1) := by decide +kernel
theorem dX6_ones_75 : decode cX6_ones 75 = .ok (.getfield 16, 3) := by decide +kernel
theorem dX6_ones_78 : decode cX6_ones 78 = .ok (.iload_n 1, 1) := by decide +kernel
theorem dX6_ones_79 : decode cX6_ones 79 = .ok (.invokevirtual 129, 3) := by decide +kernel
theorem dX6_ones_82 : decode cX6_ones 82 = .ok (.getfield 227, 3) := by decide +kernel
theorem dX6_ones_85 : decode cX6_ones 85 = .ok (.goto 14, 3) := by decide +kernel
theorem dX6_ones_88 : decode cX6_ones 88 = .ok (.aload_n 0, 1) := by decide +kernel
theorem dX6_ones_89 : decode cX6_ones 89 = .ok (.getfield 16, 3) := by decide +kernel
theorem dX6_ones_92 : decode cX6_ones 92 = .ok (.iload_n 1, 1) := by decide +kernel
theorem dX6_ones_93 : decode cX6_ones 93 = .ok (.invokevirtual 129, 3) := by decide +kernel
theorem dX6_ones_96 : decode cX6_ones 96 = .ok (.getfield 230, 3) := by decide +kernel
theorem dX6_ones_99 : decode cX6_ones 99 = .ok (.ireturn, 1) := by decide +kernel
theorem dX6_ring_0 : decode cX6_ring 0 = .ok (.iload_n 2, 1) := by decide +kernel
theorem dX6_ring_1 : decode cX6_ring 1 = .ok (.ifCond .lt 8, 3) := by decide +kernel
theorem dX6_ring_4 : decode cX6_ring 4 = .ok (.iload_n 2, 1) := by decide +kernel
theorem dX6_ring_5 : decode cX6_ring 5 = .ok (.iconst 1, 1) := by decide +kernel
theorem dX6_ring_6 : decode cX6_ring 6 = .ok (.if_icmp .le 13, 3) := by decide +kernel
theorem dX6_ring_9 : decode cX6_ring 9 = .ok (.aload_n 0, 1) := by decide +kernel
theorem dX6_ring_10 : decode cX6_ring 10 = .ok (.bipush (-5), 2) := by decide +kernel
theorem dX6_ring_12 : decode cX6_ring 12 = .ok (.invokevirtual 66, 3) := by decide +kernel
theorem dX6_ring_15 : decode cX6_ring 15 = .ok (.bipush 10, 2) := by decide +kernel
theorem dX6_ring_17 : decode cX6_ring 17 = .ok (.isub, 1) := by decide +kernel
theorem dX6_ring_18 : decode cX6_ring 18 = .ok (.ireturn, 1) := by decide +kernel
theorem dX6_ring_19 : decode cX6_ring 19 = .ok (.iload_n 1, 1) := by decide +kernel
theorem dX6_ring_20 : decode cX6_ring 20 = .ok (.ifCond .lt 8, 3) := by decide +kernel
theorem dX6_ring_23 : decode cX6_ring 23 = .ok (.iload_n 1, 1) := by decide +kernel
theorem dX6_ring_24 : decode cX6_ring 24 = .ok (.iconst 3, 1) := by decide +kernel
theorem dX6_ring_25 : decode cX6_ring 25 = .ok (.if_icmp .le 13, 3) := by decide +kernel
theorem dX6_ring_28 : decode cX6_ring 28 = .ok (.aload_n 0, 1) := by decide +kernel
theorem dX6_ring_29 : decode cX6_ring 29 = .ok (.bipush (-6), 2) := by decide +kernel
theorem dX6_ring_31 : decode cX6_ring 31 = .ok (.invokevirtual 66, 3) := by decide +kernel
theorem dX6_ring_34 : decode cX6_ring 34 = .ok (.bipush 10, 2) := by decide +kernel
theorem dX6_ring_36 : decode cX6_ring 36 = .ok (.isub, 1) := by decide +kernel
theorem dX6_ring_37 : decode cX6_ring 37 = .ok (.ireturn, 1) := by decide +kernel
theorem dX6_ring_38 : decode cX6_ring 38 = .ok (.aload_n 0, 1) := by decide +kernel
theorem dX6_ring_39 : decode cX6_ring 39 = .ok (.getfield 10, 3) := by decide +kernel
theorem dX6_ring_42 : decode cX6_ring 42 = .ok (.invokevirtual 206, 3) := by decide +kernel
theorem dX6_ring_45 : decode cX6_ring 45 = .ok (.istore_n 3, 1) := by decide +kernel
theorem dX6_ring_46 : decode cX6_ring 46 = .ok (.iconst (-1), 1) := by decide +kernel
theorem dX6_ring_47 : decode cX6_ring 47 = .ok (.istore 4, 2) := by decide +kernel
theorem dX6_ring_49 : decode cX6_ring 49 = .ok (.iconst (-1), 1) := by decide +kernel
theorem dX6_ring_50 : decode cX6_ring 50 = .ok (.istore 5, 2) := by decide +kernel
theorem dX6_ring_52 : decode cX6_ring 52 = .ok (.iconst 0, 1) := by decide +kernel
theorem dX6_ring_53 : decode cX6_ring 53 = .ok (.istore 6, 2) := by decide +kernel
theorem dX6_ring_55 : decode cX6_ring 55 = .ok (.iload 6, 2) := by decide +kernel
theorem dX6_ring_57 : decode cX6_ring 57 = .ok (.sipush 1024, 3) := by decide +kernel
theorem dX6_ring_60 : decode cX6_ring 60 = .ok (.if_icmp .ge 66, 3) := by decide +kernel
theorem dX6_ring_63 : decode cX6_ring 63 = .ok (.iload 6, 2) := by decide +kernel
theorem dX6_ring_65 : decode cX6_ring 65 = .ok (.iload_n 3, 1) := by decide +kernel
theorem dX6_ring_66 : decode cX6_ring 66 = .ok (.iconst (-1), 1) := by decide +kernel
theorem dX6_ring_67 : decode cX6_ring 67 = .ok (.ixor, 1) := by decide +kernel
theorem dX6_ring_68 : decode cX6_ring 68 = .ok (.iand, 1) := by decide +kernel
theorem dX6_ring_69 : decode cX6_ring 69 = .ok (.ifCond .ne 51, 3) := by decide +kernel
theorem dX6_ring_72 : decode cX6_ring 72 = .ok (.iload 6, 2) := by decide +kernel
theorem dX6_ring_74 : decode cX6_ring 74 = .ok (.invokestatic 210, 3) := by decide +kernel
theorem dX6_ring_77 : decode cX6_ring 77 = .ok (.iload_n 1, 1) := by decide +kernel
theorem dX6_ring_78 : decode cX6_ring 78 = .ok (.if_icmp .eq 6, 3) := by decide +kernel
theorem dX6_ring_81 : decode cX6_ring 81 = .ok (.goto 39, 3) := by decide +kernel
theorem dX6_ring_84 : decode cX6_ring 84 = .ok (.aload_n 0, 1) := by decide +kernel
theorem dX6_ring_85 : decode cX6_ring 85 = .ok (.getfield 10, 3) := by decide +kernel
theorem dX6_ring_88 : decode cX6_ring 88 = .ok (.aload_n 0, 1) := by decide +kernel
theorem dX6_ring_89 : decode cX6_ring 89 = .ok (.getfield 10, 3) := by decide +kernel
theorem dX6_ring_92 : decode cX6_ring 92 = .ok (.iload 6, 2) := by decide +kernel
theorem dX6_ring_94 : decode cX6_ring 94 = .ok (.invokevirtual 193, 3) := by decide +kernel
theorem dX6_ring_97 : decode cX6_ring 97 = .ok (.invokevirtual 196, 3) := by decide +kernel
theorem dX6_ring_100 : decode cX6_ring 100 = .ok (.invokestatic 210, 3) := by decide +kernel
theorem dX6_ring_103 : decode cX6_ring 103 = .ok (.istore 7, 2) := by decide +kernel
theorem dX6_ring_105 : decode cX6_ring 105 = .ok (.iload 7, 2) := by decide +kernel
theorem dX6_ring_107 : decode cX6_ring 107 = .ok (.iload 5, 2) := by decide +kernel
theorem dX6_ring_109 : decode cX6_ring 109 = .ok (.if_icmp .le 11, 3) := by decide +kernel
theorem dX6_ring_112 : decode cX6_ring 112 = .ok (.iload 7, 2) := by decide +kernel
theorem dX6_ring_114 : decode cX6_ring 114 = .ok (.istore 5, 2) := by decide +kernel
theorem dX6_ring_116 : decode cX6_ring 116 = .ok (.iload 6, 2) := by decide +kernel
theorem dX6_ring_118 : decode cX6_ring 118 = .ok (.istore 4, 2) := by decide +kernel
theorem dX6_ring_120 : decode cX6_ring 120 = .ok (.iinc 6 1, 3) := by decide +kernel
theorem dX6_ring_123 : decode cX6_ring 123 = .ok (.goto (-68), 3) := by decide +kernel
theorem dX6_ring_126 : decode cX6_ring 126 = .ok (.iload_n 2, 1) := by decide +kernel
theorem dX6_ring_127 : decode cX6_ring 127 = .ok (.ifCond .ne 8, 3) := by decide +kernel
theorem dX6_ring_130 : decode cX6_ring 130 = .ok (.iload 4, 2) := by decide +kernel
theorem dX6_ring_132 : decode cX6_ring 132 = .ok (.goto 5, 3) := by decide +kernel
theorem dX6_ring_135 : decode cX6_ring 135 = .ok (.iload 5, 2) := by decide +kernel
theorem dX6_ring_137 : decode cX6_ring 137 = .ok (.ireturn, 1) := by decide +kernel
theorem dX6_begin_0 : decode cX6_begin 0 = .ok (.iload_n 1, 1) := by decide +kernel
theorem dX6_begin_1 : decode cX6_begin 1 = .ok (.invokestatic 199, 3) := by decide +kernel
theorem dX6_begin_4 : decode cX6_begin 4 = .ok (.ifCond .ne 10, 3) := by decide +kernel
theorem dX6_begin_7 : decode cX6_begin 7 = .ok (.aload_n 0, 1) := by decide +kernel
theorem dX6_begin_8 : decode cX6_begin 8 = .ok (.bipush (-6), 2) := by decide +kernel
theorem dX6_begin_10 : decode cX6_begin 10 = .ok (.invokevirtual 66, 3) := by decide +kernel
theorem dX6_begin_13 : decode cX6_begin 13 = .ok (.ireturn, 1) := by decide +kernel
theorem dX6_begin_14 : decode cX6_begin 14 = .ok (.iconst 0, 1) := by decide +kernel
theorem dX6_begin_15 : decode cX6_begin 15 = .ok (.istore_n 2, 1) := by decide +kernel
theorem dX6_begin_16 : decode cX6_begin 16 = .ok (.iconst (-1), 1) := by decide +kernel
theorem dX6_begin_17 : decode cX6_begin 17 = .ok (.istore_n 3, 1) := by decide +kernel
theorem dX6_begin_18 : decode cX6_begin 18 = .ok (.iconst 0, 1) := by decide +kernel
theorem dX6_begin_19 : decode cX6_begin 19 = .ok (.invokestatic 154, 3) := by decide +kernel
theorem dX6_begin_22 : decode cX6_begin 22 = .ok (.istore 4, 2) := by decide +kernel
theorem dX6_begin_24 : decode cX6_begin 24 = .ok (.iload 4, 2) := by decide +kernel
theorem dX6_begin_26 : decode cX6_begin 26 = .ok (.iconst 0, 1) := by decide +kernel
theorem dX6_begin_27 : decode cX6_begin 27 = .ok (.invokestatic 157, 3) := by decide +kernel
theorem dX6_begin_30 : decode cX6_begin 30 = .ok (.if_icmp .gt 64, 3) := by decide +kernel
theorem dX6_begin_33 : decode cX6_begin 33 = .ok (.aload_n 0, 1) := by decide +kernel
theorem dX6_begin_34 : decode cX6_begin 34 = .ok (.getfield 16, 3) := by decide +kernel
theorem dX6_begin_37 : decode cX6_begin 37 = .ok (.aload_n 0, 1) := by decide +kernel
theorem dX6_begin_38 : decode cX6_begin 38 = .ok (.getfield 10, 3) := by decide +kernel
theorem dX6_begin_41 : decode cX6_begin 41 = .ok (.invokevirtual 186, 3) := by decide +kernel
theorem dX6_begin_44 : decode cX6_begin 44 = .ok (.aload_n 0, 1) := by decide +kernel
theorem dX6_begin_45 : decode cX6_begin 45 = .ok (.getfield 16, 3) := by decide +kernel
theorem dX6_begin_48 : decode cX6_begin 48 = .ok (.iconst 0, 1) := by decide +kernel
theorem dX6_begin_49 : decode cX6_begin 49 = .ok (.iload 4, 2) := by decide +kernel
theorem dX6_begin_51 : decode cX6_begin 51 = .ok (.invokevirtual 163, 3) := by decide +kernel
theorem dX6_begin_54 : decode cX6_begin 54 = .ok (.aload_n 0, 1) := by decide +kernel
theorem dX6_begin_55 : decode cX6_begin 55 = .ok (.getfield 25, 3) := by decide +kernel
theorem dX6_begin_58 : decode cX6_begin 58 = .ok (.aload_n 0, 1) := by decide +kernel
theorem dX6_begin_59 : decode cX6_begin 59 = .ok (.getfield 16, 3) := by decide +kernel
theorem dX6_begin_62 : decode cX6_begin 62 = .ok (.iload_n 1, 1) := by decide +kernel
theorem dX6_begin_63 : decode cX6_begin 63 = .ok (.invokevirtual 202, 3) := by decide +kernel
theorem dX6_begin_66 : decode cX6_begin 66 = .ok (.aload_n 0, 1) := by decide +kernel
theorem dX6_begin_67 : decode cX6_begin 67 = .ok (.getfield 25, 3) := by decide +kernel
theorem dX6_begin_70 : decode cX6_begin 70 = .ok (.getfield 215, 3) := by decide +kernel
theorem dX6_begin_73 : decode cX6_begin 73 = .ok (.iload_n 3, 1) := by decide +kernel
theorem dX6_begin_74 : decode cX6_begin 74 = .ok (.if_icmp .le 14, 3) := by decide +kernel
theorem dX6_begin_77 : decode cX6_begin 77 = .ok (.aload_n 0, 1) := by decide +kernel
theorem dX6_begin_78 : decode cX6_begin 78 = .ok (.getfield 25, 3) := by decide +kernel
theorem dX6_begin_81 : decode cX6_begin 81 = .ok (.getfield 215, 3) := by decide +kernel
theorem dX6_begin_84 : decode cX6_begin 84 = .ok (.istore_n 3, 1) := by decide +kernel
theorem dX6_begin_85 : decode cX6_begin 85 = .ok (.iload 4, 2) := by decide +kernel
theorem dX6_begin_87 : decode cX6_begin 87 = .ok (.istore_n 2, 1) := by decide +kernel
theorem dX6_begin_88 : decode cX6_begin 88 = .ok (.iinc 4 1, 3) := by decide +kernel
theorem dX6_begin_91 : decode cX6_begin 91 = .ok (.goto (-67), 3) := by decide +kernel
theorem dX6_begin_94 : decode cX6_begin 94 = .ok (.iload_n 2, 1) := by decide +kernel
theorem dX6_begin_95 : decode cX6_begin 95 = .ok (.ireturn, 1) := by decide +kernel
theorem dX6_room_0 : decode cX6_room 0 = .ok (.iload_n 1, 1) := by decide +kernel
theorem dX6_room_1 : decode cX6_room 1 = .ok (.invokestatic 199, 3) := by decide +kernel
theorem dX6_room_4 : decode cX6_room 4 = .ok (.ifCond .ne 10, 3) := by decide +kernel
theorem dX6_room_7 : decode cX6_room 7 = .ok (.aload_n 0, 1) := by decide +kernel
theorem dX6_room_8 : decode cX6_room 8 = .ok (.bipush (-6), 2) := by decide +kernel
theorem dX6_room_10 : decode cX6_room 10 = .ok (.invokevirtual 66, 3) := by decide +kernel
theorem dX6_room_13 : decode cX6_room 13 = .ok (.ireturn, 1) := by decide +kernel
theorem dX6_room_14 : decode cX6_room 14 = .ok (.iconst 2, 1) := by decide +kernel
theorem dX6_room_15 : decode cX6_room 15 = .ok (.invokestatic 154, 3) := by decide +kernel
theorem dX6_room_18 : decode cX6_room 18 = .ok (.istore_n 2, 1) := by decide +kernel
theorem dX6_room_19 : decode cX6_room 19 = .ok (.iload_n 2, 1) := by decide +kernel
theorem dX6_room_20 : decode cX6_room 20 = .ok (.iconst 2, 1) := by decide +kernel
theorem dX6_room_21 : decode cX6_room 21 = .ok (.invokestatic 157, 3) := by decide +kernel
theorem dX6_room_24 : decode cX6_room 24 = .ok (.if_icmp .ge 53, 3) := by decide +kernel
theorem dX6_room_27 : decode cX6_room 27 = .ok (.aload_n 0, 1) := by decide +kernel
theorem dX6_room_28 : decode cX6_room 28 = .ok (.getfield 16, 3) := by decide +kernel
theorem dX6_room_31 : decode cX6_room 31 = .ok (.aload_n 0, 1) := by decide +kernel
theorem dX6_room_32 : decode cX6_room 32 = .ok (.getfield 10, 3) := by decide +kernel
theorem dX6_room_35 : decode cX6_room 35 = .ok (.invokevirtual 186, 3) := by decide +kernel
theorem dX6_room_38 : decode cX6_room 38 = .ok (.aload_n 0, 1) := by decide +kernel
theorem dX6_room_39 : decode cX6_room 39 = .ok (.getfield 16, 3) := by decide +kernel
theorem dX6_room_42 : decode cX6_room 42 = .ok (.iconst 2, 1) := by decide +kernel
theorem dX6_room_43 : decode cX6_room 43 = .ok (.iload_n 2, 1) := by decide +kernel
theorem dX6_room_44 : decode cX6_room 44 = .ok (.invokevirtual 163, 3) := by decide +kernel
theorem dX6_room_47 : decode cX6_room 47 = .ok (.aload_n 0, 1) := by decide +kernel
theorem dX6_room_48 : decode cX6_room 48 = .ok (.getfield 25, 3) := by decide +kernel
theorem dX6_room_51 : decode cX6_room 51 = .ok (.aload_n 0, 1) := by decide +kernel
theorem dX6_room_52 : decode cX6_room 52 = .ok (.getfield 16, 3) := by decide +kernel
theorem dX6_room_55 : decode cX6_room 55 = .ok (.iload_n 1, 1) := by decide +kernel
theorem dX6_room_56 : decode cX6_room 56 = .ok (.invokevirtual 202, 3) := by decide +kernel
theorem dX6_room_59 : decode cX6_room 59 = .ok (.aload_n 0, 1) := by decide +kernel
theorem dX6_room_60 : decode cX6_room 60 = .ok (.getfield 25, 3) := by decide +kernel
theorem dX6_room_63 : decode cX6_room 63 = .ok (.getfield 218, 3) := by decide +kernel
theorem dX6_room_66 : decode cX6_room 66 = .ok (.ifCond .ne 5, 3) := by decide +kernel
theorem dX6_room_69 : decode cX6_room 69 = .ok (.iload_n 2, 1) := by decide +kernel
theorem dX6_room_70 : decode cX6_room 70 = .ok (.ireturn, 1) := by decide +kernel
theorem dX6_room_71 : decode cX6_room 71 = .ok (.iinc 2 1, 3) := by decide +kernel
theorem dX6_room_74 : decode cX6_room 74 = .ok (.goto (-55), 3) := by decide +kernel
theorem dX6_room_77 : decode cX6_room 77 = .ok (.iconst 2, 1) := by decide +kernel
theorem dX6_room_78 : decode cX6_room 78 = .ok (.invokestatic 157, 3) := by decide +kernel
theorem dX6_room_81 : decode cX6_room 81 = .ok (.ireturn, 1) := by decide +kernel
theorem dX6_take_0 : decode cX6_take 0 = .ok (.iload_n 1, 1) := by decide +kernel
theorem dX6_take_1 : decode cX6_take 1 = .ok (.invokestatic 199, 3) := by decide +kernel
theorem dX6_take_4 : decode cX6_take 4 = .ok (.ifCond .ne 10, 3) := by decide +kernel
theorem dX6_take_7 : decode cX6_take 7 = .ok (.aload_n 0, 1) := by decide +kernel
theorem dX6_take_8 : decode cX6_take 8 = .ok (.bipush (-6), 2) := by decide +kernel
theorem dX6_take_10 : decode cX6_take 10 = .ok (.invokevirtual 66, 3) := by decide +kernel
theorem dX6_take_13 : decode cX6_take 13 = .ok (.ireturn, 1) := by decide +kernel
theorem dX6_take_14 : decode cX6_take 14 = .ok (.iconst 0, 1) := by decide +kernel
theorem dX6_take_15 : decode cX6_take 15 = .ok (.istore_n 2, 1) := by decide +kernel
theorem dX6_take_16 : decode cX6_take 16 = .ok (.iconst (-1), 1) := by decide +kernel
theorem dX6_take_17 : decode cX6_take 17 = .ok (.istore_n 3, 1) := by decide +kernel
theorem dX6_take_18 : decode cX6_take 18 = .ok (.iconst 0, 1) := by decide +kernel
theorem dX6_take_19 : decode cX6_take 19 = .ok (.istore 4, 2) := by decide +kernel
theorem dX6_take_21 : decode cX6_take 21 = .ok (.iload 4, 2) := by decide +kernel
theorem dX6_take_23 : decode cX6_take 23 = .ok (.aload_n 0, 1) := by decide +kernel
theorem dX6_take_24 : decode cX6_take 24 = .ok (.getfield 10, 3) := by decide +kernel
theorem dX6_take_27 : decode cX6_take 27 = .ok (.getfield 233, 3) := by decide +kernel
theorem dX6_take_30 : decode cX6_take 30 = .ok (.if_icmp .gt 65, 3) := by decide +kernel
theorem dX6_take_33 : decode cX6_take 33 = .ok (.aload_n 0, 1) := by decide +kernel
theorem dX6_take_34 : decode cX6_take 34 = .ok (.getfield 16, 3) := by decide +kernel
theorem dX6_take_37 : decode cX6_take 37 = .ok (.aload_n 0, 1) := by decide +kernel
theorem dX6_take_38 : decode cX6_take 38 = .ok (.getfield 10, 3) := by decide +kernel
theorem dX6_take_41 : decode cX6_take 41 = .ok (.invokevirtual 186, 3) := by decide +kernel
theorem dX6_take_44 : decode cX6_take 44 = .ok (.aload_n 0, 1) := by decide +kernel
theorem dX6_take_45 : decode cX6_take 45 = .ok (.getfield 16, 3) := by decide +kernel
theorem dX6_take_48 : decode cX6_take 48 = .ok (.iload 4, 2) := by decide +kernel
theorem dX6_take_50 : decode cX6_take 50 = .ok (.invokevirtual 236, 3) := by decide +kernel
theorem dX6_take_53 : decode cX6_take 53 = .ok (.aload_n 0, 1) := by decide +kernel
theorem dX6_take_54 : decode cX6_take 54 = .ok (.getfield 25, 3) := by decide +kernel
theorem dX6_take_57 : decode cX6_take 57 = .ok (.aload_n 0, 1) := by decide +kernel
theorem dX6_take_58 : decode cX6_take 58 = .ok (.getfield 16, 3) := by decide +kernel
theorem dX6_take_61 : decode cX6_take 61 = .ok (.iload_n 1, 1) := by decide +kernel
theorem dX6_take_62 : decode cX6_take 62 = .ok (.invokevirtual 202, 3) := by decide +kernel
theorem dX6_take_65 : decode cX6_take 65 = .ok (.aload_n 0, 1) := by decide +kernel
theorem dX6_take_66 : decode cX6_take 66 = .ok (.getfield 16, 3) := by decide +kernel
theorem dX6_take_69 : decode cX6_take 69 = .ok (.invokevirtual 206, 3) := by decide +kernel
theorem dX6_take_72 : decode cX6_take 72 = .ok (.invokestatic 210, 3) := by decide +kernel
theorem dX6_take_75 : decode cX6_take 75 = .ok (.istore 5, 2) := by decide +kernel
theorem dX6_take_77 : decode cX6_take 77 = .ok (.iload 5, 2) := by decide +kernel
theorem dX6_take_79 : decode cX6_take 79 = .ok (.iload_n 3, 1) := by decide +kernel
theorem dX6_take_80 : decode cX6_take 80 = .ok (.if_icmp .le 9, 3) := by decide +kernel
theorem dX6_take_83 : decode cX6_take 83 = .ok (.iload 5, 2) := by decide +kernel
theorem dX6_take_85 : decode cX6_take 85 = .ok (.istore_n 3, 1) := by decide +kernel
theorem dX6_take_86 : decode cX6_take 86 = .ok (.iload 4, 2) := by decide +kernel
theorem dX6_take_88 : decode cX6_take 88 = .ok (.istore_n 2, 1) := by decide +kernel
theorem dX6_take_89 : decode cX6_take 89 = .ok (.iinc 4 1, 3) := by decide +kernel
theorem dX6_take_92 : decode cX6_take 92 = .ok (.goto (-71), 3) := by decide +kernel
theorem dX6_take_95 : decode cX6_take 95 = .ok (.iload_n 2, 1) := by decide +kernel
theorem dX6_take_96 : decode cX6_take 96 = .ok (.ireturn, 1) := by decide +kernel
theorem dX6_price_0 : decode cX6_price 0 = .ok (.iload_n 1, 1) := by decide +kernel
theorem dX6_price_1 : decode cX6_price 1 = .ok (.invokestatic 199, 3) := by decide +kernel
theorem dX6_price_4 : decode cX6_price 4 = .ok (.ifCond .ne 14, 3) := by decide +kernel
theorem dX6_price_7 : decode cX6_price 7 = .ok (.aload_n 0, 1) := by decide +kernel
theorem dX6_price_8 : decode cX6_price 8 = .ok (.bipush (-6), 2) := by decide +kernel
theorem dX6_price_10 : decode cX6_price 10 = .ok (.invokevirtual 66, 3) := by decide +kernel
theorem dX6_price_13 : decode cX6_price 13 = .ok (.sipush 1000, 3) := by decide +kernel
theorem dX6_price_16 : decode cX6_price 16 = .ok (.isub, 1) := by decide +kernel
theorem dX6_price_17 : decode cX6_price 17 = .ok (.ireturn, 1) := by decide +kernel
theorem dX6_price_18 : decode cX6_price 18 = .ok (.aload_n 0, 1) := by decide +kernel
theorem dX6_price_19 : decode cX6_price 19 = .ok (.getfield 16, 3) := by decide +kernel
theorem dX6_price_22 : decode cX6_price 22 = .ok (.aload_n 0, 1) := by decide +kernel
theorem dX6_price_23 : decode cX6_price 23 = .ok (.getfield 10, 3) := by decide +kernel
theorem dX6_price_26 : decode cX6_price 26 = .ok (.invokevirtual 186, 3) := by decide +kernel
theorem dX6_price_29 : decode cX6_price 29 = .ok (.aload_n 0, 1) := by decide +kernel
theorem dX6_price_30 : decode cX6_price 30 = .ok (.getfield 16, 3) := by decide +kernel
theorem dX6_price_33 : decode cX6_price 33 = .ok (.iconst 1, 1) := by decide +kernel
theorem dX6_price_34 : decode cX6_price 34 = .ok (.invokevirtual 239, 3) := by decide +kernel
theorem dX6_price_37 : decode cX6_price 37 = .ok (.aload_n 0, 1) := by decide +kernel
theorem dX6_price_38 : decode cX6_price 38 = .ok (.getfield 25, 3) := by decide +kernel
theorem dX6_price_41 : decode cX6_price 41 = .ok (.aload_n 0, 1) := by decide +kernel
theorem dX6_price_42 : decode cX6_price 42 = .ok (.getfield 16, 3) := by decide +kernel
theorem dX6_price_45 : decode cX6_price 45 = .ok (.iload_n 1, 1) := by decide +kernel
theorem dX6_price_46 : decode cX6_price 46 = .ok (.invokevirtual 202, 3) := by decide +kernel
theorem dX6_price_49 : decode cX6_price 49 = .ok (.aload_n 0, 1) := by decide +kernel
theorem dX6_price_50 : decode cX6_price 50 = .ok (.getfield 25, 3) := by decide +kernel
theorem dX6_price_53 : decode cX6_price 53 = .ok (.getfield 215, 3) := by decide +kernel
theorem dX6_price_56 : decode cX6_price 56 = .ok (.istore_n 2, 1) := by decide +kernel
theorem dX6_price_57 : decode cX6_price 57 = .ok (.aload_n 0, 1) := by decide +kernel
theorem dX6_price_58 : decode cX6_price 58 = .ok (.getfield 16, 3) := by decide +kernel
theorem dX6_price_61 : decode cX6_price 61 = .ok (.aload_n 0, 1) := by decide +kernel
theorem dX6_price_62 : decode cX6_price 62 = .ok (.getfield 10, 3) := by decide +kernel
theorem dX6_price_65 : decode cX6_price 65 = .ok (.invokevirtual 186, 3) := by decide +kernel
theorem dX6_price_68 : decode cX6_price 68 = .ok (.aload_n 0, 1) := by decide +kernel
theorem dX6_price_69 : decode cX6_price 69 = .ok (.getfield 16, 3) := by decide +kernel
theorem dX6_price_72 : decode cX6_price 72 = .ok (.iconst 0, 1) := by decide +kernel
theorem dX6_price_73 : decode cX6_price 73 = .ok (.invokevirtual 239, 3) := by decide +kernel
theorem dX6_price_76 : decode cX6_price 76 = .ok (.aload_n 0, 1) := by decide +kernel
theorem dX6_price_77 : decode cX6_price 77 = .ok (.getfield 25, 3) := by decide +kernel
theorem dX6_price_80 : decode cX6_price 80 = .ok (.aload_n 0, 1) := by decide +kernel
theorem dX6_price_81 : decode cX6_price 81 = .ok (.getfield 16, 3) := by decide +kernel
theorem dX6_price_84 : decode cX6_price 84 = .ok (.iload_n 1, 1) := by decide +kernel
theorem dX6_price_85 : decode cX6_price 85 = .ok (.invokevirtual 202, 3) := by decide +kernel
theorem dX6_price_88 : decode cX6_price 88 = .ok (.iload_n 2, 1) := by decide +kernel
theorem dX6_price_89 : decode cX6_price 89 = .ok (.aload_n 0, 1) := by decide +kernel
theorem dX6_price_90 : decode cX6_price 90 = .ok (.getfield 25, 3) := by decide +kernel
theorem dX6_price_93 : decode cX6_price 93 = .ok (.getfield 215, 3) := by decide +kernel
theorem dX6_price_96 : decode cX6_price 96 = .ok (.isub, 1) := by decide +kernel
theorem dX6_price_97 : decode cX6_price 97 = .ok (.ireturn, 1) := by decide +kernel
theorem dX6_lost_0 : decode cX6_lost 0 = .ok (.iload_n 1, 1) := by decide +kernel
theorem dX6_lost_1 : decode cX6_lost 1 = .ok (.invokestatic 199, 3) := by decide +kernel
theorem dX6_lost_4 : decode cX6_lost 4 = .ok (.ifCond .ne 10, 3) := by decide +kernel
theorem dX6_lost_7 : decode cX6_lost 7 = .ok (.aload_n 0, 1) := by decide +kernel
theorem dX6_lost_8 : decode cX6_lost 8 = .ok (.bipush (-6), 2) := by decide +kernel
theorem dX6_lost_10 : decode cX6_lost 10 = .ok (.invokevirtual 66, 3) := by decide +kernel
theorem dX6_lost_13 : decode cX6_lost 13 = .ok (.ireturn, 1) := by decide +kernel
theorem dX6_lost_14 : decode cX6_lost 14 = .ok (.aload_n 0, 1) := by decide +kernel
theorem dX6_lost_15 : decode cX6_lost 15 = .ok (.getfield 16, 3) := by decide +kernel
theorem dX6_lost_18 : decode cX6_lost 18 = .ok (.aload_n 0, 1) := by decide +kernel
theorem dX6_lost_19 : decode cX6_lost 19 = .ok (.getfield 10, 3) := by decide +kernel
theorem dX6_lost_22 : decode cX6_lost 22 = .ok (.invokevirtual 186, 3) := by decide +kernel
theorem dX6_lost_25 : decode cX6_lost 25 = .ok (.aload_n 0, 1) := by decide +kernel
theorem dX6_lost_26 : decode cX6_lost 26 = .ok (.getfield 25, 3) := by decide +kernel
theorem dX6_lost_29 : decode cX6_lost 29 = .ok (.aload_n 0, 1) := by decide +kernel
theorem dX6_lost_30 : decode cX6_lost 30 = .ok (.getfield 16, 3) := by decide +kernel
theorem dX6_lost_33 : decode cX6_lost 33 = .ok (.iload_n 1, 1) := by decide +kernel
theorem dX6_lost_34 : decode cX6_lost 34 = .ok (.invokevirtual 202, 3) := by decide +kernel
theorem dX6_lost_37 : decode cX6_lost 37 = .ok (.aload_n 0, 1) := by decide +kernel
theorem dX6_lost_38 : decode cX6_lost 38 = .ok (.getfield 10, 3) := by decide +kernel
theorem dX6_lost_41 : decode cX6_lost 41 = .ok (.invokevirtual 206, 3) := by decide +kernel
theorem dX6_lost_44 : decode cX6_lost 44 = .ok (.aload_n 0, 1) := by decide +kernel
theorem dX6_lost_45 : decode cX6_lost 45 = .ok (.getfield 16, 3) := by decide +kernel
theorem dX6_lost_48 : decode cX6_lost 48 = .ok (.invokevirtual 206, 3) := by decide +kernel
theorem dX6_lost_51 : decode cX6_lost 51 = .ok (.iconst (-1), 1) := by decide +kernel
theorem dX6_lost_52 : decode cX6_lost 52 = .ok (.ixor, 1) := by decide +kernel
theorem dX6_lost_53 : decode cX6_lost 53 = .ok (.iand, 1) := by decide +kernel
theorem dX6_lost_54 : decode cX6_lost 54 = .ok (.ireturn, 1) := by decide +kernel
theorem dX6_pairs_0 : decode cX6_pairs 0 = .ok (.iconst 0, 1) := by decide +kernel
theorem dX6_pairs_1 : decode cX6_pairs 1 = .ok (.istore_n 1, 1) := by decide +kernel
theorem dX6_pairs_2 : decode cX6_pairs 2 = .ok (.iconst 0, 1) := by decide +kernel
theorem dX6_pairs_3 : decode cX6_pairs 3 = .ok (.istore_n 2, 1) := by decide +kernel
theorem dX6_pairs_4 : decode cX6_pairs 4 = .ok (.iload_n 2, 1) := by decide +kernel
theorem dX6_pairs_5 : decode cX6_pairs 5 = .ok (.aload_n 0, 1) := by decide +kernel
theorem dX6_pairs_6 : decode cX6_pairs 6 = .ok (.getfield 10, 3) := by decide +kernel
theorem dX6_pairs_9 : decode cX6_pairs 9 = .ok (.getfield 233, 3) := by decide +kernel
theorem dX6_pairs_12 : decode cX6_pairs 12 = .ok (.if_icmp .ge 44, 3) := by decide +kernel
theorem dX6_pairs_15 : decode cX6_pairs 15 = .ok (.aload_n 0, 1) := by decide +kernel
theorem dX6_pairs_16 : decode cX6_pairs 16 = .ok (.getfield 10, 3) := by decide +kernel
theorem dX6_pairs_19 : decode cX6_pairs 19 = .ok (.iload_n 2, 1) := by decide +kernel
theorem dX6_pairs_20 : decode cX6_pairs 20 = .ok (.invokevirtual 129, 3) := by decide +kernel
theorem dX6_pairs_23 : decode cX6_pairs 23 = .ok (.getfield 151, 3) := by decide +kernel
theorem dX6_pairs_26 : decode cX6_pairs 26 = .ok (.istore_n 3, 1) := by decide +kernel
theorem dX6_pairs_27 : decode cX6_pairs 27 = .ok (.iload_n 3, 1) := by decide +kernel
theorem dX6_pairs_28 : decode cX6_pairs 28 = .ok (.iload_n 2, 1) := by decide +kernel
theorem dX6_pairs_29 : decode cX6_pairs 29 = .ok (.if_icmp .le 21, 3) := by decide +kernel
theorem dX6_pairs_32 : decode cX6_pairs 32 = .ok (.aload_n 0, 1) := by decide +kernel
theorem dX6_pairs_33 : decode cX6_pairs 33 = .ok (.getfield 10, 3) := by decide +kernel
theorem dX6_pairs_36 : decode cX6_pairs 36 = .ok (.iload_n 3, 1) := by decide +kernel
theorem dX6_pairs_37 : decode cX6_pairs 37 = .ok (.invokevirtual 129, 3) := by decide +kernel
theorem dX6_pairs_40 : decode cX6_pairs 40 = .ok (.getfield 151, 3) := by decide +kernel
theorem dX6_pairs_43 : decode cX6_pairs 43 = .ok (.iload_n 2, 1) := by decide +kernel
theorem dX6_pairs_44 : decode cX6_pairs 44 = .ok (.if_icmp .ne 6, 3) := by decide +kernel
theorem dX6_pairs_47 : decode cX6_pairs 47 = .ok (.iinc 1 1, 3) := by decide +kernel
theorem dX6_pairs_50 : decode cX6_pairs 50 = .ok (.iinc 2 1, 3) := by decide +kernel
theorem dX6_pairs_53 : decode cX6_pairs 53 = .ok (.goto (-49), 3) := by decide +kernel
theorem dX6_pairs_56 : decode cX6_pairs 56 = .ok (.iload_n 1, 1) := by decide +kernel
theorem dX6_pairs_57 : decode cX6_pairs 57 = .ok (.ireturn, 1) := by decide +kernel
theorem dX6_chain_0 : decode cX6_chain 0 = .ok (.aload_n 0, 1) := by decide +kernel
theorem dX6_chain_1 : decode cX6_chain 1 = .ok (.getfield 10, 3) := by decide +kernel
theorem dX6_chain_4 : decode cX6_chain 4 = .ok (.iload_n 1, 1) := by decide +kernel
theorem dX6_chain_5 : decode cX6_chain 5 = .ok (.invokevirtual 116, 3) := by decide +kernel
theorem dX6_chain_8 : decode cX6_chain 8 = .ok (.ifCond .ne 9, 3) := by decide +kernel
theorem dX6_chain_11 : decode cX6_chain 11 = .ok (.aload_n 0, 1) := by decide +kernel
theorem dX6_chain_12 : decode cX6_chain 12 = .ok (.iconst (-1), 1) := by decide +kernel
theorem dX6_chain_13 : decode cX6_chain 13 = .ok (.invokevirtual 66, 3) := by decide +kernel
theorem dX6_chain_16 : decode cX6_chain 16 = .ok (.ireturn, 1) := by decide +kernel
theorem dX6_chain_17 : decode cX6_chain 17 = .ok (.iconst 1, 1) := by decide +kernel
theorem dX6_chain_18 : decode cX6_chain 18 = .ok (.iload_n 1, 1) := by decide +kernel
theorem dX6_chain_19 : decode cX6_chain 19 = .ok (.ishl, 1) := by decide +kernel
theorem dX6_chain_20 : decode cX6_chain 20 = .ok (.istore_n 2, 1) := by decide +kernel
theorem dX6_chain_21 : decode cX6_chain 21 = .ok (.aload_n 0, 1) := by decide +kernel
theorem dX6_chain_22 : decode cX6_chain 22 = .ok (.getfield 10, 3) := by decide +kernel
theorem dX6_chain_25 : decode cX6_chain 25 = .ok (.iload_n 1, 1) := by decide +kernel
theorem dX6_chain_26 : decode cX6_chain 26 = .ok (.invokevirtual 129, 3) := by decide +kernel
theorem dX6_chain_29 : decode cX6_chain 29 = .ok (.getfield 151, 3) := by decide +kernel
theorem dX6_chain_32 : decode cX6_chain 32 = .ok (.istore_n 3, 1) := by decide +kernel
theorem dX6_chain_33 : decode cX6_chain 33 = .ok (.iconst 0, 1) := by decide +kernel
theorem dX6_chain_34 : decode cX6_chain 34 = .ok (.istore 4, 2) := by decide +kernel
theorem dX6_chain_36 : decode cX6_chain 36 = .ok (.iload 4, 2) := by decide +kernel
theorem dX6_chain_38 : decode cX6_chain 38 = .ok (.bipush 10, 2) := by decide +kernel
theorem dX6_chain_40 : decode cX6_chain 40 = .ok (.if_icmp .ge 46, 3) := by decide +kernel
theorem dX6_chain_43 : decode cX6_chain 43 = .ok (.aload_n 0, 1) := by decide +kernel
theorem dX6_chain_44 : decode cX6_chain 44 = .ok (.getfield 10, 3) := by decide +kernel
theorem dX6_chain_47 : decode cX6_chain 47 = .ok (.iload_n 3, 1) := by decide +kernel
theorem dX6_chain_48 : decode cX6_chain 48 = .ok (.invokevirtual 116, 3) := by decide +kernel
theorem dX6_chain_51 : decode cX6_chain 51 = .ok (.ifCond .eq 35, 3) := by decide +kernel
theorem dX6_chain_54 : decode cX6_chain 54 = .ok (.iload_n 2, 1) := by decide +kernel
theorem dX6_chain_55 : decode cX6_chain 55 = .ok (.iload_n 3, 1) := by decide +kernel
theorem dX6_chain_56 : decode cX6_chain 56 = .ok (.invokestatic 243, 3) := by decide +kernel
theorem dX6_chain_59 : decode cX6_chain 59 = .ok (.ifCond .ne 27, 3) := by decide +kernel
theorem dX6_chain_62 : decode cX6_chain 62 = .ok (.iload_n 2, 1) := by decide +kernel
theorem dX6_chain_63 : decode cX6_chain 63 = .ok (.iconst 1, 1) := by decide +kernel
theorem dX6_chain_64 : decode cX6_chain 64 = .ok (.iload_n 3, 1) := by decide +kernel
theorem dX6_chain_65 : decode cX6_chain 65 = .ok (.ishl, 1) := by decide +kernel
theorem dX6_chain_66 : decode cX6_chain 66 = .ok (.ior, 1) := by decide +kernel
theorem dX6_chain_67 : decode cX6_chain 67 = .ok (.istore_n 2, 1) := by decide +kernel
theorem dX6_chain_68 : decode cX6_chain 68 = .ok (.aload_n 0, 1) := by decide +kernel
theorem dX6_chain_69 : decode cX6_chain 69 = .ok (.getfield 10, 3) := by decide +kernel
theorem dX6_chain_72 : decode cX6_chain 72 = .ok (.iload_n 3, 1) := by decide +kernel
theorem dX6_chain_73 : decode cX6_chain 73 = .ok (.invokevirtual 129, 3) := by decide +kernel
theorem dX6_chain_76 : decode cX6_chain 76 = .ok (.getfield 151, 3) := by decide +kernel
theorem dX6_chain_79 : decode cX6_chain 79 = .ok (.istore_n 3, 1) := by decide +kernel
theorem dX6_chain_80 : decode cX6_chain 80 = .ok (.iinc 4 1, 3) := by decide +kernel
theorem dX6_chain_83 : decode cX6_chain 83 = .ok (.goto (-47), 3) := by decide +kernel
theorem dX6_chain_86 : decode cX6_chain 86 = .ok (.iload_n 2, 1) := by decide +kernel
theorem dX6_chain_87 : decode cX6_chain 87 = .ok (.invokestatic 210, 3) := by decide +kernel
theorem dX6_chain_90 : decode cX6_chain 90 = .ok (.iconst 1, 1) := by decide +kernel
theorem dX6_chain_91 : decode cX6_chain 91 = .ok (.isub, 1) := by decide +kernel
theorem dX6_chain_92 : decode cX6_chain 92 = .ok (.ireturn, 1) := by decide +kernel
theorem dX6_keeps_0 : decode cX6_keeps 0 = .ok (.aload_n 0, 1) := by decide +kernel
theorem dX6_keeps_1 : decode cX6_keeps 1 = .ok (.getfield 10, 3) := by decide +kernel
theorem dX6_keeps_4 : decode cX6_keeps 4 = .ok (.iload_n 1, 1) := by decide +kernel
theorem dX6_keeps_5 : decode cX6_keeps 5 = .ok (.invokevirtual 116, 3) := by decide +kernel
theorem dX6_keeps_8 : decode cX6_keeps 8 = .ok (.ifCond .ne 9, 3) := by decide +kernel
theorem dX6_keeps_11 : decode cX6_keeps 11 = .ok (.aload_n 0, 1) := by decide +kernel
theorem dX6_keeps_12 : decode cX6_keeps 12 = .ok (.iconst (-1), 1) := by decide +kernel
theorem dX6_keeps_13 : decode cX6_keeps 13 = .ok (.invokevirtual 66, 3) := by decide +kernel
theorem dX6_keeps_16 : decode cX6_keeps 16 = .ok (.ireturn, 1) := by decide +kernel
theorem dX6_keeps_17 : decode cX6_keeps 17 = .ok (.aload_n 0, 1) := by decide +kernel
theorem dX6_keeps_18 : decode cX6_keeps 18 = .ok (.getfield 10, 3) := by decide +kernel
theorem dX6_keeps_21 : decode cX6_keeps 21 = .ok (.iload_n 1, 1) := by decide +kernel
theorem dX6_keeps_22 : decode cX6_keeps 22 = .ok (.invokevirtual 129, 3) := by decide +kernel
theorem dX6_keeps_25 : decode cX6_keeps 25 = .ok (.getfield 166, 3) := by decide +kernel
theorem dX6_keeps_28 : decode cX6_keeps 28 = .ok (.ifCond .eq 10, 3) := by decide +kernel
theorem dX6_keeps_31 : decode cX6_keeps 31 = .ok (.aload_n 0, 1) := by decide +kernel
theorem dX6_keeps_32 : decode cX6_keeps 32 = .ok (.bipush (-6), 2) := by decide +kernel
theorem dX6_keeps_34 : decode cX6_keeps 34 = .ok (.invokevirtual 66, 3) := by decide +kernel
theorem dX6_keeps_37 : decode cX6_keeps 37 = .ok (.ireturn, 1) := by decide +kernel
theorem dX6_keeps_38 : decode cX6_keeps 38 = .ok (.aload_n 0, 1) := by decide +kernel
theorem dX6_keeps_39 : decode cX6_keeps 39 = .ok (.iload_n 1, 1) := by decide +kernel
theorem dX6_keeps_40 : decode cX6_keeps 40 = .ok (.invokevirtual 246, 3) := by decide +kernel
theorem dX6_keeps_43 : decode cX6_keeps 43 = .ok (.ireturn, 1) := by decide +kernel
theorem dX6_keep_0 : decode cX6_keep 0 = .ok (.iconst (-1), 1) := by decide +kernel
theorem dX6_keep_1 : decode cX6_keep 1 = .ok (.istore_n 1, 1) := by decide +kernel
theorem dX6_keep_2 : decode cX6_keep 2 = .ok (.iconst (-1), 1) := by decide +kernel
theorem dX6_keep_3 : decode cX6_keep 3 = .ok (.istore_n 2, 1) := by decide +kernel
theorem dX6_keep_4 : decode cX6_keep 4 = .ok (.iconst 0, 1) := by decide +kernel
theorem dX6_keep_5 : decode cX6_keep 5 = .ok (.istore_n 3, 1) := by decide +kernel
theorem dX6_keep_6 : decode cX6_keep 6 = .ok (.iload_n 3, 1) := by decide +kernel
theorem dX6_keep_7 : decode cX6_keep 7 = .ok (.aload_n 0, 1) := by decide +kernel
theorem dX6_keep_8 : decode cX6_keep 8 = .ok (.getfield 10, 3) := by decide +kernel
theorem dX6_keep_11 : decode cX6_keep 11 = .ok (.getfield 233, 3) := by decide +kernel
theorem dX6_keep_14 : decode cX6_keep 14 = .ok (.if_icmp .ge 45, 3) := by decide +kernel
theorem dX6_keep_17 : decode cX6_keep 17 = .ok (.aload_n 0, 1) := by decide +kernel
theorem dX6_keep_18 : decode cX6_keep 18 = .ok (.getfield 10, 3) := by decide +kernel
theorem dX6_keep_21 : decode cX6_keep 21 = .ok (.iload_n 3, 1) := by decide +kernel
theorem dX6_keep_22 : decode cX6_keep 22 = .ok (.invokevirtual 129, 3) := by decide +kernel
theorem dX6_keep_25 : decode cX6_keep 25 = .ok (.getfield 166, 3) := by decide +kernel
theorem dX6_keep_28 : decode cX6_keep 28 = .ok (.ifCond .eq 7, 3) := by decide +kernel
theorem dX6_keep_31 : decode cX6_keep 31 = .ok (.iconst (-1), 1) := by decide +kernel
theorem dX6_keep_32 : decode cX6_keep 32 = .ok (.goto 8, 3) := by decide +kernel
theorem dX6_keep_35 : decode cX6_keep 35 = .ok (.aload_n 0, 1) := by decide +kernel
theorem dX6_keep_36 : decode cX6_keep 36 = .ok (.iload_n 3, 1) := by decide +kernel
theorem dX6_keep_37 : decode cX6_keep 37 = .ok (.invokevirtual 246, 3) := by decide +kernel
theorem dX6_keep_40 : decode cX6_keep 40 = .ok (.istore 4, 2) := by decide +kernel
theorem dX6_keep_42 : decode cX6_keep 42 = .ok (.iload 4, 2) := by decide +kernel
theorem dX6_keep_44 : decode cX6_keep 44 = .ok (.iload_n 2, 1) := by decide +kernel
theorem dX6_keep_45 : decode cX6_keep 45 = .ok (.if_icmp .le 8, 3) := by decide +kernel
theorem dX6_keep_48 : decode cX6_keep 48 = .ok (.iload 4, 2) := by decide +kernel
theorem dX6_keep_50 : decode cX6_keep 50 = .ok (.istore_n 2, 1) := by decide +kernel
theorem dX6_keep_51 : decode cX6_keep 51 = .ok (.iload_n 3, 1) := by decide +kernel
theorem dX6_keep_52 : decode cX6_keep 52 = .ok (.istore_n 1, 1) := by decide +kernel
theorem dX6_keep_53 : decode cX6_keep 53 = .ok (.iinc 3 1, 3) := by decide +kernel
theorem dX6_keep_56 : decode cX6_keep 56 = .ok (.goto (-50), 3) := by decide +kernel
theorem dX6_keep_59 : decode cX6_keep 59 = .ok (.iload_n 1, 1) := by decide +kernel
theorem dX6_keep_60 : decode cX6_keep 60 = .ok (.ireturn, 1) := by decide +kernel
theorem dX6_friends_0 : decode cX6_friends 0 = .ok (.aload_n 0, 1) := by decide +kernel
theorem dX6_friends_1 : decode cX6_friends 1 = .ok (.getfield 10, 3) := by decide +kernel
theorem dX6_friends_4 : decode cX6_friends 4 = .ok (.iload_n 3, 1) := by decide +kernel
theorem dX6_friends_5 : decode cX6_friends 5 = .ok (.invokevirtual 116, 3) := by decide +kernel
theorem dX6_friends_8 : decode cX6_friends 8 = .ok (.ifCond .eq 12, 3) := by decide +kernel
theorem dX6_friends_11 : decode cX6_friends 11 = .ok (.aload_n 0, 1) := by decide +kernel
theorem dX6_friends_12 : decode cX6_friends 12 = .ok (.iload_n 1, 1) := by decide +kernel
theorem dX6_friends_13 : decode cX6_friends 13 = .ok (.iload_n 2, 1) := by decide +kernel
theorem dX6_friends_14 : decode cX6_friends 14 = .ok (.invokevirtual 249, 3) := by decide +kernel
theorem dX6_friends_17 : decode cX6_friends 17 = .ok (.goto 4, 3) := by decide +kernel
theorem dX6_friends_20 : decode cX6_friends 20 = .ok (.iconst (-1), 1) := by decide +kernel
theorem dX6_friends_21 : decode cX6_friends 21 = .ok (.istore 4, 2) := by decide +kernel
theorem dX6_friends_23 : decode cX6_friends 23 = .ok (.iload 4, 2) := by decide +kernel
theorem dX6_friends_25 : decode cX6_friends 25 = .ok (.ifCond .eq 10, 3) := by decide +kernel
theorem dX6_friends_28 : decode cX6_friends 28 = .ok (.aload_n 0, 1) := by decide +kernel
theorem dX6_friends_29 : decode cX6_friends 29 = .ok (.iload 4, 2) := by decide +kernel
theorem dX6_friends_31 : decode cX6_friends 31 = .ok (.invokevirtual 66, 3) := by decide +kernel
theorem dX6_friends_34 : decode cX6_friends 34 = .ok (.ireturn, 1) := by decide +kernel
theorem dX6_friends_35 : decode cX6_friends 35 = .ok (.iconst 0, 1) := by decide +kernel
theorem dX6_friends_36 : decode cX6_friends 36 = .ok (.istore 5, 2) := by decide +kernel
theorem dX6_friends_38 : decode cX6_friends 38 = .ok (.iconst (-1), 1) := by decide +kernel
theorem dX6_friends_39 : decode cX6_friends 39 = .ok (.istore 6, 2) := by decide +kernel
theorem dX6_friends_41 : decode cX6_friends 41 = .ok (.iload 6, 2) := by decide +kernel
theorem dX6_friends_43 : decode cX6_friends 43 = .ok (.aload_n 0, 1) := by decide +kernel
theorem dX6_friends_44 : decode cX6_friends 44 = .ok (.getfield 10, 3) := by decide +kernel
theorem dX6_friends_47 : decode cX6_friends 47 = .ok (.getfield 233, 3) := by decide +kernel
theorem dX6_friends_50 : decode cX6_friends 50 = .ok (.if_icmp .ge 88, 3) := by decide +kernel
theorem dX6_friends_53 : decode cX6_friends 53 = .ok (.iload 6, 2) := by decide +kernel
theorem dX6_friends_55 : decode cX6_friends 55 = .ok (.iload_n 3, 1) := by decide +kernel
theorem dX6_friends_56 : decode cX6_friends 56 = .ok (.if_icmp .ne 6, 3) := by decide +kernel
theorem dX6_friends_59 : decode cX6_friends 59 = .ok (.goto 73, 3) := by decide +kernel
theorem dX6_friends_62 : decode cX6_friends 62 = .ok (.aload_n 0, 1) := by decide +kernel
theorem dX6_friends_63 : decode cX6_friends 63 = .ok (.getfield 16, 3) := by decide +kernel
theorem dX6_friends_66 : decode cX6_friends 66 = .ok (.aload_n 0, 1) := by decide +kernel
theorem dX6_friends_67 : decode cX6_friends 67 = .ok (.getfield 10, 3) := by decide +kernel
theorem dX6_friends_70 : decode cX6_friends 70 = .ok (.invokevirtual 186, 3) := by decide +kernel
theorem dX6_friends_73 : decode cX6_friends 73 = .ok (.aload_n 0, 1) := by decide +kernel
theorem dX6_friends_74 : decode cX6_friends 74 = .ok (.getfield 16, 3) := by decide +kernel
theorem dX6_friends_77 : decode cX6_friends 77 = .ok (.iload_n 3, 1) := by decide +kernel
theorem dX6_friends_78 : decode cX6_friends 78 = .ok (.invokevirtual 129, 3) := by decide +kernel
theorem dX6_friends_81 : decode cX6_friends 81 = .ok (.iload 6, 2) := by decide +kernel
theorem dX6_friends_83 : decode cX6_friends 83 = .ok (.putfield 151, 3) := by decide +kernel
theorem dX6_friends_86 : decode cX6_friends 86 = .ok (.aload_n 0, 1) := by decide +kernel
theorem dX6_friends_87 : decode cX6_friends 87 = .ok (.getfield 25, 3) := by decide +kernel
theorem dX6_friends_90 : decode cX6_friends 90 = .ok (.aload_n 0, 1) := by decide +kernel
theorem dX6_friends_91 : decode cX6_friends 91 = .ok (.getfield 16, 3) := by decide +kernel
theorem dX6_friends_94 : decode cX6_friends 94 = .ok (.aload_n 0, 1) := by decide +kernel
theorem dX6_friends_95 : decode cX6_friends 95 = .ok (.iload_n 1, 1) := by decide +kernel
theorem dX6_friends_96 : decode cX6_friends 96 = .ok (.invokevirtual 70, 3) := by decide +kernel
theorem dX6_friends_99 : decode cX6_friends 99 = .ok (.iload_n 2, 1) := by decide +kernel
theorem dX6_friends_100 : decode cX6_friends 100 = .ok (.invokevirtual 253, 3) := by decide +kernel
theorem dX6_friends_103 : decode cX6_friends 103 = .ok (.iconst (-1), 1) := by decide +kernel
theorem dX6_friends_104 : decode cX6_friends 104 = .ok (.if_icmp .ne 28, 3) := by decide +kernel
theorem dX6_friends_107 : decode cX6_friends 107 = .ok (.iload 5, 2) := by decide +kernel
theorem dX6_friends_109 : decode cX6_friends 109 = .ok (.iconst 1, 1) := by decide +kernel
theorem dX6_friends_110 : decode cX6_friends 110 = .ok (.iload 6, 2) := by decide +kernel
theorem dX6_friends_112 : decode cX6_friends 112 = .ok (.iconst (-1), 1) := by decide +kernel
theorem dX6_friends_113 : decode cX6_friends 113 = .ok (.if_icmp .ne 13, 3) := by decide +kernel
theorem dX6_friends_116 : decode cX6_friends 116 = .ok (.aload_n 0, 1) := by decide +kernel
theorem dX6_friends_117 : decode cX6_friends 117 = .ok (.getfield 10, 3) := by decide +kernel
theorem dX6_friends_120 : decode cX6_friends 120 = .ok (.getfield 233, 3) := by decide +kernel
theorem dX6_friends_123 : decode cX6_friends 123 = .ok (.goto 5, 3) := by decide +kernel
theorem dX6_friends_126 : decode cX6_friends 126 = .ok (.iload 6, 2) := by decide +kernel
theorem dX6_friends_128 : decode cX6_friends 128 = .ok (.ishl, 1) := by decide +kernel
theorem dX6_friends_129 : decode cX6_friends 129 = .ok (.ior, 1) := by decide +kernel
theorem dX6_friends_130 : decode cX6_friends 130 = .ok (.istore 5, 2) := by decide +kernel
theorem dX6_friends_132 : decode cX6_friends 132 = .ok (.iinc 6 1, 3) := by decide +kernel
theorem dX6_friends_135 : decode cX6_friends 135 = .ok (.goto (-94), 3) := by decide +kernel
theorem dX6_friends_138 : decode cX6_friends 138 = .ok (.iload 5, 2) := by decide +kernel
theorem dX6_friends_140 : decode cX6_friends 140 = .ok (.ireturn, 1) := by decide +kernel
theorem dX6_judge_0 : decode cX6_judge 0 = .ok (.aload_n 0, 1) := by decide +kernel
theorem dX6_judge_1 : decode cX6_judge 1 = .ok (.iload_n 1, 1) := by decide +kernel
theorem dX6_judge_2 : decode cX6_judge 2 = .ok (.iload_n 2, 1) := by decide +kernel
theorem dX6_judge_3 : decode cX6_judge 3 = .ok (.invokevirtual 249, 3) := by decide +kernel
theorem dX6_judge_6 : decode cX6_judge 6 = .ok (.istore_n 3, 1) := by decide +kernel
theorem dX6_judge_7 : decode cX6_judge 7 = .ok (.iload_n 3, 1) := by decide +kernel
theorem dX6_judge_8 : decode cX6_judge 8 = .ok (.ifCond .eq 12, 3) := by decide +kernel
theorem dX6_judge_11 : decode cX6_judge 11 = .ok (.aload_n 0, 1) := by decide +kernel
theorem dX6_judge_12 : decode cX6_judge 12 = .ok (.iload_n 3, 1) := by decide +kernel
theorem dX6_judge_13 : decode cX6_judge 13 = .ok (.invokevirtual 66, 3) := by decide +kernel
theorem dX6_judge_16 : decode cX6_judge 16 = .ok (.bipush 10, 2) := by decide +kernel
theorem dX6_judge_18 : decode cX6_judge 18 = .ok (.isub, 1) := by decide +kernel
theorem dX6_judge_19 : decode cX6_judge 19 = .ok (.ireturn, 1) := by decide +kernel
theorem dX6_judge_20 : decode cX6_judge 20 = .ok (.aload_n 0, 1) := by decide +kernel
theorem dX6_judge_21 : decode cX6_judge 21 = .ok (.getfield 16, 3) := by decide +kernel
theorem dX6_judge_24 : decode cX6_judge 24 = .ok (.aload_n 0, 1) := by decide +kernel
theorem dX6_judge_25 : decode cX6_judge 25 = .ok (.getfield 10, 3) := by decide +kernel
theorem dX6_judge_28 : decode cX6_judge 28 = .ok (.invokevirtual 186, 3) := by decide +kernel
theorem dX6_judge_31 : decode cX6_judge 31 = .ok (.aload_n 0, 1) := by decide +kernel
theorem dX6_judge_32 : decode cX6_judge 32 = .ok (.getfield 25, 3) := by decide +kernel
theorem dX6_judge_35 : decode cX6_judge 35 = .ok (.aload_n 0, 1) := by decide +kernel
theorem dX6_judge_36 : decode cX6_judge 36 = .ok (.getfield 16, 3) := by decide +kernel
theorem dX6_judge_39 : decode cX6_judge 39 = .ok (.aload_n 0, 1) := by decide +kernel
theorem dX6_judge_40 : decode cX6_judge 40 = .ok (.iload_n 1, 1) := by decide +kernel
theorem dX6_judge_41 : decode cX6_judge 41 = .ok (.invokevirtual 70, 3) := by decide +kernel
theorem dX6_judge_44 : decode cX6_judge 44 = .ok (.iload_n 2, 1) := by decide +kernel
theorem dX6_judge_45 : decode cX6_judge 45 = .ok (.invokevirtual 253, 3) := by decide +kernel
theorem dX6_judge_48 : decode cX6_judge 48 = .ok (.ireturn, 1) := by decide +kernel
theorem dX6_evenings_0 : decode cX6_evenings 0 = .ok (.iload_n 1, 1) := by decide +kernel
theorem dX6_evenings_1 : decode cX6_evenings 1 = .ok (.ifCond .eq 10, 3) := by decide +kernel
theorem dX6_evenings_4 : decode cX6_evenings 4 = .ok (.iload_n 1, 1) := by decide +kernel
theorem dX6_evenings_5 : decode cX6_evenings 5 = .ok (.invokestatic 199, 3) := by decide +kernel
theorem dX6_evenings_8 : decode cX6_evenings 8 = .ok (.ifCond .ne 10, 3) := by decide +kernel
theorem dX6_evenings_11 : decode cX6_evenings 11 = .ok (.aload_n 0, 1) := by decide +kernel
theorem dX6_evenings_12 : decode cX6_evenings 12 = .ok (.bipush (-6), 2) := by decide +kernel
theorem dX6_evenings_14 : decode cX6_evenings 14 = .ok (.invokevirtual 66, 3) := by decide +kernel
theorem dX6_evenings_17 : decode cX6_evenings 17 = .ok (.ireturn, 1) := by decide +kernel
theorem dX6_evenings_18 : decode cX6_evenings 18 = .ok (.aload_n 0, 1) := by decide +kernel
theorem dX6_evenings_19 : decode cX6_evenings 19 = .ok (.getfield 25, 3) := by decide +kernel
theorem dX6_evenings_22 : decode cX6_evenings 22 = .ok (.aload_n 0, 1) := by decide +kernel
theorem dX6_evenings_23 : decode cX6_evenings 23 = .ok (.getfield 10, 3) := by decide +kernel
theorem dX6_evenings_26 : decode cX6_evenings 26 = .ok (.iload_n 1, 1) := by decide +kernel
theorem dX6_evenings_27 : decode cX6_evenings 27 = .ok (.invokevirtual 202, 3) := by decide +kernel
theorem dX6_evenings_30 : decode cX6_evenings 30 = .ok (.aload_n 0, 1) := by decide +kernel
theorem dX6_evenings_31 : decode cX6_evenings 31 = .ok (.getfield 25, 3) := by decide +kernel
theorem dX6_evenings_34 : decode cX6_evenings 34 = .ok (.getfield 215, 3) := by decide +kernel
theorem dX6_evenings_37 : decode cX6_evenings 37 = .ok (.ireturn, 1) := by decide +kernel
theorem dX6_drawn_0 : decode cX6_drawn 0 = .ok (.iload_n 1, 1) := by decide +kernel
theorem dX6_drawn_1 : decode cX6_drawn 1 = .ok (.ifCond .eq 10, 3) := by decide +kernel
theorem dX6_drawn_4 : decode cX6_drawn 4 = .ok (.iload_n 1, 1) := by decide +kernel
theorem dX6_drawn_5 : decode cX6_drawn 5 = .ok (.invokestatic 199, 3) := by decide +kernel
theorem dX6_drawn_8 : decode cX6_drawn 8 = .ok (.ifCond .ne 10, 3) := by decide +kernel
theorem dX6_drawn_11 : decode cX6_drawn 11 = .ok (.aload_n 0, 1) := by decide +kernel
theorem dX6_drawn_12 : decode cX6_drawn 12 = .ok (.bipush (-6), 2) := by decide +kernel
theorem dX6_drawn_14 : decode cX6_drawn 14 = .ok (.invokevirtual 66, 3) := by decide +kernel
theorem dX6_drawn_17 : decode cX6_drawn 17 = .ok (.ireturn, 1) := by decide +kernel
theorem dX6_drawn_18 : decode cX6_drawn 18 = .ok (.iconst 0, 1) := by decide +kernel
theorem dX6_drawn_19 : decode cX6_drawn 19 = .ok (.istore_n 2, 1) := by decide +kernel
theorem dX6_drawn_20 : decode cX6_drawn 20 = .ok (.iconst 0, 1) := by decide +kernel
theorem dX6_drawn_21 : decode cX6_drawn 21 = .ok (.istore_n 3, 1) := by decide +kernel
theorem dX6_drawn_22 : decode cX6_drawn 22 = .ok (.iload_n 3, 1) := by decide +kernel
theorem dX6_drawn_23 : decode cX6_drawn 23 = .ok (.iload_n 1, 1) := by decide +kernel
theorem dX6_drawn_24 : decode cX6_drawn 24 = .ok (.if_icmp .ge 48, 3) := by decide +kernel
theorem dX6_drawn_27 : decode cX6_drawn 27 = .ok (.aload_n 0, 1) := by decide +kernel
theorem dX6_drawn_28 : decode cX6_drawn 28 = .ok (.getfield 10, 3) := by decide +kernel
theorem dX6_drawn_31 : decode cX6_drawn 31 = .ok (.iconst 1, 1) := by decide +kernel
theorem dX6_drawn_32 : decode cX6_drawn 32 = .ok (.aload_n 0, 1) := by decide +kernel
theorem dX6_drawn_33 : decode cX6_drawn 33 = .ok (.getfield 10, 3) := by decide +kernel
theorem dX6_drawn_36 : decode cX6_drawn 36 = .ok (.bipush 10, 2) := by decide +kernel
theorem dX6_drawn_38 : decode cX6_drawn 38 = .ok (.invokevirtual 257, 3) := by decide +kernel
theorem dX6_drawn_41 : decode cX6_drawn 41 = .ok (.invokevirtual 163, 3) := by decide +kernel
theorem dX6_drawn_44 : decode cX6_drawn 44 = .ok (.aload_n 0, 1) := by decide +kernel
theorem dX6_drawn_45 : decode cX6_drawn 45 = .ok (.getfield 25, 3) := by decide +kernel
theorem dX6_drawn_48 : decode cX6_drawn 48 = .ok (.aload_n 0, 1) := by decide +kernel
theorem dX6_drawn_49 : decode cX6_drawn 49 = .ok (.getfield 10, 3) := by decide +kernel
theorem dX6_drawn_52 : decode cX6_drawn 52 = .ok (.iconst 1, 1) := by decide +kernel
theorem dX6_drawn_53 : decode cX6_drawn 53 = .ok (.invokevirtual 202, 3) := by decide +kernel
theorem dX6_drawn_56 : decode cX6_drawn 56 = .ok (.iload_n 2, 1) := by decide +kernel
theorem dX6_drawn_57 : decode cX6_drawn 57 = .ok (.aload_n 0, 1) := by decide +kernel
theorem dX6_drawn_58 : decode cX6_drawn 58 = .ok (.getfield 25, 3) := by decide +kernel
theorem dX6_drawn_61 : decode cX6_drawn 61 = .ok (.getfield 215, 3) := by decide +kernel
theorem dX6_drawn_64 : decode cX6_drawn 64 = .ok (.iadd, 1) := by decide +kernel
theorem dX6_drawn_65 : decode cX6_drawn 65 = .ok (.istore_n 2, 1) := by decide +kernel
theorem dX6_drawn_66 : decode cX6_drawn 66 = .ok (.iinc 3 1, 3) := by decide +kernel
theorem dX6_drawn_69 : decode cX6_drawn 69 = .ok (.goto (-47), 3) := by decide +kernel
theorem dX6_drawn_72 : decode cX6_drawn 72 = .ok (.iload_n 2, 1) := by decide +kernel
theorem dX6_drawn_73 : decode cX6_drawn 73 = .ok (.ireturn, 1) := by decide +kernel
theorem dX6_seed_0 : decode cX6_seed 0 = .ok (.aload_n 0, 1) := by decide +kernel
theorem dX6_seed_1 : decode cX6_seed 1 = .ok (.getfield 10, 3) := by decide +kernel
theorem dX6_seed_4 : decode cX6_seed 4 = .ok (.getfield 260, 3) := by decide +kernel
theorem dX6_seed_7 : decode cX6_seed 7 = .ok (.istore_n 2, 1) := by decide +kernel
theorem dX6_seed_8 : decode cX6_seed 8 = .ok (.aload_n 0, 1) := by decide +kernel
theorem dX6_seed_9 : decode cX6_seed 9 = .ok (.getfield 10, 3) := by decide +kernel
theorem dX6_seed_12 : decode cX6_seed 12 = .ok (.iload_n 1, 1) := by decide +kernel
theorem dX6_seed_13 : decode cX6_seed 13 = .ok (.putfield 260, 3) := by decide +kernel
theorem dX6_seed_16 : decode cX6_seed 16 = .ok (.iload_n 2, 1) := by decide +kernel
theorem dX6_seed_17 : decode cX6_seed 17 = .ok (.ireturn, 1) := by decide +kernel
theorem dX6_act_0 : decode cX6_act 0 = .ok (.aload_n 0, 1) := by decide +kernel
theorem dX6_act_1 : decode cX6_act 1 = .ok (.getfield 50, 3) := by decide +kernel
theorem dX6_act_4 : decode cX6_act 4 = .ok (.invokevirtual 263, 3) := by decide +kernel
theorem dX6_act_7 : decode cX6_act 7 = .ok (.aload_n 0, 1) := by decide +kernel
theorem dX6_act_8 : decode cX6_act 8 = .ok (.getfield 10, 3) := by decide +kernel
theorem dX6_act_11 : decode cX6_act 11 = .ok (.iload_n 1, 1) := by decide +kernel
theorem dX6_act_12 : decode cX6_act 12 = .ok (.invokevirtual 116, 3) := by decide +kernel
theorem dX6_act_15 : decode cX6_act 15 = .ok (.ifCond .eq 10, 3) := by decide +kernel
theorem dX6_act_18 : decode cX6_act 18 = .ok (.iload_n 2, 1) := by decide +kernel
theorem dX6_act_19 : decode cX6_act 19 = .ok (.invokestatic 266, 3) := by decide +kernel
theorem dX6_act_22 : decode cX6_act 22 = .ok (.ifCond .ne 5, 3) := by decide +kernel
theorem dX6_act_25 : decode cX6_act 25 = .ok (.iconst 0, 1) := by decide +kernel
theorem dX6_act_26 : decode cX6_act 26 = .ok (.ireturn, 1) := by decide +kernel
theorem dX6_act_27 : decode cX6_act 27 = .ok (.aload_n 0, 1) := by decide +kernel
theorem dX6_act_28 : decode cX6_act 28 = .ok (.getfield 50, 3) := by decide +kernel
theorem dX6_act_31 : decode cX6_act 31 = .ok (.iload_n 1, 1) := by decide +kernel
theorem dX6_act_32 : decode cX6_act 32 = .ok (.aload_n 0, 1) := by decide +kernel
theorem dX6_act_33 : decode cX6_act 33 = .ok (.getfield 10, 3) := by decide +kernel
theorem dX6_act_36 : decode cX6_act 36 = .ok (.iload_n 1, 1) := by decide +kernel
theorem dX6_act_37 : decode cX6_act 37 = .ok (.invokevirtual 129, 3) := by decide +kernel
theorem dX6_act_40 : decode cX6_act 40 = .ok (.iload_n 2, 1) := by decide +kernel
theorem dX6_act_41 : decode cX6_act 41 = .ok (.iload_n 3, 1) := by decide +kernel
theorem dX6_act_42 : decode cX6_act 42 = .ok (.invokevirtual 269, 3) := by decide +kernel
theorem dX6_act_45 : decode cX6_act 45 = .ok (.ireturn, 1) := by decide +kernel
theorem dX6_trace_0 : decode cX6_trace 0 = .ok (.aload_n 0, 1) := by decide +kernel
theorem dX6_trace_1 : decode cX6_trace 1 = .ok (.getfield 50, 3) := by decide +kernel
theorem dX6_trace_4 : decode cX6_trace 4 = .ok (.iload_n 1, 1) := by decide +kernel
theorem dX6_trace_5 : decode cX6_trace 5 = .ok (.invokevirtual 273, 3) := by decide +kernel
theorem dX6_trace_8 : decode cX6_trace 8 = .ok (.ireturn, 1) := by decide +kernel
theorem dX6_image_0 : decode cX6_image 0 = .ok (.aload_n 0, 1) := by decide +kernel
theorem dX6_image_1 : decode cX6_image 1 = .ok (.getfield 19, 3) := by decide +kernel
theorem dX6_image_4 : decode cX6_image 4 = .ok (.aload_n 0, 1) := by decide +kernel
theorem dX6_image_5 : decode cX6_image 5 = .ok (.getfield 10, 3) := by decide +kernel
theorem dX6_image_8 : decode cX6_image 8 = .ok (.invokevirtual 186, 3) := by decide +kernel
theorem dX6_image_11 : decode cX6_image 11 = .ok (.aload_n 0, 1) := by decide +kernel
theorem dX6_image_12 : decode cX6_image 12 = .ok (.iconst 1, 1) := by decide +kernel
theorem dX6_image_13 : decode cX6_image 13 = .ok (.putfield 276, 3) := by decide +kernel
theorem dX6_image_16 : decode cX6_image 16 = .ok (.aload_n 0, 1) := by decide +kernel
theorem dX6_image_17 : decode cX6_image 17 = .ok (.getfield 10, 3) := by decide +kernel
theorem dX6_image_20 : decode cX6_image 20 = .ok (.getfield 233, 3) := by decide +kernel
theorem dX6_image_23 : decode cX6_image 23 = .ok (.ireturn, 1) := by decide +kernel
theorem dX6_restore_0 : decode cX6_restore 0 = .ok (.aload_n 0, 1) := by decide +kernel
theorem dX6_restore_1 : decode cX6_restore 1 = .ok (.getfield 276, 3) := by decide +kernel
theorem dX6_restore_4 : decode cX6_restore 4 = .ok (.ifCond .ne 10, 3) := by decide +kernel
theorem dX6_restore_7 : decode cX6_restore 7 = .ok (.aload_n 0, 1) := by decide +kernel
theorem dX6_restore_8 : decode cX6_restore 8 = .ok (.bipush (-6), 2) := by decide +kernel
theorem dX6_restore_10 : decode cX6_restore 10 = .ok (.invokevirtual 66, 3) := by decide +kernel
theorem dX6_restore_13 : decode cX6_restore 13 = .ok (.ireturn, 1) := by decide +kernel
theorem dX6_restore_14 : decode cX6_restore 14 = .ok (.aload_n 0, 1) := by decide +kernel
theorem dX6_restore_15 : decode cX6_restore 15 = .ok (.getfield 10, 3) := by decide +kernel
theorem dX6_restore_18 : decode cX6_restore 18 = .ok (.aload_n 0, 1) := by decide +kernel
theorem dX6_restore_19 : decode cX6_restore 19 = .ok (.getfield 19, 3) := by decide +kernel
theorem dX6_restore_22 : decode cX6_restore 22 = .ok (.invokevirtual 186, 3) := by decide +kernel
theorem dX6_restore_25 : decode cX6_restore 25 = .ok (.iconst 0, 1) := by decide +kernel
theorem dX6_restore_26 : decode cX6_restore 26 = .ok (.istore_n 1, 1) := by decide +kernel
theorem dX6_restore_27 : decode cX6_restore 27 = .ok (.iload_n 1, 1) := by decide +kernel
theorem dX6_restore_28 : decode cX6_restore 28 = .ok (.bipush 8, 2) := by decide +kernel
theorem dX6_restore_30 : decode cX6_restore 30 = .ok (.if_icmp .ge 41, 3) := by decide +kernel
theorem dX6_restore_33 : decode cX6_restore 33 = .ok (.aload_n 0, 1) := by decide +kernel
theorem dX6_restore_34 : decode cX6_restore 34 = .ok (.iload_n 1, 1) := by decide +kernel
theorem dX6_restore_35 : decode cX6_restore 35 = .ok (.invokevirtual 70, 3) := by decide +kernel
theorem dX6_restore_38 : decode cX6_restore 38 = .ok (.astore_n 2, 1) := by decide +kernel
theorem dX6_restore_39 : decode cX6_restore 39 = .ok (.aload_n 2, 1) := by decide +kernel
theorem dX6_restore_40 : decode cX6_restore 40 = .ok (.invokevirtual 92, 3) := by decide +kernel
theorem dX6_restore_43 : decode cX6_restore 43 = .ok (.ifCond .eq 22, 3) := by decide +kernel
theorem dX6_restore_46 : decode cX6_restore 46 = .ok (.aload_n 0, 1) := by decide +kernel
theorem dX6_restore_47 : decode cX6_restore 47 = .ok (.getfield 10, 3) := by decide +kernel
theorem dX6_restore_50 : decode cX6_restore 50 = .ok (.aload_n 2, 1) := by decide +kernel
theorem dX6_restore_51 : decode cX6_restore 51 = .ok (.getfield 123, 3) := by decide +kernel
theorem dX6_restore_54 : decode cX6_restore 54 = .ok (.invokevirtual 116, 3) := by decide +kernel
theorem dX6_restore_57 : decode cX6_restore 57 = .ok (.ifCond .ne 8, 3) := by decide +kernel
theorem dX6_restore_60 : decode cX6_restore 60 = .ok (.aload_n 2, 1) := by decide +kernel
theorem dX6_restore_61 : decode cX6_restore 61 = .ok (.iconst (-1), 1) := by decide +kernel
theorem dX6_restore_62 : decode cX6_restore 62 = .ok (.invokevirtual 119, 3) := by decide +kernel
theorem dX6_restore_65 : decode cX6_restore 65 = .ok (.iinc 1 1, 3) := by decide +kernel
theorem dX6_restore_68 : decode cX6_restore 68 = .ok (.goto (-41), 3) := by decide +kernel
theorem dX6_restore_71 : decode cX6_restore 71 = .ok (.aload_n 0, 1) := by decide +kernel
theorem dX6_restore_72 : decode cX6_restore 72 = .ok (.getfield 10, 3) := by decide +kernel
theorem dX6_restore_75 : decode cX6_restore 75 = .ok (.getfield 233, 3) := by decide +kernel
theorem dX6_restore_78 : decode cX6_restore 78 = .ok (.ireturn, 1) := by decide +kernel
theorem dX6_status_0 : decode cX6_status 0 = .ok (.iload_n 1, 1) := by decide +kernel
theorem dX6_status_1 : decode cX6_status 1 = .ok (.tableswitch 125 0 9 #[55, 63, 63, 63, 63, 74, 82, 101, 109, 117], 55) := by decide +kernel
theorem dX6_status_56 : decode cX6_status 56 = .ok (.aload_n 0, 1) := by decide +kernel
theorem dX6_status_57 : decode cX6_status 57 = .ok (.getfield 10, 3) := by decide +kernel
theorem dX6_status_60 : decode cX6_status 60 = .ok (.getfield 233, 3) := by decide +kernel
theorem dX6_status_63 : decode cX6_status 63 = .ok (.ireturn, 1) := by decide +kernel
theorem dX6_status_64 : decode cX6_status 64 = .ok (.aload_n 0, 1) := by decide +kernel
theorem dX6_status_65 : decode cX6_status 65 = .ok (.getfield 10, 3) := by decide +kernel
theorem dX6_status_68 : decode cX6_status 68 = .ok (.iload_n 1, 1) := by decide +kernel
theorem dX6_status_69 : decode cX6_status 69 = .ok (.iconst 1, 1) := by decide +kernel
theorem dX6_status_70 : decode cX6_status 70 = .ok (.isub, 1) := by decide +kernel
theorem dX6_status_71 : decode cX6_status 71 = .ok (.invokevirtual 160, 3) := by decide +kernel
theorem dX6_status_74 : decode cX6_status 74 = .ok (.ireturn, 1) := by decide +kernel
theorem dX6_status_75 : decode cX6_status 75 = .ok (.aload_n 0, 1) := by decide +kernel
theorem dX6_status_76 : decode cX6_status 76 = .ok (.getfield 10, 3) := by decide +kernel
theorem dX6_status_79 : decode cX6_status 79 = .ok (.getfield 279, 3) := by decide +kernel
theorem dX6_status_82 : decode cX6_status 82 = .ok (.ireturn, 1) := by decide +kernel
theorem dX6_status_83 : decode cX6_status 83 = .ok (.aload_n 0, 1) := by decide +kernel
theorem dX6_status_84 : decode cX6_status 84 = .ok (.getfield 10, 3) := by decide +kernel
theorem dX6_status_87 : decode cX6_status 87 = .ok (.getfield 233, 3) := by decide +kernel
theorem dX6_status_90 : decode cX6_status 90 = .ok (.aload_n 0, 1) := by decide +kernel
theorem dX6_status_91 : decode cX6_status 91 = .ok (.getfield 10, 3) := by decide +kernel
theorem dX6_status_94 : decode cX6_status 94 = .ok (.invokevirtual 206, 3) := by decide +kernel
theorem dX6_status_97 : decode cX6_status 97 = .ok (.invokestatic 210, 3) := by decide +kernel
theorem dX6_status_100 : decode cX6_status 100 = .ok (.isub, 1) := by decide +kernel
theorem dX6_status_101 : decode cX6_status 101 = .ok (.ireturn, 1) := by decide +kernel
theorem dX6_status_102 : decode cX6_status 102 = .ok (.aload_n 0, 1) := by decide +kernel
theorem dX6_status_103 : decode cX6_status 103 = .ok (.getfield 10, 3) := by decide +kernel
theorem dX6_status_106 : decode cX6_status 106 = .ok (.invokevirtual 282, 3) := by decide +kernel
theorem dX6_status_109 : decode cX6_status 109 = .ok (.ireturn, 1) := by decide +kernel
theorem dX6_status_110 : decode cX6_status 110 = .ok (.aload_n 0, 1) := by decide +kernel
theorem dX6_status_111 : decode cX6_status 111 = .ok (.getfield 10, 3) := by decide +kernel
theorem dX6_status_114 : decode cX6_status 114 = .ok (.getfield 260, 3) := by decide +kernel
theorem dX6_status_117 : decode cX6_status 117 = .ok (.ireturn, 1) := by decide +kernel
theorem dX6_status_118 : decode cX6_status 118 = .ok (.aload_n 0, 1) := by decide +kernel
theorem dX6_status_119 : decode cX6_status 119 = .ok (.getfield 50, 3) := by decide +kernel
theorem dX6_status_122 : decode cX6_status 122 = .ok (.getfield 285, 3) := by decide +kernel
theorem dX6_status_125 : decode cX6_status 125 = .ok (.ireturn, 1) := by decide +kernel
theorem dX6_status_126 : decode cX6_status 126 = .ok (.iload_n 1, 1) := by decide +kernel
theorem dX6_status_127 : decode cX6_status 127 = .ok (.bipush 10, 2) := by decide +kernel
theorem dX6_status_129 : decode cX6_status 129 = .ok (.if_icmp .le 27, 3) := by decide +kernel
theorem dX6_status_132 : decode cX6_status 132 = .ok (.iload_n 1, 1) := by decide +kernel
theorem dX6_status_133 : decode cX6_status 133 = .ok (.bipush 10, 2) := by decide +kernel
theorem dX6_status_135 : decode cX6_status 135 = .ok (.aload_n 0, 1) := by decide +kernel
theorem dX6_status_136 : decode cX6_status 136 = .ok (.getfield 54, 3) := by decide +kernel
theorem dX6_status_139 : decode cX6_status 139 = .ok (.arraylength, 1) := by decide +kernel
theorem dX6_status_140 : decode cX6_status 140 = .ok (.iadd, 1) := by decide +kernel
theorem dX6_status_141 : decode cX6_status 141 = .ok (.if_icmp .ge 15, 3) := by decide +kernel
theorem dX6_status_144 : decode cX6_status 144 = .ok (.aload_n 0, 1) := by decide +kernel
theorem dX6_status_145 : decode cX6_status 145 = .ok (.getfield 54, 3) := by decide +kernel
theorem dX6_status_148 : decode cX6_status 148 = .ok (.iload_n 1, 1) := by decide +kernel
theorem dX6_status_149 : decode cX6_status 149 = .ok (.bipush 10, 2) := by decide +kernel
theorem dX6_status_151 : decode cX6_status 151 = .ok (.isub, 1) := by decide +kernel
theorem dX6_status_152 : decode cX6_status 152 = .ok (.iaload, 1) := by decide +kernel
theorem dX6_status_153 : decode cX6_status 153 = .ok (.goto 4, 3) := by decide +kernel
theorem dX6_status_156 : decode cX6_status 156 = .ok (.iconst (-1), 1) := by decide +kernel
theorem dX6_status_157 : decode cX6_status 157 = .ok (.ireturn, 1) := by decide +kernel
theorem dX6_refuse_0 : decode cX6_refuse 0 = .ok (.iload_n 1, 1) := by decide +kernel
theorem dX6_refuse_1 : decode cX6_refuse 1 = .ok (.ineg, 1) := by decide +kernel
theorem dX6_refuse_2 : decode cX6_refuse 2 = .ok (.istore_n 2, 1) := by decide +kernel
theorem dX6_refuse_3 : decode cX6_refuse 3 = .ok (.iload_n 2, 1) := by decide +kernel
theorem dX6_refuse_4 : decode cX6_refuse 4 = .ok (.ifCond .lt 22, 3) := by decide +kernel
theorem dX6_refuse_7 : decode cX6_refuse 7 = .ok (.iload_n 2, 1) := by decide +kernel
theorem dX6_refuse_8 : decode cX6_refuse 8 = .ok (.aload_n 0, 1) := by decide +kernel
theorem dX6_refuse_9 : decode cX6_refuse 9 = .ok (.getfield 54, 3) := by decide +kernel
theorem dX6_refuse_12 : decode cX6_refuse 12 = .ok (.arraylength, 1) := by decide +kernel
theorem dX6_refuse_13 : decode cX6_refuse 13 = .ok (.if_icmp .ge 13, 3) := by decide +kernel
theorem dX6_refuse_16 : decode cX6_refuse 16 = .ok (.aload_n 0, 1) := by decide +kernel
theorem dX6_refuse_17 : decode cX6_refuse 17 = .ok (.getfield 54, 3) := by decide +kernel
theorem dX6_refuse_20 : decode cX6_refuse 20 = .ok (.iload_n 2, 1) := by decide +kernel
theorem dX6_refuse_21 : decode cX6_refuse 21 = .ok (.dup2, 1) := by decide +kernel
theorem dX6_refuse_22 : decode cX6_refuse 22 = .ok (.iaload, 1) := by decide +kernel
theorem dX6_refuse_23 : decode cX6_refuse 23 = .ok (.iconst 1, 1) := by decide +kernel
theorem dX6_refuse_24 : decode cX6_refuse 24 = .ok (.iadd, 1) := by decide +kernel
theorem dX6_refuse_25 : decode cX6_refuse 25 = .ok (.iastore, 1) := by decide +kernel
theorem dX6_refuse_26 : decode cX6_refuse 26 = .ok (.iload_n 1, 1) := by decide +kernel
theorem dX6_refuse_27 : decode cX6_refuse 27 = .ok (.ireturn, 1) := by decide +kernel
theorem dX6_isShelf_0 : decode cX6_isShelf 0 = .ok (.iload_n 1, 1) := by decide +kernel
theorem dX6_isShelf_1 : decode cX6_isShelf 1 = .ok (.ifCond .lt 16, 3) := by decide +kernel
theorem dX6_isShelf_4 : decode cX6_isShelf 4 = .ok (.iload_n 1, 1) := by decide +kernel
theorem dX6_isShelf_5 : decode cX6_isShelf 5 = .ok (.aload_n 0, 1) := by decide +kernel
theorem dX6_isShelf_6 : decode cX6_isShelf 6 = .ok (.getfield 31, 3) := by decide +kernel
theorem dX6_isShelf_9 : decode cX6_isShelf 9 = .ok (.arraylength, 1) := by decide +kernel
theorem dX6_isShelf_10 : decode cX6_isShelf 10 = .ok (.if_icmp .ge 7, 3) := by decide +kernel
theorem dX6_isShelf_13 : decode cX6_isShelf 13 = .ok (.iconst 1, 1) := by decide +kernel
theorem dX6_isShelf_14 : decode cX6_isShelf 14 = .ok (.goto 4, 3) := by decide +kernel
theorem dX6_isShelf_17 : decode cX6_isShelf 17 = .ok (.iconst 0, 1) := by decide +kernel
theorem dX6_isShelf_18 : decode cX6_isShelf 18 = .ok (.ireturn, 1) := by decide +kernel
theorem dX6_shelfAt_0 : decode cX6_shelfAt 0 = .ok (.iload_n 1, 1) := by decide +kernel
theorem dX6_shelfAt_1 : decode cX6_shelfAt 1 = .ok (.ifCond .lt 21, 3) := by decide +kernel
theorem dX6_shelfAt_4 : decode cX6_shelfAt 4 = .ok (.iload_n 1, 1) := by decide +kernel
theorem dX6_shelfAt_5 : decode cX6_shelfAt 5 = .ok (.aload_n 0, 1) := by decide +kernel
theorem dX6_shelfAt_6 : decode cX6_shelfAt 6 = .ok (.getfield 31, 3) := by decide +kernel
theorem dX6_shelfAt_9 : decode cX6_shelfAt 9 = .ok (.arraylength, 1) := by decide +kernel
theorem dX6_shelfAt_10 : decode cX6_shelfAt 10 = .ok (.if_icmp .ge 12, 3) := by decide +kernel
theorem dX6_shelfAt_13 : decode cX6_shelfAt 13 = .ok (.aload_n 0, 1) := by decide +kernel
theorem dX6_shelfAt_14 : decode cX6_shelfAt 14 = .ok (.getfield 31, 3) := by decide +kernel
theorem dX6_shelfAt_17 : decode cX6_shelfAt 17 = .ok (.iload_n 1, 1) := by decide +kernel
theorem dX6_shelfAt_18 : decode cX6_shelfAt 18 = .ok (.aaload, 1) := by decide +kernel
theorem dX6_shelfAt_19 : decode cX6_shelfAt 19 = .ok (.goto 7, 3) := by decide +kernel
theorem dX6_shelfAt_22 : decode cX6_shelfAt 22 = .ok (.aload_n 0, 1) := by decide +kernel
theorem dX6_shelfAt_23 : decode cX6_shelfAt 23 = .ok (.getfield 36, 3) := by decide +kernel
theorem dX6_shelfAt_26 : decode cX6_shelfAt 26 = .ok (.areturn, 1) := by decide +kernel
theorem dX6_whyNoRow_0 : decode cX6_whyNoRow 0 = .ok (.aload_n 0, 1) := by decide +kernel
theorem dX6_whyNoRow_1 : decode cX6_whyNoRow 1 = .ok (.iload_n 1, 1) := by decide +kernel
theorem dX6_whyNoRow_2 : decode cX6_whyNoRow 2 = .ok (.invokevirtual 62, 3) := by decide +kernel
theorem dX6_whyNoRow_5 : decode cX6_whyNoRow 5 = .ok (.ifCond .ne 5, 3) := by decide +kernel
theorem dX6_whyNoRow_8 : decode cX6_whyNoRow 8 = .ok (.iconst (-1), 1) := by decide +kernel
theorem dX6_whyNoRow_9 : decode cX6_whyNoRow 9 = .ok (.ireturn, 1) := by decide +kernel
theorem dX6_whyNoRow_10 : decode cX6_whyNoRow 10 = .ok (.aload_n 0, 1) := by decide +kernel
theorem dX6_whyNoRow_11 : decode cX6_whyNoRow 11 = .ok (.iload_n 1, 1) := by decide +kernel
theorem dX6_whyNoRow_12 : decode cX6_whyNoRow 12 = .ok (.invokevirtual 70, 3) := by decide +kernel
theorem dX6_whyNoRow_15 : decode cX6_whyNoRow 15 = .ok (.astore_n 2, 1) := by decide +kernel
theorem dX6_whyNoRow_16 : decode cX6_whyNoRow 16 = .ok (.aload_n 2, 1) := by decide +kernel
theorem dX6_whyNoRow_17 : decode cX6_whyNoRow 17 = .ok (.invokevirtual 92, 3) := by decide +kernel
theorem dX6_whyNoRow_20 : decode cX6_whyNoRow 20 = .ok (.ifCond .eq 8, 3) := by decide +kernel
theorem dX6_whyNoRow_23 : decode cX6_whyNoRow 23 = .ok (.bipush (-2), 2) := by decide +kernel
theorem dX6_whyNoRow_25 : decode cX6_whyNoRow 25 = .ok (.goto 16, 3) := by decide +kernel
theorem dX6_whyNoRow_28 : decode cX6_whyNoRow 28 = .ok (.aload_n 2, 1) := by decide +kernel
theorem dX6_whyNoRow_29 : decode cX6_whyNoRow 29 = .ok (.invokevirtual 88, 3) := by decide +kernel
theorem dX6_whyNoRow_32 : decode cX6_whyNoRow 32 = .ok (.ifCond .eq 7, 3) := by decide +kernel
theorem dX6_whyNoRow_35 : decode cX6_whyNoRow 35 = .ok (.iconst 0, 1) := by decide +kernel
theorem dX6_whyNoRow_36 : decode cX6_whyNoRow 36 = .ok (.goto 5, 3) := by decide +kernel
theorem dX6_whyNoRow_39 : decode cX6_whyNoRow 39 = .ok (.bipush (-3), 2) := by decide +kernel
theorem dX6_whyNoRow_41 : decode cX6_whyNoRow 41 = .ok (.ireturn, 1) := by decide +kernel
theorem dX6_whyNoRegister_0 : decode cX6_whyNoRegister 0 = .ok (.aload_n 0, 1) := by decide +kernel
theorem dX6_whyNoRegister_1 : decode cX6_whyNoRegister 1 = .ok (.iload_n 1, 1) := by decide +kernel
theorem dX6_whyNoRegister_2 : decode cX6_whyNoRegister 2 = .ok (.invokevirtual 78, 3) := by decide +kernel
theorem dX6_whyNoRegister_5 : decode cX6_whyNoRegister 5 = .ok (.istore_n 3, 1) := by decide +kernel
theorem dX6_whyNoRegister_6 : decode cX6_whyNoRegister 6 = .ok (.iload_n 3, 1) := by decide +kernel
theorem dX6_whyNoRegister_7 : decode cX6_whyNoRegister 7 = .ok (.ifCond .eq 5, 3) := by decide +kernel
theorem dX6_whyNoRegister_10 : decode cX6_whyNoRegister 10 = .ok (.iload_n 3, 1) := by decide +kernel
theorem dX6_whyNoRegister_11 : decode cX6_whyNoRegister 11 = .ok (.ireturn, 1) := by decide +kernel
theorem dX6_whyNoRegister_12 : decode cX6_whyNoRegister 12 = .ok (.iload_n 2, 1) := by decide +kernel
theorem dX6_whyNoRegister_13 : decode cX6_whyNoRegister 13 = .ok (.ifCond .ge 6, 3) := by decide +kernel
theorem dX6_whyNoRegister_16 : decode cX6_whyNoRegister 16 = .ok (.bipush (-4), 2) := by decide +kernel
theorem dX6_whyNoRegister_18 : decode cX6_whyNoRegister 18 = .ok (.ireturn, 1) := by decide +kernel
theorem dX6_whyNoRegister_19 : decode cX6_whyNoRegister 19 = .ok (.iload_n 2, 1) := by decide +kernel
theorem dX6_whyNoRegister_20 : decode cX6_whyNoRegister 20 = .ok (.aload_n 0, 1) := by decide +kernel
theorem dX6_whyNoRegister_21 : decode cX6_whyNoRegister 21 = .ok (.iload_n 1, 1) := by decide +kernel
theorem dX6_whyNoRegister_22 : decode cX6_whyNoRegister 22 = .ok (.invokevirtual 70, 3) := by decide +kernel
theorem dX6_whyNoRegister_25 : decode cX6_whyNoRegister 25 = .ok (.getfield 288, 3) := by decide +kernel
theorem dX6_whyNoRegister_28 : decode cX6_whyNoRegister 28 = .ok (.if_icmp .le 8, 3) := by decide +kernel
theorem dX6_whyNoRegister_31 : decode cX6_whyNoRegister 31 = .ok (.bipush (-5), 2) := by decide +kernel
theorem dX6_whyNoRegister_33 : decode cX6_whyNoRegister 33 = .ok (.goto 15, 3) := by decide +kernel
theorem dX6_whyNoRegister_36 : decode cX6_whyNoRegister 36 = .ok (.iload_n 2, 1) := by decide +kernel
theorem dX6_whyNoRegister_37 : decode cX6_whyNoRegister 37 = .ok (.bipush 24, 2) := by decide +kernel
theorem dX6_whyNoRegister_39 : decode cX6_whyNoRegister 39 = .ok (.if_icmp .le 8, 3) := by decide +kernel
theorem dX6_whyNoRegister_42 : decode cX6_whyNoRegister 42 = .ok (.bipush (-6), 2) := by decide +kernel
theorem dX6_whyNoRegister_44 : decode cX6_whyNoRegister 44 = .ok (.goto 4, 3) := by decide +kernel
theorem dX6_whyNoRegister_47 : decode cX6_whyNoRegister 47 = .ok (.iconst 0, 1) := by decide +kernel
theorem dX6_whyNoRegister_48 : decode cX6_whyNoRegister 48 = .ok (.ireturn, 1) := by decide +kernel
theorem dX6_heldBy_0 : decode cX6_heldBy 0 = .ok (.aload_n 0, 1) := by decide +kernel
theorem dX6_heldBy_1 : decode cX6_heldBy 1 = .ok (.getfield 10, 3) := by decide +kernel
theorem dX6_heldBy_4 : decode cX6_heldBy 4 = .ok (.iconst 0, 1) := by decide +kernel
theorem dX6_heldBy_5 : decode cX6_heldBy 5 = .ok (.invokevirtual 193, 3) := by decide +kernel
theorem dX6_heldBy_8 : decode cX6_heldBy 8 = .ok (.iconst 1, 1) := by decide +kernel
theorem dX6_heldBy_9 : decode cX6_heldBy 9 = .ok (.iload_n 1, 1) := by decide +kernel
theorem dX6_heldBy_10 : decode cX6_heldBy 10 = .ok (.ishl, 1) := by decide +kernel
theorem dX6_heldBy_11 : decode cX6_heldBy 11 = .ok (.iconst (-1), 1) := by decide +kernel
theorem dX6_heldBy_12 : decode cX6_heldBy 12 = .ok (.ixor, 1) := by decide +kernel
theorem dX6_heldBy_13 : decode cX6_heldBy 13 = .ok (.iand, 1) := by decide +kernel
theorem dX6_heldBy_14 : decode cX6_heldBy 14 = .ok (.istore_n 2, 1) := by decide +kernel
theorem dX6_heldBy_15 : decode cX6_heldBy 15 = .ok (.aload_n 0, 1) := by decide +kernel
theorem dX6_heldBy_16 : decode cX6_heldBy 16 = .ok (.getfield 16, 3) := by decide +kernel
theorem dX6_heldBy_19 : decode cX6_heldBy 19 = .ok (.aload_n 0, 1) := by decide +kernel
theorem dX6_heldBy_20 : decode cX6_heldBy 20 = .ok (.getfield 10, 3) := by decide +kernel
theorem dX6_heldBy_23 : decode cX6_heldBy 23 = .ok (.invokevirtual 186, 3) := by decide +kernel
theorem dX6_heldBy_26 : decode cX6_heldBy 26 = .ok (.aload_n 0, 1) := by decide +kernel
theorem dX6_heldBy_27 : decode cX6_heldBy 27 = .ok (.getfield 16, 3) := by decide +kernel
theorem dX6_heldBy_30 : decode cX6_heldBy 30 = .ok (.iload_n 1, 1) := by decide +kernel
theorem dX6_heldBy_31 : decode cX6_heldBy 31 = .ok (.invokevirtual 129, 3) := by decide +kernel
theorem dX6_heldBy_34 : decode cX6_heldBy 34 = .ok (.iconst 1, 1) := by decide +kernel
theorem dX6_heldBy_35 : decode cX6_heldBy 35 = .ok (.putfield 166, 3) := by decide +kernel
theorem dX6_heldBy_38 : decode cX6_heldBy 38 = .ok (.iload_n 2, 1) := by decide +kernel
theorem dX6_heldBy_39 : decode cX6_heldBy 39 = .ok (.invokestatic 210, 3) := by decide +kernel
theorem dX6_heldBy_42 : decode cX6_heldBy 42 = .ok (.aload_n 0, 1) := by decide +kernel
theorem dX6_heldBy_43 : decode cX6_heldBy 43 = .ok (.getfield 16, 3) := by decide +kernel
theorem dX6_heldBy_46 : decode cX6_heldBy 46 = .ok (.iconst 0, 1) := by decide +kernel
theorem dX6_heldBy_47 : decode cX6_heldBy 47 = .ok (.invokevirtual 193, 3) := by decide +kernel
theorem dX6_heldBy_50 : decode cX6_heldBy 50 = .ok (.invokestatic 210, 3) := by decide +kernel
theorem dX6_heldBy_53 : decode cX6_heldBy 53 = .ok (.isub, 1) := by decide +kernel
theorem dX6_heldBy_54 : decode cX6_heldBy 54 = .ok (.ireturn, 1) := by decide +kernel
theorem dX6_isStretch_0 : decode cX6_isStretch 0 = .ok (.iload_n 0, 1) := by decide +kernel
theorem dX6_isStretch_1 : decode cX6_isStretch 1 = .ok (.ifCond .lt 13, 3) := by decide +kernel
theorem dX6_isStretch_4 : decode cX6_isStretch 4 = .ok (.iload_n 0, 1) := by decide +kernel
theorem dX6_isStretch_5 : decode cX6_isStretch 5 = .ok (.bipush 24, 2) := by decide +kernel
theorem dX6_isStretch_7 : decode cX6_isStretch 7 = .ok (.if_icmp .gt 7, 3) := by decide +kernel
theorem dX6_isStretch_10 : decode cX6_isStretch 10 = .ok (.iconst 1, 1) := by decide +kernel
theorem dX6_isStretch_11 : decode cX6_isStretch 11 = .ok (.goto 4, 3) := by decide +kernel
theorem dX6_isStretch_14 : decode cX6_isStretch 14 = .ok (.iconst 0, 1) := by decide +kernel
theorem dX6_isStretch_15 : decode cX6_isStretch 15 = .ok (.ireturn, 1) := by decide +kernel
theorem dX6_isIn_0 : decode cX6_isIn 0 = .ok (.iload_n 1, 1) := by decide +kernel
theorem dX6_isIn_1 : decode cX6_isIn 1 = .ok (.ifCond .lt 22, 3) := by decide +kernel
theorem dX6_isIn_4 : decode cX6_isIn 4 = .ok (.iload_n 1, 1) := by decide +kernel
theorem dX6_isIn_5 : decode cX6_isIn 5 = .ok (.bipush 10, 2) := by decide +kernel
theorem dX6_isIn_7 : decode cX6_isIn 7 = .ok (.if_icmp .ge 16, 3) := by decide +kernel
theorem dX6_isIn_10 : decode cX6_isIn 10 = .ok (.iload_n 0, 1) := by decide +kernel
theorem dX6_isIn_11 : decode cX6_isIn 11 = .ok (.iload_n 1, 1) := by decide +kernel
theorem dX6_isIn_12 : decode cX6_isIn 12 = .ok (.ishr, 1) := by decide +kernel
theorem dX6_isIn_13 : decode cX6_isIn 13 = .ok (.iconst 1, 1) := by decide +kernel
theorem dX6_isIn_14 : decode cX6_isIn 14 = .ok (.iand, 1) := by decide +kernel
theorem dX6_isIn_15 : decode cX6_isIn 15 = .ok (.iconst 1, 1) := by decide +kernel
theorem dX6_isIn_16 : decode cX6_isIn 16 = .ok (.if_icmp .ne 7, 3) := by decide +kernel
theorem dX6_isIn_19 : decode cX6_isIn 19 = .ok (.iconst 1, 1) := by decide +kernel
theorem dX6_isIn_20 : decode cX6_isIn 20 = .ok (.goto 4, 3) := by decide +kernel
theorem dX6_isIn_23 : decode cX6_isIn 23 = .ok (.iconst 0, 1) := by decide +kernel
theorem dX6_isIn_24 : decode cX6_isIn 24 = .ok (.ireturn, 1) := by decide +kernel
theorem dX6_isKind_0 : decode cX6_isKind 0 = .ok (.iload_n 0, 1) := by decide +kernel
theorem dX6_isKind_1 : decode cX6_isKind 1 = .ok (.ifCond .lt 15, 3) := by decide +kernel
theorem dX6_isKind_4 : decode cX6_isKind 4 = .ok (.iload_n 0, 1) := by decide +kernel
theorem dX6_isKind_5 : decode cX6_isKind 5 = .ok (.getstatic 291, 3) := by decide +kernel
theorem dX6_isKind_8 : decode cX6_isKind 8 = .ok (.arraylength, 1) := by decide +kernel
theorem dX6_isKind_9 : decode cX6_isKind 9 = .ok (.if_icmp .ge 7, 3) := by decide +kernel
theorem dX6_isKind_12 : decode cX6_isKind 12 = .ok (.iconst 1, 1) := by decide +kernel
theorem dX6_isKind_13 : decode cX6_isKind 13 = .ok (.goto 4, 3) := by decide +kernel
theorem dX6_isKind_16 : decode cX6_isKind 16 = .ok (.iconst 0, 1) := by decide +kernel
theorem dX6_isKind_17 : decode cX6_isKind 17 = .ok (.ireturn, 1) := by decide +kernel
theorem dX6_kindAbove_0 : decode cX6_kindAbove 0 = .ok (.iload_n 0, 1) := by decide +kernel
theorem dX6_kindAbove_1 : decode cX6_kindAbove 1 = .ok (.ifCond .lt 19, 3) := by decide +kernel
theorem dX6_kindAbove_4 : decode cX6_kindAbove 4 = .ok (.iload_n 0, 1) := by decide +kernel
theorem dX6_kindAbove_5 : decode cX6_kindAbove 5 = .ok (.getstatic 291, 3) := by decide +kernel
theorem dX6_kindAbove_8 : decode cX6_kindAbove 8 = .ok (.arraylength, 1) := by decide +kernel
theorem dX6_kindAbove_9 : decode cX6_kindAbove 9 = .ok (.if_icmp .ge 11, 3) := by decide +kernel
theorem dX6_kindAbove_12 : decode cX6_kindAbove 12 = .ok (.getstatic 291, 3) := by decide +kernel
theorem dX6_kindAbove_15 : decode cX6_kindAbove 15 = .ok (.iload_n 0, 1) := by decide +kernel
theorem dX6_kindAbove_16 : decode cX6_kindAbove 16 = .ok (.iaload, 1) := by decide +kernel
theorem dX6_kindAbove_17 : decode cX6_kindAbove 17 = .ok (.goto 4, 3) := by decide +kernel
theorem dX6_kindAbove_20 : decode cX6_kindAbove 20 = .ok (.iconst (-1), 1) := by decide +kernel
theorem dX6_kindAbove_21 : decode cX6_kindAbove 21 = .ok (.ireturn, 1) := by decide +kernel
theorem dX6_isUnder_0 : decode cX6_isUnder 0 = .ok (.iload_n 0, 1) := by decide +kernel
theorem dX6_isUnder_1 : decode cX6_isUnder 1 = .ok (.istore_n 2, 1) := by decide +kernel
theorem dX6_isUnder_2 : decode cX6_isUnder 2 = .ok (.iconst 0, 1) := by decide +kernel
theorem dX6_isUnder_3 : decode cX6_isUnder 3 = .ok (.istore_n 3, 1) := by decide +kernel
theorem dX6_isUnder_4 : decode cX6_isUnder 4 = .ok (.iload_n 3, 1) := by decide +kernel
theorem dX6_isUnder_5 : decode cX6_isUnder 5 = .ok (.getstatic 291, 3) := by decide +kernel
theorem dX6_isUnder_8 : decode cX6_isUnder 8 = .ok (.arraylength, 1) := by decide +kernel
theorem dX6_isUnder_9 : decode cX6_isUnder 9 = .ok (.if_icmp .ge 26, 3) := by decide +kernel
theorem dX6_isUnder_12 : decode cX6_isUnder 12 = .ok (.iload_n 2, 1) := by decide +kernel
theorem dX6_isUnder_13 : decode cX6_isUnder 13 = .ok (.iconst (-1), 1) := by decide +kernel
theorem dX6_isUnder_14 : decode cX6_isUnder 14 = .ok (.if_icmp .eq 21, 3) := by decide +kernel
theorem dX6_isUnder_17 : decode cX6_isUnder 17 = .ok (.iload_n 2, 1) := by decide +kernel
theorem dX6_isUnder_18 : decode cX6_isUnder 18 = .ok (.iload_n 1, 1) := by decide +kernel
theorem dX6_isUnder_19 : decode cX6_isUnder 19 = .ok (.if_icmp .ne 5, 3) := by decide +kernel
theorem dX6_isUnder_22 : decode cX6_isUnder 22 = .ok (.iconst 1, 1) := by decide +kernel
theorem dX6_isUnder_23 : decode cX6_isUnder 23 = .ok (.ireturn, 1) := by decide +kernel
theorem dX6_isUnder_24 : decode cX6_isUnder 24 = .ok (.iload_n 2, 1) := by decide +kernel
theorem dX6_isUnder_25 : decode cX6_isUnder 25 = .ok (.invokestatic 294, 3) := by decide +kernel
theorem dX6_isUnder_28 : decode cX6_isUnder 28 = .ok (.istore_n 2, 1) := by decide +kernel
theorem dX6_isUnder_29 : decode cX6_isUnder 29 = .ok (.iinc 3 1, 3) := by decide +kernel
theorem dX6_isUnder_32 : decode cX6_isUnder 32 = .ok (.goto (-28), 3) := by decide +kernel
theorem dX6_isUnder_35 : decode cX6_isUnder 35 = .ok (.iconst 0, 1) := by decide +kernel
theorem dX6_isUnder_36 : decode cX6_isUnder 36 = .ok (.ireturn, 1) := by decide +kernel
theorem dX6_leastOf_0 : decode cX6_leastOf 0 = .ok (.iload_n 0, 1) := by decide +kernel
theorem dX6_leastOf_1 : decode cX6_leastOf 1 = .ok (.ifCond .lt 19, 3) := by decide +kernel
theorem dX6_leastOf_4 : decode cX6_leastOf 4 = .ok (.iload_n 0, 1) := by decide +kernel
theorem dX6_leastOf_5 : decode cX6_leastOf 5 = .ok (.getstatic 297, 3) := by decide +kernel
theorem dX6_leastOf_8 : decode cX6_leastOf 8 = .ok (.arraylength, 1) := by decide +kernel
theorem dX6_leastOf_9 : decode cX6_leastOf 9 = .ok (.if_icmp .ge 11, 3) := by decide +kernel
theorem dX6_leastOf_12 : decode cX6_leastOf 12 = .ok (.getstatic 297, 3) := by decide +kernel
theorem dX6_leastOf_15 : decode cX6_leastOf 15 = .ok (.iload_n 0, 1) := by decide +kernel
theorem dX6_leastOf_16 : decode cX6_leastOf 16 = .ok (.iaload, 1) := by decide +kernel
theorem dX6_leastOf_17 : decode cX6_leastOf 17 = .ok (.goto 4, 3) := by decide +kernel
theorem dX6_leastOf_20 : decode cX6_leastOf 20 = .ok (.iconst 0, 1) := by decide +kernel
theorem dX6_leastOf_21 : decode cX6_leastOf 21 = .ok (.ireturn, 1) := by decide +kernel
theorem dX6_mostOf_0 : decode cX6_mostOf 0 = .ok (.iload_n 0, 1) := by decide +kernel
theorem dX6_mostOf_1 : decode cX6_mostOf 1 = .ok (.ifCond .lt 19, 3) := by decide +kernel
theorem dX6_mostOf_4 : decode cX6_mostOf 4 = .ok (.iload_n 0, 1) := by decide +kernel
theorem dX6_mostOf_5 : decode cX6_mostOf 5 = .ok (.getstatic 300, 3) := by decide +kernel
theorem dX6_mostOf_8 : decode cX6_mostOf 8 = .ok (.arraylength, 1) := by decide +kernel
theorem dX6_mostOf_9 : decode cX6_mostOf 9 = .ok (.if_icmp .ge 11, 3) := by decide +kernel
theorem dX6_mostOf_12 : decode cX6_mostOf 12 = .ok (.getstatic 300, 3) := by decide +kernel
theorem dX6_mostOf_15 : decode cX6_mostOf 15 = .ok (.iload_n 0, 1) := by decide +kernel
theorem dX6_mostOf_16 : decode cX6_mostOf 16 = .ok (.iaload, 1) := by decide +kernel
theorem dX6_mostOf_17 : decode cX6_mostOf 17 = .ok (.goto 4, 3) := by decide +kernel
theorem dX6_mostOf_20 : decode cX6_mostOf 20 = .ok (.iconst 0, 1) := by decide +kernel
theorem dX6_mostOf_21 : decode cX6_mostOf 21 = .ok (.ireturn, 1) := by decide +kernel
