theorem dX0_init_0 : decode cX0_init 0 = .ok (.aload_n 0, 1) := by decide +kernel
theorem dX0_init_1 : decode cX0_init 1 = .ok (.invokespecial 3, 3) := by decide +kernel
theorem dX0_init_4 : decode cX0_init 4 = .ok (.aload_n 0, 1) := by decide +kernel
theorem dX0_init_5 : decode cX0_init 5 = .ok (.bipush 20, 2) := by decide +kernel
theorem dX0_init_7 : decode cX0_init 7 = .ok (.newarray .int, 2) := by decide +kernel
theorem dX0_init_9 : decode cX0_init 9 = .ok (.putfield 9, 3) := by decide +kernel
theorem dX0_init_12 : decode cX0_init 12 = .ok (.return_, 1) := by decide +kernel
theorem dX0_isMove_0 : decode cX0_isMove 0 = .ok (.iload_n 0, 1) := by decide +kernel
theorem dX0_isMove_1 : decode cX0_isMove 1 = .ok (.ifCond .lt 12, 3) := by decide +kernel
theorem dX0_isMove_4 : decode cX0_isMove 4 = .ok (.iload_n 0, 1) := by decide +kernel
theorem dX0_isMove_5 : decode cX0_isMove 5 = .ok (.iconst 3, 1) := by decide +kernel
theorem dX0_isMove_6 : decode cX0_isMove 6 = .ok (.if_icmp .ge 7, 3) := by decide +kernel
theorem dX0_isMove_9 : decode cX0_isMove 9 = .ok (.iconst 1, 1) := by decide +kernel
theorem dX0_isMove_10 : decode cX0_isMove 10 = .ok (.goto 4, 3) := by decide +kernel
theorem dX0_isMove_13 : decode cX0_isMove 13 = .ok (.iconst 0, 1) := by decide +kernel
theorem dX0_isMove_14 : decode cX0_isMove 14 = .ok (.ireturn, 1) := by decide +kernel
theorem dX0_forget_0 : decode cX0_forget 0 = .ok (.aload_n 0, 1) := by decide +kernel
theorem dX0_forget_1 : decode cX0_forget 1 = .ok (.iconst 0, 1) := by decide +kernel
theorem dX0_forget_2 : decode cX0_forget 2 = .ok (.putfield 15, 3) := by decide +kernel
theorem dX0_forget_5 : decode cX0_forget 5 = .ok (.return_, 1) := by decide +kernel
theorem dX0_run_0 : decode cX0_run 0 = .ok (.aload_n 0, 1) := by decide +kernel
theorem dX0_run_1 : decode cX0_run 1 = .ok (.iload_n 1, 1) := by decide +kernel
theorem dX0_run_2 : decode cX0_run 2 = .ok (.putfield 19, 3) := by decide +kernel
theorem dX0_run_5 : decode cX0_run 5 = .ok (.aload_n 0, 1) := by decide +kernel
theorem dX0_run_6 : decode cX0_run 6 = .ok (.aload_n 2, 1) := by decide +kernel
theorem dX0_run_7 : decode cX0_run 7 = .ok (.getfield 22, 3) := by decide +kernel
theorem dX0_run_10 : decode cX0_run 10 = .ok (.putfield 27, 3) := by decide +kernel
theorem dX0_run_13 : decode cX0_run 13 = .ok (.aload_n 0, 1) := by decide +kernel
theorem dX0_run_14 : decode cX0_run 14 = .ok (.aload_n 2, 1) := by decide +kernel
theorem dX0_run_15 : decode cX0_run 15 = .ok (.getfield 28, 3) := by decide +kernel
theorem dX0_run_18 : decode cX0_run 18 = .ok (.putfield 31, 3) := by decide +kernel
theorem dX0_run_21 : decode cX0_run 21 = .ok (.aload_n 0, 1) := by decide +kernel
theorem dX0_run_22 : decode cX0_run 22 = .ok (.aload_n 0, 1) := by decide +kernel
theorem dX0_run_23 : decode cX0_run 23 = .ok (.getfield 27, 3) := by decide +kernel
theorem dX0_run_26 : decode cX0_run 26 = .ok (.iload_n 3, 1) := by decide +kernel
theorem dX0_run_27 : decode cX0_run 27 = .ok (.iload 4, 2) := by decide +kernel
theorem dX0_run_29 : decode cX0_run 29 = .ok (.iconst 0, 1) := by decide +kernel
theorem dX0_run_30 : decode cX0_run 30 = .ok (.invokevirtual 32, 3) := by decide +kernel
theorem dX0_run_33 : decode cX0_run 33 = .ok (.ireturn, 1) := by decide +kernel
theorem dX0_bodyAt_0 : decode cX0_bodyAt 0 = .ok (.iload_n 1, 1) := by decide +kernel
theorem dX0_bodyAt_1 : decode cX0_bodyAt 1 = .ok (.ifCond .lt 29, 3) := by decide +kernel
theorem dX0_bodyAt_4 : decode cX0_bodyAt 4 = .ok (.iload_n 1, 1) := by decide +kernel
theorem dX0_bodyAt_5 : decode cX0_bodyAt 5 = .ok (.aload_n 0, 1) := by decide +kernel
theorem dX0_bodyAt_6 : decode cX0_bodyAt 6 = .ok (.getfield 15, 3) := by decide +kernel
theorem dX0_bodyAt_9 : decode cX0_bodyAt 9 = .ok (.if_icmp .ge 21, 3) := by decide +kernel
theorem dX0_bodyAt_12 : decode cX0_bodyAt 12 = .ok (.iload_n 1, 1) := by decide +kernel
theorem dX0_bodyAt_13 : decode cX0_bodyAt 13 = .ok (.aload_n 0, 1) := by decide +kernel
theorem dX0_bodyAt_14 : decode cX0_bodyAt 14 = .ok (.getfield 9, 3) := by decide +kernel
theorem dX0_bodyAt_17 : decode cX0_bodyAt 17 = .ok (.arraylength, 1) := by decide +kernel
theorem dX0_bodyAt_18 : decode cX0_bodyAt 18 = .ok (.if_icmp .ge 12, 3) := by decide +kernel
theorem dX0_bodyAt_21 : decode cX0_bodyAt 21 = .ok (.aload_n 0, 1) := by decide +kernel
theorem dX0_bodyAt_22 : decode cX0_bodyAt 22 = .ok (.getfield 9, 3) := by decide +kernel
theorem dX0_bodyAt_25 : decode cX0_bodyAt 25 = .ok (.iload_n 1, 1) := by decide +kernel
theorem dX0_bodyAt_26 : decode cX0_bodyAt 26 = .ok (.iaload, 1) := by decide +kernel
theorem dX0_bodyAt_27 : decode cX0_bodyAt 27 = .ok (.goto 4, 3) := by decide +kernel
theorem dX0_bodyAt_30 : decode cX0_bodyAt 30 = .ok (.iconst (-1), 1) := by decide +kernel
theorem dX0_bodyAt_31 : decode cX0_bodyAt 31 = .ok (.ireturn, 1) := by decide +kernel
theorem dX0_bodyOf_0 : decode cX0_bodyOf 0 = .ok (.iload_n 0, 1) := by decide +kernel
theorem dX0_bodyOf_1 : decode cX0_bodyOf 1 = .ok (.iconst 3, 1) := by decide +kernel
theorem dX0_bodyOf_2 : decode cX0_bodyOf 2 = .ok (.imul, 1) := by decide +kernel
theorem dX0_bodyOf_3 : decode cX0_bodyOf 3 = .ok (.iload_n 1, 1) := by decide +kernel
theorem dX0_bodyOf_4 : decode cX0_bodyOf 4 = .ok (.iadd, 1) := by decide +kernel
theorem dX0_bodyOf_5 : decode cX0_bodyOf 5 = .ok (.istore_n 2, 1) := by decide +kernel
theorem dX0_bodyOf_6 : decode cX0_bodyOf 6 = .ok (.iload_n 2, 1) := by decide +kernel
theorem dX0_bodyOf_7 : decode cX0_bodyOf 7 = .ok (.ifCond .lt 19, 3) := by decide +kernel
theorem dX0_bodyOf_10 : decode cX0_bodyOf 10 = .ok (.iload_n 2, 1) := by decide +kernel
theorem dX0_bodyOf_11 : decode cX0_bodyOf 11 = .ok (.getstatic 36, 3) := by decide +kernel
theorem dX0_bodyOf_14 : decode cX0_bodyOf 14 = .ok (.arraylength, 1) := by decide +kernel
theorem dX0_bodyOf_15 : decode cX0_bodyOf 15 = .ok (.if_icmp .ge 11, 3) := by decide +kernel
theorem dX0_bodyOf_18 : decode cX0_bodyOf 18 = .ok (.getstatic 36, 3) := by decide +kernel
theorem dX0_bodyOf_21 : decode cX0_bodyOf 21 = .ok (.iload_n 2, 1) := by decide +kernel
theorem dX0_bodyOf_22 : decode cX0_bodyOf 22 = .ok (.iaload, 1) := by decide +kernel
theorem dX0_bodyOf_23 : decode cX0_bodyOf 23 = .ok (.goto 4, 3) := by decide +kernel
theorem dX0_bodyOf_26 : decode cX0_bodyOf 26 = .ok (.iconst (-1), 1) := by decide +kernel
theorem dX0_bodyOf_27 : decode cX0_bodyOf 27 = .ok (.ireturn, 1) := by decide +kernel
theorem dX0_call_0 : decode cX0_call 0 = .ok (.iload 4, 2) := by decide +kernel
theorem dX0_call_2 : decode cX0_call 2 = .ok (.bipush 30, 2) := by decide +kernel
theorem dX0_call_4 : decode cX0_call 4 = .ok (.if_icmp .le 5, 3) := by decide +kernel
theorem dX0_call_7 : decode cX0_call 7 = .ok (.iconst 0, 1) := by decide +kernel
theorem dX0_call_8 : decode cX0_call 8 = .ok (.ireturn, 1) := by decide +kernel
theorem dX0_call_9 : decode cX0_call 9 = .ok (.iload_n 1, 1) := by decide +kernel
theorem dX0_call_10 : decode cX0_call 10 = .ok (.istore 5, 2) := by decide +kernel
theorem dX0_call_12 : decode cX0_call 12 = .ok (.iconst 0, 1) := by decide +kernel
theorem dX0_call_13 : decode cX0_call 13 = .ok (.istore 6, 2) := by decide +kernel
theorem dX0_call_15 : decode cX0_call 15 = .ok (.iload 6, 2) := by decide +kernel
theorem dX0_call_17 : decode cX0_call 17 = .ok (.getstatic 39, 3) := by decide +kernel
theorem dX0_call_20 : decode cX0_call 20 = .ok (.arraylength, 1) := by decide +kernel
theorem dX0_call_21 : decode cX0_call 21 = .ok (.if_icmp .ge 26, 3) := by decide +kernel
theorem dX0_call_24 : decode cX0_call 24 = .ok (.iload 5, 2) := by decide +kernel
theorem dX0_call_26 : decode cX0_call 26 = .ok (.iload_n 2, 1) := by decide +kernel
theorem dX0_call_27 : decode cX0_call 27 = .ok (.invokestatic 42, 3) := by decide +kernel
theorem dX0_call_30 : decode cX0_call 30 = .ok (.iconst (-1), 1) := by decide +kernel
theorem dX0_call_31 : decode cX0_call 31 = .ok (.if_icmp .ne 16, 3) := by decide +kernel
theorem dX0_call_34 : decode cX0_call 34 = .ok (.iload 5, 2) := by decide +kernel
theorem dX0_call_36 : decode cX0_call 36 = .ok (.invokestatic 46, 3) := by decide +kernel
theorem dX0_call_39 : decode cX0_call 39 = .ok (.istore 5, 2) := by decide +kernel
theorem dX0_call_41 : decode cX0_call 41 = .ok (.iinc 6 1, 3) := by decide +kernel
theorem dX0_call_44 : decode cX0_call 44 = .ok (.goto (-29), 3) := by decide +kernel
theorem dX0_call_47 : decode cX0_call 47 = .ok (.iload 5, 2) := by decide +kernel
theorem dX0_call_49 : decode cX0_call 49 = .ok (.iload_n 2, 1) := by decide +kernel
theorem dX0_call_50 : decode cX0_call 50 = .ok (.invokestatic 42, 3) := by decide +kernel
theorem dX0_call_53 : decode cX0_call 53 = .ok (.istore 6, 2) := by decide +kernel
theorem dX0_call_55 : decode cX0_call 55 = .ok (.aload_n 0, 1) := by decide +kernel
theorem dX0_call_56 : decode cX0_call 56 = .ok (.iload 6, 2) := by decide +kernel
theorem dX0_call_58 : decode cX0_call 58 = .ok (.invokevirtual 50, 3) := by decide +kernel
theorem dX0_call_61 : decode cX0_call 61 = .ok (.aload_n 0, 1) := by decide +kernel
theorem dX0_call_62 : decode cX0_call 62 = .ok (.iload 6, 2) := by decide +kernel
theorem dX0_call_64 : decode cX0_call 64 = .ok (.iload_n 3, 1) := by decide +kernel
theorem dX0_call_65 : decode cX0_call 65 = .ok (.iload 4, 2) := by decide +kernel
theorem dX0_call_67 : decode cX0_call 67 = .ok (.iconst 1, 1) := by decide +kernel
theorem dX0_call_68 : decode cX0_call 68 = .ok (.iadd, 1) := by decide +kernel
theorem dX0_call_69 : decode cX0_call 69 = .ok (.invokevirtual 54, 3) := by decide +kernel
theorem dX0_call_72 : decode cX0_call 72 = .ok (.ireturn, 1) := by decide +kernel
theorem dX0_note_0 : decode cX0_note 0 = .ok (.aload_n 0, 1) := by decide +kernel
theorem dX0_note_1 : decode cX0_note 1 = .ok (.getfield 15, 3) := by decide +kernel
theorem dX0_note_4 : decode cX0_note 4 = .ok (.ifCond .lt 25, 3) := by decide +kernel
theorem dX0_note_7 : decode cX0_note 7 = .ok (.aload_n 0, 1) := by decide +kernel
theorem dX0_note_8 : decode cX0_note 8 = .ok (.getfield 15, 3) := by decide +kernel
theorem dX0_note_11 : decode cX0_note 11 = .ok (.aload_n 0, 1) := by decide +kernel
theorem dX0_note_12 : decode cX0_note 12 = .ok (.getfield 9, 3) := by decide +kernel
theorem dX0_note_15 : decode cX0_note 15 = .ok (.arraylength, 1) := by decide +kernel
theorem dX0_note_16 : decode cX0_note 16 = .ok (.if_icmp .ge 13, 3) := by decide +kernel
theorem dX0_note_19 : decode cX0_note 19 = .ok (.aload_n 0, 1) := by decide +kernel
theorem dX0_note_20 : decode cX0_note 20 = .ok (.getfield 9, 3) := by decide +kernel
theorem dX0_note_23 : decode cX0_note 23 = .ok (.aload_n 0, 1) := by decide +kernel
theorem dX0_note_24 : decode cX0_note 24 = .ok (.getfield 15, 3) := by decide +kernel
theorem dX0_note_27 : decode cX0_note 27 = .ok (.iload_n 1, 1) := by decide +kernel
theorem dX0_note_28 : decode cX0_note 28 = .ok (.iastore, 1) := by decide +kernel
theorem dX0_note_29 : decode cX0_note 29 = .ok (.aload_n 0, 1) := by decide +kernel
theorem dX0_note_30 : decode cX0_note 30 = .ok (.dup, 1) := by decide +kernel
theorem dX0_note_31 : decode cX0_note 31 = .ok (.getfield 15, 3) := by decide +kernel
theorem dX0_note_34 : decode cX0_note 34 = .ok (.iconst 1, 1) := by decide +kernel
theorem dX0_note_35 : decode cX0_note 35 = .ok (.iadd, 1) := by decide +kernel
theorem dX0_note_36 : decode cX0_note 36 = .ok (.putfield 15, 3) := by decide +kernel
theorem dX0_note_39 : decode cX0_note 39 = .ok (.return_, 1) := by decide +kernel
theorem dX0_perform_0 : decode cX0_perform 0 = .ok (.iload_n 1, 1) := by decide +kernel
theorem dX0_perform_1 : decode cX0_perform 1 = .ok (.lookupswitch 271 #[(10, 99), (11, 106), (12, 120), (20, 149), (30, 166), (40, 180), (50, 194), (51, 207), (60, 224), (70, 238), (71, 253)], 99) := by decide +kernel
theorem dX0_perform_100 : decode cX0_perform 100 = .ok (.iload_n 2, 1) := by decide +kernel
theorem dX0_perform_101 : decode cX0_perform 101 = .ok (.aload_n 0, 1) := by decide +kernel
theorem dX0_perform_102 : decode cX0_perform 102 = .ok (.getfield 19, 3) := by decide +kernel
theorem dX0_perform_105 : decode cX0_perform 105 = .ok (.iadd, 1) := by decide +kernel
theorem dX0_perform_106 : decode cX0_perform 106 = .ok (.ireturn, 1) := by decide +kernel
theorem dX0_perform_107 : decode cX0_perform 107 = .ok (.aload_n 0, 1) := by decide +kernel
theorem dX0_perform_108 : decode cX0_perform 108 = .ok (.aload_n 0, 1) := by decide +kernel
theorem dX0_perform_109 : decode cX0_perform 109 = .ok (.getfield 27, 3) := by decide +kernel
theorem dX0_perform_112 : decode cX0_perform 112 = .ok (.iconst 0, 1) := by decide +kernel
theorem dX0_perform_113 : decode cX0_perform 113 = .ok (.iload_n 2, 1) := by decide +kernel
theorem dX0_perform_114 : decode cX0_perform 114 = .ok (.iload_n 3, 1) := by decide +kernel
theorem dX0_perform_115 : decode cX0_perform 115 = .ok (.invokevirtual 32, 3) := by decide +kernel
theorem dX0_perform_118 : decode cX0_perform 118 = .ok (.iconst 2, 1) := by decide +kernel
theorem dX0_perform_119 : decode cX0_perform 119 = .ok (.imul, 1) := by decide +kernel
theorem dX0_perform_120 : decode cX0_perform 120 = .ok (.ireturn, 1) := by decide +kernel
theorem dX0_perform_121 : decode cX0_perform 121 = .ok (.aload_n 0, 1) := by decide +kernel
theorem dX0_perform_122 : decode cX0_perform 122 = .ok (.aload_n 0, 1) := by decide +kernel
theorem dX0_perform_123 : decode cX0_perform 123 = .ok (.getfield 27, 3) := by decide +kernel
theorem dX0_perform_126 : decode cX0_perform 126 = .ok (.iconst 1, 1) := by decide +kernel
theorem dX0_perform_127 : decode cX0_perform 127 = .ok (.iload_n 2, 1) := by decide +kernel
theorem dX0_perform_128 : decode cX0_perform 128 = .ok (.iload_n 3, 1) := by decide +kernel
theorem dX0_perform_129 : decode cX0_perform 129 = .ok (.invokevirtual 32, 3) := by decide +kernel
theorem dX0_perform_132 : decode cX0_perform 132 = .ok (.aload_n 0, 1) := by decide +kernel
theorem dX0_perform_133 : decode cX0_perform 133 = .ok (.aload_n 0, 1) := by decide +kernel
theorem dX0_perform_134 : decode cX0_perform 134 = .ok (.getfield 27, 3) := by decide +kernel
theorem dX0_perform_137 : decode cX0_perform 137 = .ok (.iconst 0, 1) := by decide +kernel
theorem dX0_perform_138 : decode cX0_perform 138 = .ok (.iload_n 2, 1) := by decide +kernel
theorem dX0_perform_139 : decode cX0_perform 139 = .ok (.aload_n 0, 1) := by decide +kernel
theorem dX0_perform_140 : decode cX0_perform 140 = .ok (.getfield 31, 3) := by decide +kernel
theorem dX0_perform_143 : decode cX0_perform 143 = .ok (.isub, 1) := by decide +kernel
theorem dX0_perform_144 : decode cX0_perform 144 = .ok (.iload_n 3, 1) := by decide +kernel
theorem dX0_perform_145 : decode cX0_perform 145 = .ok (.invokevirtual 32, 3) := by decide +kernel
theorem dX0_perform_148 : decode cX0_perform 148 = .ok (.ixor, 1) := by decide +kernel
theorem dX0_perform_149 : decode cX0_perform 149 = .ok (.ireturn, 1) := by decide +kernel
theorem dX0_perform_150 : decode cX0_perform 150 = .ok (.aload_n 0, 1) := by decide +kernel
theorem dX0_perform_151 : decode cX0_perform 151 = .ok (.iconst 1, 1) := by decide +kernel
theorem dX0_perform_152 : decode cX0_perform 152 = .ok (.invokestatic 46, 3) := by decide +kernel
theorem dX0_perform_155 : decode cX0_perform 155 = .ok (.iconst 0, 1) := by decide +kernel
theorem dX0_perform_156 : decode cX0_perform 156 = .ok (.iload_n 2, 1) := by decide +kernel
theorem dX0_perform_157 : decode cX0_perform 157 = .ok (.iload_n 3, 1) := by decide +kernel
theorem dX0_perform_158 : decode cX0_perform 158 = .ok (.invokevirtual 32, 3) := by decide +kernel
theorem dX0_perform_161 : decode cX0_perform 161 = .ok (.aload_n 0, 1) := by decide +kernel
theorem dX0_perform_162 : decode cX0_perform 162 = .ok (.getfield 31, 3) := by decide +kernel
theorem dX0_perform_165 : decode cX0_perform 165 = .ok (.iadd, 1) := by decide +kernel
theorem dX0_perform_166 : decode cX0_perform 166 = .ok (.ireturn, 1) := by decide +kernel
theorem dX0_perform_167 : decode cX0_perform 167 = .ok (.aload_n 0, 1) := by decide +kernel
theorem dX0_perform_168 : decode cX0_perform 168 = .ok (.iconst 2, 1) := by decide +kernel
theorem dX0_perform_169 : decode cX0_perform 169 = .ok (.invokestatic 46, 3) := by decide +kernel
theorem dX0_perform_172 : decode cX0_perform 172 = .ok (.iconst 1, 1) := by decide +kernel
theorem dX0_perform_173 : decode cX0_perform 173 = .ok (.iload_n 2, 1) := by decide +kernel
theorem dX0_perform_174 : decode cX0_perform 174 = .ok (.iload_n 3, 1) := by decide +kernel
theorem dX0_perform_175 : decode cX0_perform 175 = .ok (.invokevirtual 32, 3) := by decide +kernel
theorem dX0_perform_178 : decode cX0_perform 178 = .ok (.iconst 3, 1) := by decide +kernel
theorem dX0_perform_179 : decode cX0_perform 179 = .ok (.imul, 1) := by decide +kernel
theorem dX0_perform_180 : decode cX0_perform 180 = .ok (.ireturn, 1) := by decide +kernel
theorem dX0_perform_181 : decode cX0_perform 181 = .ok (.aload_n 0, 1) := by decide +kernel
theorem dX0_perform_182 : decode cX0_perform 182 = .ok (.iconst 3, 1) := by decide +kernel
theorem dX0_perform_183 : decode cX0_perform 183 = .ok (.invokestatic 46, 3) := by decide +kernel
theorem dX0_perform_186 : decode cX0_perform 186 = .ok (.iconst 0, 1) := by decide +kernel
theorem dX0_perform_187 : decode cX0_perform 187 = .ok (.iload_n 2, 1) := by decide +kernel
theorem dX0_perform_188 : decode cX0_perform 188 = .ok (.iconst 1, 1) := by decide +kernel
theorem dX0_perform_189 : decode cX0_perform 189 = .ok (.iadd, 1) := by decide +kernel
theorem dX0_perform_190 : decode cX0_perform 190 = .ok (.iload_n 3, 1) := by decide +kernel
theorem dX0_perform_191 : decode cX0_perform 191 = .ok (.invokevirtual 32, 3) := by decide +kernel
theorem dX0_perform_194 : decode cX0_perform 194 = .ok (.ireturn, 1) := by decide +kernel
theorem dX0_perform_195 : decode cX0_perform 195 = .ok (.aload_n 0, 1) := by decide +kernel
theorem dX0_perform_196 : decode cX0_perform 196 = .ok (.iconst 5, 1) := by decide +kernel
theorem dX0_perform_197 : decode cX0_perform 197 = .ok (.invokestatic 46, 3) := by decide +kernel
theorem dX0_perform_200 : decode cX0_perform 200 = .ok (.iconst 2, 1) := by decide +kernel
theorem dX0_perform_201 : decode cX0_perform 201 = .ok (.iload_n 2, 1) := by decide +kernel
theorem dX0_perform_202 : decode cX0_perform 202 = .ok (.iload_n 3, 1) := by decide +kernel
theorem dX0_perform_203 : decode cX0_perform 203 = .ok (.invokevirtual 32, 3) := by decide +kernel
theorem dX0_perform_206 : decode cX0_perform 206 = .ok (.ineg, 1) := by decide +kernel
theorem dX0_perform_207 : decode cX0_perform 207 = .ok (.ireturn, 1) := by decide +kernel
theorem dX0_perform_208 : decode cX0_perform 208 = .ok (.aload_n 0, 1) := by decide +kernel
theorem dX0_perform_209 : decode cX0_perform 209 = .ok (.iconst 5, 1) := by decide +kernel
theorem dX0_perform_210 : decode cX0_perform 210 = .ok (.invokestatic 46, 3) := by decide +kernel
theorem dX0_perform_213 : decode cX0_perform 213 = .ok (.iconst 0, 1) := by decide +kernel
theorem dX0_perform_214 : decode cX0_perform 214 = .ok (.iload_n 2, 1) := by decide +kernel
theorem dX0_perform_215 : decode cX0_perform 215 = .ok (.iload_n 3, 1) := by decide +kernel
theorem dX0_perform_216 : decode cX0_perform 216 = .ok (.invokevirtual 32, 3) := by decide +kernel
theorem dX0_perform_219 : decode cX0_perform 219 = .ok (.aload_n 0, 1) := by decide +kernel
theorem dX0_perform_220 : decode cX0_perform 220 = .ok (.getfield 19, 3) := by decide +kernel
theorem dX0_perform_223 : decode cX0_perform 223 = .ok (.isub, 1) := by decide +kernel
theorem dX0_perform_224 : decode cX0_perform 224 = .ok (.ireturn, 1) := by decide +kernel
theorem dX0_perform_225 : decode cX0_perform 225 = .ok (.aload_n 0, 1) := by decide +kernel
theorem dX0_perform_226 : decode cX0_perform 226 = .ok (.iconst 4, 1) := by decide +kernel
theorem dX0_perform_227 : decode cX0_perform 227 = .ok (.invokestatic 46, 3) := by decide +kernel
theorem dX0_perform_230 : decode cX0_perform 230 = .ok (.iconst 2, 1) := by decide +kernel
theorem dX0_perform_231 : decode cX0_perform 231 = .ok (.iload_n 2, 1) := by decide +kernel
theorem dX0_perform_232 : decode cX0_perform 232 = .ok (.iload_n 3, 1) := by decide +kernel
theorem dX0_perform_233 : decode cX0_perform 233 = .ok (.invokevirtual 32, 3) := by decide +kernel
theorem dX0_perform_236 : decode cX0_perform 236 = .ok (.iconst 5, 1) := by decide +kernel
theorem dX0_perform_237 : decode cX0_perform 237 = .ok (.ixor, 1) := by decide +kernel
theorem dX0_perform_238 : decode cX0_perform 238 = .ok (.ireturn, 1) := by decide +kernel
theorem dX0_perform_239 : decode cX0_perform 239 = .ok (.aload_n 0, 1) := by decide +kernel
theorem dX0_perform_240 : decode cX0_perform 240 = .ok (.bipush 6, 2) := by decide +kernel
theorem dX0_perform_242 : decode cX0_perform 242 = .ok (.invokestatic 46, 3) := by decide +kernel
theorem dX0_perform_245 : decode cX0_perform 245 = .ok (.iconst 0, 1) := by decide +kernel
theorem dX0_perform_246 : decode cX0_perform 246 = .ok (.iload_n 2, 1) := by decide +kernel
theorem dX0_perform_247 : decode cX0_perform 247 = .ok (.iload_n 3, 1) := by decide +kernel
theorem dX0_perform_248 : decode cX0_perform 248 = .ok (.invokevirtual 32, 3) := by decide +kernel
theorem dX0_perform_251 : decode cX0_perform 251 = .ok (.iconst 2, 1) := by decide +kernel
theorem dX0_perform_252 : decode cX0_perform 252 = .ok (.imul, 1) := by decide +kernel
theorem dX0_perform_253 : decode cX0_perform 253 = .ok (.ireturn, 1) := by decide +kernel
theorem dX0_perform_254 : decode cX0_perform 254 = .ok (.aload_n 0, 1) := by decide +kernel
theorem dX0_perform_255 : decode cX0_perform 255 = .ok (.bipush 6, 2) := by decide +kernel
theorem dX0_perform_257 : decode cX0_perform 257 = .ok (.invokestatic 46, 3) := by decide +kernel
theorem dX0_perform_260 : decode cX0_perform 260 = .ok (.iconst 1, 1) := by decide +kernel
theorem dX0_perform_261 : decode cX0_perform 261 = .ok (.iload_n 2, 1) := by decide +kernel
theorem dX0_perform_262 : decode cX0_perform 262 = .ok (.aload_n 0, 1) := by decide +kernel
theorem dX0_perform_263 : decode cX0_perform 263 = .ok (.getfield 31, 3) := by decide +kernel
theorem dX0_perform_266 : decode cX0_perform 266 = .ok (.isub, 1) := by decide +kernel
theorem dX0_perform_267 : decode cX0_perform 267 = .ok (.iload_n 3, 1) := by decide +kernel
theorem dX0_perform_268 : decode cX0_perform 268 = .ok (.invokevirtual 32, 3) := by decide +kernel
theorem dX0_perform_271 : decode cX0_perform 271 = .ok (.ireturn, 1) := by decide +kernel
theorem dX0_perform_272 : decode cX0_perform 272 = .ok (.iconst 0, 1) := by decide +kernel
theorem dX0_perform_273 : decode cX0_perform 273 = .ok (.ireturn, 1) := by decide +kernel
