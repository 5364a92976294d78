theorem dX5_give_38 : decode cX5_give 38 = .ok (.iload_n 2, 1) := by decide +kernel
theorem dX5_give_39 : decode cX5_give 39 = .ok (.iload_n 3, 1) := by decide +kernel
theorem dX5_give_40 : decode cX5_give 40 = .ok (.invokevirtual 83, 3) := by decide +kernel
theorem dX5_give_43 : decode cX5_give 43 = .ok (.ifCond .eq 7, 3) := by decide +kernel
theorem dX5_give_46 : decode cX5_give 46 = .ok (.iconst 0, 1) := by decide +kernel
theorem dX5_give_47 : decode cX5_give 47 = .ok (.goto 5, 3) := by decide +kernel
theorem dX5_give_50 : decode cX5_give 50 = .ok (.bipush 30, 2) := by decide +kernel
theorem dX5_give_52 : decode cX5_give 52 = .ok (.istore 4, 2) := by decide +kernel
theorem dX5_give_54 : decode cX5_give 54 = .ok (.iload 4, 2) := by decide +kernel
theorem dX5_give_56 : decode cX5_give 56 = .ok (.ifCond .eq 11, 3) := by decide +kernel
theorem dX5_give_59 : decode cX5_give 59 = .ok (.aload_n 0, 1) := by decide +kernel
theorem dX5_give_60 : decode cX5_give 60 = .ok (.iload_n 1, 1) := by decide +kernel
theorem dX5_give_61 : decode cX5_give 61 = .ok (.iload_n 3, 1) := by decide +kernel
theorem dX5_give_62 : decode cX5_give 62 = .ok (.invokevirtual 83, 3) := by decide +kernel
theorem dX5_give_65 : decode cX5_give 65 = .ok (.istore 5, 2) := by decide +kernel
theorem dX5_give_67 : decode cX5_give 67 = .ok (.aload_n 0, 1) := by decide +kernel
theorem dX5_give_68 : decode cX5_give 68 = .ok (.getfield 22, 3) := by decide +kernel
theorem dX5_give_71 : decode cX5_give 71 = .ok (.iload_n 1, 1) := by decide +kernel
theorem dX5_give_72 : decode cX5_give 72 = .ok (.dup2, 1) := by decide +kernel
theorem dX5_give_73 : decode cX5_give 73 = .ok (.iaload, 1) := by decide +kernel
theorem dX5_give_74 : decode cX5_give 74 = .ok (.iconst 1, 1) := by decide +kernel
theorem dX5_give_75 : decode cX5_give 75 = .ok (.isub, 1) := by decide +kernel
theorem dX5_give_76 : decode cX5_give 76 = .ok (.iastore, 1) := by decide +kernel
theorem dX5_give_77 : decode cX5_give 77 = .ok (.iload 4, 2) := by decide +kernel
theorem dX5_give_79 : decode cX5_give 79 = .ok (.ireturn, 1) := by decide +kernel
theorem dX5_step_0 : decode cX5_step 0 = .ok (.iload_n 1, 1) := by decide +kernel
theorem dX5_step_1 : decode cX5_step 1 = .ok (.iconst 0, 1) := by decide +kernel
theorem dX5_step_2 : decode cX5_step 2 = .ok (.iconst 5, 1) := by decide +kernel
theorem dX5_step_3 : decode cX5_step 3 = .ok (.invokestatic 61, 3) := by decide +kernel
theorem dX5_step_6 : decode cX5_step 6 = .ok (.ifCond .eq 13, 3) := by decide +kernel
theorem dX5_step_9 : decode cX5_step 9 = .ok (.iload_n 2, 1) := by decide +kernel
theorem dX5_step_10 : decode cX5_step 10 = .ok (.iconst 0, 1) := by decide +kernel
theorem dX5_step_11 : decode cX5_step 11 = .ok (.bipush 13, 2) := by decide +kernel
theorem dX5_step_13 : decode cX5_step 13 = .ok (.invokestatic 61, 3) := by decide +kernel
theorem dX5_step_16 : decode cX5_step 16 = .ok (.ifCond .ne 5, 3) := by decide +kernel
theorem dX5_step_19 : decode cX5_step 19 = .ok (.iconst (-1), 1) := by decide +kernel
theorem dX5_step_20 : decode cX5_step 20 = .ok (.ireturn, 1) := by decide +kernel
theorem dX5_step_21 : decode cX5_step 21 = .ok (.iload_n 2, 1) := by decide +kernel
theorem dX5_step_22 : decode cX5_step 22 = .ok (.ifCond .eq 19, 3) := by decide +kernel
theorem dX5_step_25 : decode cX5_step 25 = .ok (.iload_n 2, 1) := by decide +kernel
theorem dX5_step_26 : decode cX5_step 26 = .ok (.iconst 2, 1) := by decide +kernel
theorem dX5_step_27 : decode cX5_step 27 = .ok (.bipush 7, 2) := by decide +kernel
theorem dX5_step_29 : decode cX5_step 29 = .ok (.invokestatic 61, 3) := by decide +kernel
theorem dX5_step_32 : decode cX5_step 32 = .ok (.ifCond .ne 9, 3) := by decide +kernel
theorem dX5_step_35 : decode cX5_step 35 = .ok (.iload_n 2, 1) := by decide +kernel
theorem dX5_step_36 : decode cX5_step 36 = .ok (.bipush 13, 2) := by decide +kernel
theorem dX5_step_38 : decode cX5_step 38 = .ok (.if_icmp .ne 13, 3) := by decide +kernel
theorem dX5_step_41 : decode cX5_step 41 = .ok (.iload_n 3, 1) := by decide +kernel
theorem dX5_step_42 : decode cX5_step 42 = .ok (.iconst 0, 1) := by decide +kernel
theorem dX5_step_43 : decode cX5_step 43 = .ok (.bipush 7, 2) := by decide +kernel
theorem dX5_step_45 : decode cX5_step 45 = .ok (.invokestatic 61, 3) := by decide +kernel
theorem dX5_step_48 : decode cX5_step 48 = .ok (.ifCond .eq 35, 3) := by decide +kernel
theorem dX5_step_51 : decode cX5_step 51 = .ok (.iload_n 2, 1) := by decide +kernel
theorem dX5_step_52 : decode cX5_step 52 = .ok (.bipush 9, 2) := by decide +kernel
theorem dX5_step_54 : decode cX5_step 54 = .ok (.if_icmp .ne 14, 3) := by decide +kernel
theorem dX5_step_57 : decode cX5_step 57 = .ok (.iload_n 3, 1) := by decide +kernel
theorem dX5_step_58 : decode cX5_step 58 = .ok (.bipush 20, 2) := by decide +kernel
theorem dX5_step_60 : decode cX5_step 60 = .ok (.bipush 23, 2) := by decide +kernel
theorem dX5_step_62 : decode cX5_step 62 = .ok (.invokestatic 61, 3) := by decide +kernel
theorem dX5_step_65 : decode cX5_step 65 = .ok (.ifCond .eq 18, 3) := by decide +kernel
theorem dX5_step_68 : decode cX5_step 68 = .ok (.iload_n 2, 1) := by decide +kernel
theorem dX5_step_69 : decode cX5_step 69 = .ok (.bipush 12, 2) := by decide +kernel
theorem dX5_step_71 : decode cX5_step 71 = .ok (.if_icmp .ne 14, 3) := by decide +kernel
theorem dX5_step_74 : decode cX5_step 74 = .ok (.iload_n 3, 1) := by decide +kernel
theorem dX5_step_75 : decode cX5_step 75 = .ok (.iconst 0, 1) := by decide +kernel
theorem dX5_step_76 : decode cX5_step 76 = .ok (.iconst 5, 1) := by decide +kernel
theorem dX5_step_77 : decode cX5_step 77 = .ok (.invokestatic 61, 3) := by decide +kernel
theorem dX5_step_80 : decode cX5_step 80 = .ok (.ifCond .ne 5, 3) := by decide +kernel
theorem dX5_step_83 : decode cX5_step 83 = .ok (.iconst (-1), 1) := by decide +kernel
theorem dX5_step_84 : decode cX5_step 84 = .ok (.ireturn, 1) := by decide +kernel
theorem dX5_step_85 : decode cX5_step 85 = .ok (.iload_n 2, 1) := by decide +kernel
theorem dX5_step_86 : decode cX5_step 86 = .ok (.iconst 1, 1) := by decide +kernel
theorem dX5_step_87 : decode cX5_step 87 = .ok (.if_icmp .ne 40, 3) := by decide +kernel
theorem dX5_step_90 : decode cX5_step 90 = .ok (.iload_n 3, 1) := by decide +kernel
theorem dX5_step_91 : decode cX5_step 91 = .ok (.iconst 0, 1) := by decide +kernel
theorem dX5_step_92 : decode cX5_step 92 = .ok (.iconst 1, 1) := by decide +kernel
theorem dX5_step_93 : decode cX5_step 93 = .ok (.invokestatic 61, 3) := by decide +kernel
theorem dX5_step_96 : decode cX5_step 96 = .ok (.ifCond .ne 31, 3) := by decide +kernel
theorem dX5_step_99 : decode cX5_step 99 = .ok (.iload_n 3, 1) := by decide +kernel
theorem dX5_step_100 : decode cX5_step 100 = .ok (.bipush 6, 2) := by decide +kernel
theorem dX5_step_102 : decode cX5_step 102 = .ok (.bipush 7, 2) := by decide +kernel
theorem dX5_step_104 : decode cX5_step 104 = .ok (.invokestatic 61, 3) := by decide +kernel
theorem dX5_step_107 : decode cX5_step 107 = .ok (.ifCond .ne 20, 3) := by decide +kernel
theorem dX5_step_110 : decode cX5_step 110 = .ok (.iload_n 3, 1) := by decide +kernel
theorem dX5_step_111 : decode cX5_step 111 = .ok (.bipush 20, 2) := by decide +kernel
theorem dX5_step_113 : decode cX5_step 113 = .ok (.bipush 23, 2) := by decide +kernel
theorem dX5_step_115 : decode cX5_step 115 = .ok (.invokestatic 61, 3) := by decide +kernel
theorem dX5_step_118 : decode cX5_step 118 = .ok (.ifCond .ne 9, 3) := by decide +kernel
theorem dX5_step_121 : decode cX5_step 121 = .ok (.iload_n 3, 1) := by decide +kernel
theorem dX5_step_122 : decode cX5_step 122 = .ok (.bipush 30, 2) := by decide +kernel
theorem dX5_step_124 : decode cX5_step 124 = .ok (.if_icmp .ne 19, 3) := by decide +kernel
theorem dX5_step_127 : decode cX5_step 127 = .ok (.iload_n 2, 1) := by decide +kernel
theorem dX5_step_128 : decode cX5_step 128 = .ok (.iconst 2, 1) := by decide +kernel
theorem dX5_step_129 : decode cX5_step 129 = .ok (.if_icmp .ge 16, 3) := by decide +kernel
theorem dX5_step_132 : decode cX5_step 132 = .ok (.iload 4, 2) := by decide +kernel
theorem dX5_step_134 : decode cX5_step 134 = .ok (.iconst 1, 1) := by decide +kernel
theorem dX5_step_135 : decode cX5_step 135 = .ok (.bipush 11, 2) := by decide +kernel
theorem dX5_step_137 : decode cX5_step 137 = .ok (.invokestatic 61, 3) := by decide +kernel
theorem dX5_step_140 : decode cX5_step 140 = .ok (.ifCond .ne 5, 3) := by decide +kernel
theorem dX5_step_143 : decode cX5_step 143 = .ok (.iconst (-1), 1) := by decide +kernel
theorem dX5_step_144 : decode cX5_step 144 = .ok (.ireturn, 1) := by decide +kernel
theorem dX5_step_145 : decode cX5_step 145 = .ok (.aload_n 0, 1) := by decide +kernel
theorem dX5_step_146 : decode cX5_step 146 = .ok (.getfield 31, 3) := by decide +kernel
theorem dX5_step_149 : decode cX5_step 149 = .ok (.iload_n 1, 1) := by decide +kernel
theorem dX5_step_150 : decode cX5_step 150 = .ok (.iaload, 1) := by decide +kernel
theorem dX5_step_151 : decode cX5_step 151 = .ok (.bipush 12, 2) := by decide +kernel
theorem dX5_step_153 : decode cX5_step 153 = .ok (.if_icmp .ne 6, 3) := by decide +kernel
theorem dX5_step_156 : decode cX5_step 156 = .ok (.bipush (-2), 2) := by decide +kernel
theorem dX5_step_158 : decode cX5_step 158 = .ok (.ireturn, 1) := by decide +kernel
theorem dX5_step_159 : decode cX5_step 159 = .ok (.bipush 12, 2) := by decide +kernel
theorem dX5_step_161 : decode cX5_step 161 = .ok (.iload_n 1, 1) := by decide +kernel
theorem dX5_step_162 : decode cX5_step 162 = .ok (.imul, 1) := by decide +kernel
theorem dX5_step_163 : decode cX5_step 163 = .ok (.aload_n 0, 1) := by decide +kernel
theorem dX5_step_164 : decode cX5_step 164 = .ok (.getfield 31, 3) := by decide +kernel
theorem dX5_step_167 : decode cX5_step 167 = .ok (.iload_n 1, 1) := by decide +kernel
theorem dX5_step_168 : decode cX5_step 168 = .ok (.iaload, 1) := by decide +kernel
theorem dX5_step_169 : decode cX5_step 169 = .ok (.iadd, 1) := by decide +kernel
theorem dX5_step_170 : decode cX5_step 170 = .ok (.istore 5, 2) := by decide +kernel
theorem dX5_step_172 : decode cX5_step 172 = .ok (.aload_n 0, 1) := by decide +kernel
theorem dX5_step_173 : decode cX5_step 173 = .ok (.getfield 34, 3) := by decide +kernel
theorem dX5_step_176 : decode cX5_step 176 = .ok (.iload 5, 2) := by decide +kernel
theorem dX5_step_178 : decode cX5_step 178 = .ok (.iload_n 2, 1) := by decide +kernel
theorem dX5_step_179 : decode cX5_step 179 = .ok (.iastore, 1) := by decide +kernel
theorem dX5_step_180 : decode cX5_step 180 = .ok (.aload_n 0, 1) := by decide +kernel
theorem dX5_step_181 : decode cX5_step 181 = .ok (.getfield 37, 3) := by decide +kernel
theorem dX5_step_184 : decode cX5_step 184 = .ok (.iload 5, 2) := by decide +kernel
theorem dX5_step_186 : decode cX5_step 186 = .ok (.iload_n 3, 1) := by decide +kernel
theorem dX5_step_187 : decode cX5_step 187 = .ok (.iastore, 1) := by decide +kernel
theorem dX5_step_188 : decode cX5_step 188 = .ok (.aload_n 0, 1) := by decide +kernel
theorem dX5_step_189 : decode cX5_step 189 = .ok (.getfield 40, 3) := by decide +kernel
theorem dX5_step_192 : decode cX5_step 192 = .ok (.iload 5, 2) := by decide +kernel
theorem dX5_step_194 : decode cX5_step 194 = .ok (.iload 4, 2) := by decide +kernel
theorem dX5_step_196 : decode cX5_step 196 = .ok (.iastore, 1) := by decide +kernel
theorem dX5_step_197 : decode cX5_step 197 = .ok (.aload_n 0, 1) := by decide +kernel
theorem dX5_step_198 : decode cX5_step 198 = .ok (.getfield 31, 3) := by decide +kernel
theorem dX5_step_201 : decode cX5_step 201 = .ok (.iload_n 1, 1) := by decide +kernel
theorem dX5_step_202 : decode cX5_step 202 = .ok (.dup2, 1) := by decide +kernel
theorem dX5_step_203 : decode cX5_step 203 = .ok (.iaload, 1) := by decide +kernel
theorem dX5_step_204 : decode cX5_step 204 = .ok (.iconst 1, 1) := by decide +kernel
theorem dX5_step_205 : decode cX5_step 205 = .ok (.iadd, 1) := by decide +kernel
theorem dX5_step_206 : decode cX5_step 206 = .ok (.iastore, 1) := by decide +kernel
theorem dX5_step_207 : decode cX5_step 207 = .ok (.aload_n 0, 1) := by decide +kernel
theorem dX5_step_208 : decode cX5_step 208 = .ok (.getfield 31, 3) := by decide +kernel
theorem dX5_step_211 : decode cX5_step 211 = .ok (.iload_n 1, 1) := by decide +kernel
theorem dX5_step_212 : decode cX5_step 212 = .ok (.iaload, 1) := by decide +kernel
theorem dX5_step_213 : decode cX5_step 213 = .ok (.ireturn, 1) := by decide +kernel
theorem dX5_clear_0 : decode cX5_clear 0 = .ok (.iload_n 1, 1) := by decide +kernel
theorem dX5_clear_1 : decode cX5_clear 1 = .ok (.iconst 0, 1) := by decide +kernel
theorem dX5_clear_2 : decode cX5_clear 2 = .ok (.iconst 5, 1) := by decide +kernel
theorem dX5_clear_3 : decode cX5_clear 3 = .ok (.invokestatic 61, 3) := by decide +kernel
theorem dX5_clear_6 : decode cX5_clear 6 = .ok (.ifCond .ne 5, 3) := by decide +kernel
theorem dX5_clear_9 : decode cX5_clear 9 = .ok (.iconst (-1), 1) := by decide +kernel
theorem dX5_clear_10 : decode cX5_clear 10 = .ok (.ireturn, 1) := by decide +kernel
theorem dX5_clear_11 : decode cX5_clear 11 = .ok (.aload_n 0, 1) := by decide +kernel
theorem dX5_clear_12 : decode cX5_clear 12 = .ok (.getfield 31, 3) := by decide +kernel
theorem dX5_clear_15 : decode cX5_clear 15 = .ok (.iload_n 1, 1) := by decide +kernel
theorem dX5_clear_16 : decode cX5_clear 16 = .ok (.iaload, 1) := by decide +kernel
theorem dX5_clear_17 : decode cX5_clear 17 = .ok (.istore_n 2, 1) := by decide +kernel
theorem dX5_clear_18 : decode cX5_clear 18 = .ok (.aload_n 0, 1) := by decide +kernel
theorem dX5_clear_19 : decode cX5_clear 19 = .ok (.getfield 31, 3) := by decide +kernel
theorem dX5_clear_22 : decode cX5_clear 22 = .ok (.iload_n 1, 1) := by decide +kernel
theorem dX5_clear_23 : decode cX5_clear 23 = .ok (.iconst 0, 1) := by decide +kernel
theorem dX5_clear_24 : decode cX5_clear 24 = .ok (.iastore, 1) := by decide +kernel
theorem dX5_clear_25 : decode cX5_clear 25 = .ok (.iload_n 2, 1) := by decide +kernel
theorem dX5_clear_26 : decode cX5_clear 26 = .ok (.ireturn, 1) := by decide +kernel
theorem dX5_leave_0 : decode cX5_leave 0 = .ok (.aload_n 0, 1) := by decide +kernel
theorem dX5_leave_1 : decode cX5_leave 1 = .ok (.getfield 86, 3) := by decide +kernel
theorem dX5_leave_4 : decode cX5_leave 4 = .ok (.bipush 120, 2) := by decide +kernel
theorem dX5_leave_6 : decode cX5_leave 6 = .ok (.if_icmp .ge 23, 3) := by decide +kernel
theorem dX5_leave_9 : decode cX5_leave 9 = .ok (.aload_n 0, 1) := by decide +kernel
theorem dX5_leave_10 : decode cX5_leave 10 = .ok (.getfield 43, 3) := by decide +kernel
theorem dX5_leave_13 : decode cX5_leave 13 = .ok (.aload_n 0, 1) := by decide +kernel
theorem dX5_leave_14 : decode cX5_leave 14 = .ok (.getfield 86, 3) := by decide +kernel
theorem dX5_leave_17 : decode cX5_leave 17 = .ok (.iload_n 1, 1) := by decide +kernel
theorem dX5_leave_18 : decode cX5_leave 18 = .ok (.iastore, 1) := by decide +kernel
theorem dX5_leave_19 : decode cX5_leave 19 = .ok (.aload_n 0, 1) := by decide +kernel
theorem dX5_leave_20 : decode cX5_leave 20 = .ok (.dup, 1) := by decide +kernel
theorem dX5_leave_21 : decode cX5_leave 21 = .ok (.getfield 86, 3) := by decide +kernel
theorem dX5_leave_24 : decode cX5_leave 24 = .ok (.iconst 1, 1) := by decide +kernel
theorem dX5_leave_25 : decode cX5_leave 25 = .ok (.iadd, 1) := by decide +kernel
theorem dX5_leave_26 : decode cX5_leave 26 = .ok (.putfield 86, 3) := by decide +kernel
theorem dX5_leave_29 : decode cX5_leave 29 = .ok (.return_, 1) := by decide +kernel
theorem dX5_push_0 : decode cX5_push 0 = .ok (.aload_n 0, 1) := by decide +kernel
theorem dX5_push_1 : decode cX5_push 1 = .ok (.getfield 46, 3) := by decide +kernel
theorem dX5_push_4 : decode cX5_push 4 = .ok (.aload_n 0, 1) := by decide +kernel
theorem dX5_push_5 : decode cX5_push 5 = .ok (.getfield 89, 3) := by decide +kernel
theorem dX5_push_8 : decode cX5_push 8 = .ok (.iload_n 1, 1) := by decide +kernel
theorem dX5_push_9 : decode cX5_push 9 = .ok (.iastore, 1) := by decide +kernel
theorem dX5_push_10 : decode cX5_push 10 = .ok (.aload_n 0, 1) := by decide +kernel
theorem dX5_push_11 : decode cX5_push 11 = .ok (.getfield 49, 3) := by decide +kernel
theorem dX5_push_14 : decode cX5_push 14 = .ok (.aload_n 0, 1) := by decide +kernel
theorem dX5_push_15 : decode cX5_push 15 = .ok (.getfield 89, 3) := by decide +kernel
theorem dX5_push_18 : decode cX5_push 18 = .ok (.iload_n 2, 1) := by decide +kernel
theorem dX5_push_19 : decode cX5_push 19 = .ok (.iastore, 1) := by decide +kernel
theorem dX5_push_20 : decode cX5_push 20 = .ok (.aload_n 0, 1) := by decide +kernel
theorem dX5_push_21 : decode cX5_push 21 = .ok (.getfield 52, 3) := by decide +kernel
theorem dX5_push_24 : decode cX5_push 24 = .ok (.aload_n 0, 1) := by decide +kernel
theorem dX5_push_25 : decode cX5_push 25 = .ok (.getfield 89, 3) := by decide +kernel
theorem dX5_push_28 : decode cX5_push 28 = .ok (.iload_n 3, 1) := by decide +kernel
theorem dX5_push_29 : decode cX5_push 29 = .ok (.iastore, 1) := by decide +kernel
theorem dX5_push_30 : decode cX5_push 30 = .ok (.aload_n 0, 1) := by decide +kernel
theorem dX5_push_31 : decode cX5_push 31 = .ok (.getfield 55, 3) := by decide +kernel
theorem dX5_push_34 : decode cX5_push 34 = .ok (.aload_n 0, 1) := by decide +kernel
theorem dX5_push_35 : decode cX5_push 35 = .ok (.getfield 89, 3) := by decide +kernel
theorem dX5_push_38 : decode cX5_push 38 = .ok (.iload 4, 2) := by decide +kernel
theorem dX5_push_40 : decode cX5_push 40 = .ok (.iastore, 1) := by decide +kernel
theorem dX5_push_41 : decode cX5_push 41 = .ok (.aload_n 0, 1) := by decide +kernel
theorem dX5_push_42 : decode cX5_push 42 = .ok (.getfield 58, 3) := by decide +kernel
theorem dX5_push_45 : decode cX5_push 45 = .ok (.aload_n 0, 1) := by decide +kernel
theorem dX5_push_46 : decode cX5_push 46 = .ok (.getfield 89, 3) := by decide +kernel
theorem dX5_push_49 : decode cX5_push 49 = .ok (.iload 5, 2) := by decide +kernel
theorem dX5_push_51 : decode cX5_push 51 = .ok (.iastore, 1) := by decide +kernel
theorem dX5_push_52 : decode cX5_push 52 = .ok (.aload_n 0, 1) := by decide +kernel
theorem dX5_push_53 : decode cX5_push 53 = .ok (.dup, 1) := by decide +kernel
theorem dX5_push_54 : decode cX5_push 54 = .ok (.getfield 89, 3) := by decide +kernel
theorem dX5_push_57 : decode cX5_push 57 = .ok (.iconst 1, 1) := by decide +kernel
theorem dX5_push_58 : decode cX5_push 58 = .ok (.iadd, 1) := by decide +kernel
theorem dX5_push_59 : decode cX5_push 59 = .ok (.putfield 89, 3) := by decide +kernel
theorem dX5_push_62 : decode cX5_push 62 = .ok (.return_, 1) := by decide +kernel
theorem dX5_beginPlan_0 : decode cX5_beginPlan 0 = .ok (.aload_n 0, 1) := by decide +kernel
theorem dX5_beginPlan_1 : decode cX5_beginPlan 1 = .ok (.dup, 1) := by decide +kernel
theorem dX5_beginPlan_2 : decode cX5_beginPlan 2 = .ok (.getfield 92, 3) := by decide +kernel
theorem dX5_beginPlan_5 : decode cX5_beginPlan 5 = .ok (.iconst 1, 1) := by decide +kernel
theorem dX5_beginPlan_6 : decode cX5_beginPlan 6 = .ok (.iadd, 1) := by decide +kernel
theorem dX5_beginPlan_7 : decode cX5_beginPlan 7 = .ok (.putfield 92, 3) := by decide +kernel
theorem dX5_beginPlan_10 : decode cX5_beginPlan 10 = .ok (.aload_n 0, 1) := by decide +kernel
theorem dX5_beginPlan_11 : decode cX5_beginPlan 11 = .ok (.aload_n 0, 1) := by decide +kernel
theorem dX5_beginPlan_12 : decode cX5_beginPlan 12 = .ok (.getfield 92, 3) := by decide +kernel
theorem dX5_beginPlan_15 : decode cX5_beginPlan 15 = .ok (.aload_n 0, 1) := by decide +kernel
theorem dX5_beginPlan_16 : decode cX5_beginPlan 16 = .ok (.getfield 95, 3) := by decide +kernel
theorem dX5_beginPlan_19 : decode cX5_beginPlan 19 = .ok (.if_icmp .le 10, 3) := by decide +kernel
theorem dX5_beginPlan_22 : decode cX5_beginPlan 22 = .ok (.aload_n 0, 1) := by decide +kernel
theorem dX5_beginPlan_23 : decode cX5_beginPlan 23 = .ok (.getfield 92, 3) := by decide +kernel
theorem dX5_beginPlan_26 : decode cX5_beginPlan 26 = .ok (.goto 7, 3) := by decide +kernel
theorem dX5_beginPlan_29 : decode cX5_beginPlan 29 = .ok (.aload_n 0, 1) := by decide +kernel
theorem dX5_beginPlan_30 : decode cX5_beginPlan 30 = .ok (.getfield 95, 3) := by decide +kernel
theorem dX5_beginPlan_33 : decode cX5_beginPlan 33 = .ok (.putfield 95, 3) := by decide +kernel
theorem dX5_beginPlan_36 : decode cX5_beginPlan 36 = .ok (.aload_n 0, 1) := by decide +kernel
theorem dX5_beginPlan_37 : decode cX5_beginPlan 37 = .ok (.iconst 0, 1) := by decide +kernel
theorem dX5_beginPlan_38 : decode cX5_beginPlan 38 = .ok (.iload_n 1, 1) := by decide +kernel
theorem dX5_beginPlan_39 : decode cX5_beginPlan 39 = .ok (.iconst 0, 1) := by decide +kernel
theorem dX5_beginPlan_40 : decode cX5_beginPlan 40 = .ok (.aload_n 0, 1) := by decide +kernel
theorem dX5_beginPlan_41 : decode cX5_beginPlan 41 = .ok (.getfield 31, 3) := by decide +kernel
theorem dX5_beginPlan_44 : decode cX5_beginPlan 44 = .ok (.iload_n 1, 1) := by decide +kernel
theorem dX5_beginPlan_45 : decode cX5_beginPlan 45 = .ok (.iaload, 1) := by decide +kernel
theorem dX5_beginPlan_46 : decode cX5_beginPlan 46 = .ok (.iconst (-1), 1) := by decide +kernel
theorem dX5_beginPlan_47 : decode cX5_beginPlan 47 = .ok (.invokevirtual 98, 3) := by decide +kernel
theorem dX5_beginPlan_50 : decode cX5_beginPlan 50 = .ok (.return_, 1) := by decide +kernel
theorem dX5_pop_0 : decode cX5_pop 0 = .ok (.aload_n 0, 1) := by decide +kernel
theorem dX5_pop_1 : decode cX5_pop 1 = .ok (.dup, 1) := by decide +kernel
theorem dX5_pop_2 : decode cX5_pop 2 = .ok (.getfield 89, 3) := by decide +kernel
theorem dX5_pop_5 : decode cX5_pop 5 = .ok (.iconst 1, 1) := by decide +kernel
theorem dX5_pop_6 : decode cX5_pop 6 = .ok (.isub, 1) := by decide +kernel
theorem dX5_pop_7 : decode cX5_pop 7 = .ok (.putfield 89, 3) := by decide +kernel
theorem dX5_pop_10 : decode cX5_pop 10 = .ok (.aload_n 0, 1) := by decide +kernel
theorem dX5_pop_11 : decode cX5_pop 11 = .ok (.getfield 46, 3) := by decide +kernel
theorem dX5_pop_14 : decode cX5_pop 14 = .ok (.aload_n 0, 1) := by decide +kernel
theorem dX5_pop_15 : decode cX5_pop 15 = .ok (.getfield 89, 3) := by decide +kernel
theorem dX5_pop_18 : decode cX5_pop 18 = .ok (.iaload, 1) := by decide +kernel
theorem dX5_pop_19 : decode cX5_pop 19 = .ok (.iconst 1, 1) := by decide +kernel
theorem dX5_pop_20 : decode cX5_pop 20 = .ok (.if_icmp .ne 29, 3) := by decide +kernel
theorem dX5_pop_23 : decode cX5_pop 23 = .ok (.aload_n 0, 1) := by decide +kernel
theorem dX5_pop_24 : decode cX5_pop 24 = .ok (.getfield 22, 3) := by decide +kernel
theorem dX5_pop_27 : decode cX5_pop 27 = .ok (.aload_n 0, 1) := by decide +kernel
theorem dX5_pop_28 : decode cX5_pop 28 = .ok (.getfield 58, 3) := by decide +kernel
theorem dX5_pop_31 : decode cX5_pop 31 = .ok (.aload_n 0, 1) := by decide +kernel
theorem dX5_pop_32 : decode cX5_pop 32 = .ok (.getfield 89, 3) := by decide +kernel
theorem dX5_pop_35 : decode cX5_pop 35 = .ok (.iaload, 1) := by decide +kernel
theorem dX5_pop_36 : decode cX5_pop 36 = .ok (.dup2, 1) := by decide +kernel
theorem dX5_pop_37 : decode cX5_pop 37 = .ok (.iaload, 1) := by decide +kernel
theorem dX5_pop_38 : decode cX5_pop 38 = .ok (.iconst 1, 1) := by decide +kernel
theorem dX5_pop_39 : decode cX5_pop 39 = .ok (.isub, 1) := by decide +kernel
theorem dX5_pop_40 : decode cX5_pop 40 = .ok (.iastore, 1) := by decide +kernel
theorem dX5_pop_41 : decode cX5_pop 41 = .ok (.aload_n 0, 1) := by decide +kernel
theorem dX5_pop_42 : decode cX5_pop 42 = .ok (.iconst 2, 1) := by decide +kernel
theorem dX5_pop_43 : decode cX5_pop 43 = .ok (.invokevirtual 102, 3) := by decide +kernel
theorem dX5_pop_46 : decode cX5_pop 46 = .ok (.goto 25, 3) := by decide +kernel
theorem dX5_pop_49 : decode cX5_pop 49 = .ok (.aload_n 0, 1) := by decide +kernel
theorem dX5_pop_50 : decode cX5_pop 50 = .ok (.getfield 46, 3) := by decide +kernel
theorem dX5_pop_53 : decode cX5_pop 53 = .ok (.aload_n 0, 1) := by decide +kernel
theorem dX5_pop_54 : decode cX5_pop 54 = .ok (.getfield 89, 3) := by decide +kernel
theorem dX5_pop_57 : decode cX5_pop 57 = .ok (.iaload, 1) := by decide +kernel
theorem dX5_pop_58 : decode cX5_pop 58 = .ok (.ifCond .ne 13, 3) := by decide +kernel
theorem dX5_pop_61 : decode cX5_pop 61 = .ok (.aload_n 0, 1) := by decide +kernel
theorem dX5_pop_62 : decode cX5_pop 62 = .ok (.dup, 1) := by decide +kernel
theorem dX5_pop_63 : decode cX5_pop 63 = .ok (.getfield 92, 3) := by decide +kernel
theorem dX5_pop_66 : decode cX5_pop 66 = .ok (.iconst 1, 1) := by decide +kernel
theorem dX5_pop_67 : decode cX5_pop 67 = .ok (.isub, 1) := by decide +kernel
theorem dX5_pop_68 : decode cX5_pop 68 = .ok (.putfield 92, 3) := by decide +kernel
theorem dX5_pop_71 : decode cX5_pop 71 = .ok (.return_, 1) := by decide +kernel
theorem dX5_fails_0 : decode cX5_fails 0 = .ok (.aload_n 0, 1) := by decide +kernel
theorem dX5_fails_1 : decode cX5_fails 1 = .ok (.getfield 89, 3) := by decide +kernel
theorem dX5_fails_4 : decode cX5_fails 4 = .ok (.ifCond .le 76, 3) := by decide +kernel
theorem dX5_fails_7 : decode cX5_fails 7 = .ok (.aload_n 0, 1) := by decide +kernel
theorem dX5_fails_8 : decode cX5_fails 8 = .ok (.getfield 46, 3) := by decide +kernel
theorem dX5_fails_11 : decode cX5_fails 11 = .ok (.aload_n 0, 1) := by decide +kernel
theorem dX5_fails_12 : decode cX5_fails 12 = .ok (.getfield 89, 3) := by decide +kernel
theorem dX5_fails_15 : decode cX5_fails 15 = .ok (.iconst 1, 1) := by decide +kernel
theorem dX5_fails_16 : decode cX5_fails 16 = .ok (.isub, 1) := by decide +kernel
theorem dX5_fails_17 : decode cX5_fails 17 = .ok (.iaload, 1) := by decide +kernel
theorem dX5_fails_18 : decode cX5_fails 18 = .ok (.iconst 2, 1) := by decide +kernel
theorem dX5_fails_19 : decode cX5_fails 19 = .ok (.if_icmp .ne 42, 3) := by decide +kernel
theorem dX5_fails_22 : decode cX5_fails 22 = .ok (.iload_n 1, 1) := by decide +kernel
theorem dX5_fails_23 : decode cX5_fails 23 = .ok (.bipush 40, 2) := by decide +kernel
theorem dX5_fails_25 : decode cX5_fails 25 = .ok (.if_icmp .eq 36, 3) := by decide +kernel
theorem dX5_fails_28 : decode cX5_fails 28 = .ok (.aload_n 0, 1) := by decide +kernel
theorem dX5_fails_29 : decode cX5_fails 29 = .ok (.getfield 58, 3) := by decide +kernel
theorem dX5_fails_32 : decode cX5_fails 32 = .ok (.aload_n 0, 1) := by decide +kernel
theorem dX5_fails_33 : decode cX5_fails 33 = .ok (.getfield 89, 3) := by decide +kernel
theorem dX5_fails_36 : decode cX5_fails 36 = .ok (.iconst 1, 1) := by decide +kernel
theorem dX5_fails_37 : decode cX5_fails 37 = .ok (.isub, 1) := by decide +kernel
theorem dX5_fails_38 : decode cX5_fails 38 = .ok (.iaload, 1) := by decide +kernel
theorem dX5_fails_39 : decode cX5_fails 39 = .ok (.ifCond .eq 18, 3) := by decide +kernel
theorem dX5_fails_42 : decode cX5_fails 42 = .ok (.aload_n 0, 1) := by decide +kernel
theorem dX5_fails_43 : decode cX5_fails 43 = .ok (.getfield 58, 3) := by decide +kernel
theorem dX5_fails_46 : decode cX5_fails 46 = .ok (.aload_n 0, 1) := by decide +kernel
theorem dX5_fails_47 : decode cX5_fails 47 = .ok (.getfield 89, 3) := by decide +kernel
theorem dX5_fails_50 : decode cX5_fails 50 = .ok (.iconst 1, 1) := by decide +kernel
theorem dX5_fails_51 : decode cX5_fails 51 = .ok (.isub, 1) := by decide +kernel
theorem dX5_fails_52 : decode cX5_fails 52 = .ok (.iaload, 1) := by decide +kernel
theorem dX5_fails_53 : decode cX5_fails 53 = .ok (.iload_n 1, 1) := by decide +kernel
theorem dX5_fails_54 : decode cX5_fails 54 = .ok (.if_icmp .ne 7, 3) := by decide +kernel
theorem dX5_fails_57 : decode cX5_fails 57 = .ok (.iconst 1, 1) := by decide +kernel
theorem dX5_fails_58 : decode cX5_fails 58 = .ok (.goto 4, 3) := by decide +kernel
theorem dX5_fails_61 : decode cX5_fails 61 = .ok (.iconst 0, 1) := by decide +kernel
theorem dX5_fails_62 : decode cX5_fails 62 = .ok (.istore_n 2, 1) := by decide +kernel
theorem dX5_fails_63 : decode cX5_fails 63 = .ok (.aload_n 0, 1) := by decide +kernel
theorem dX5_fails_64 : decode cX5_fails 64 = .ok (.invokevirtual 105, 3) := by decide +kernel
theorem dX5_fails_67 : decode cX5_fails 67 = .ok (.iload_n 2, 1) := by decide +kernel
theorem dX5_fails_68 : decode cX5_fails 68 = .ok (.ifCond .eq 9, 3) := by decide +kernel
theorem dX5_fails_71 : decode cX5_fails 71 = .ok (.aload_n 0, 1) := by decide +kernel
theorem dX5_fails_72 : decode cX5_fails 72 = .ok (.iload_n 1, 1) := by decide +kernel
theorem dX5_fails_73 : decode cX5_fails 73 = .ok (.putfield 108, 3) := by decide +kernel
theorem dX5_fails_76 : decode cX5_fails 76 = .ok (.return_, 1) := by decide +kernel
theorem dX5_fails_77 : decode cX5_fails 77 = .ok (.goto (-77), 3) := by decide +kernel
theorem dX5_fails_80 : decode cX5_fails 80 = .ok (.aload_n 0, 1) := by decide +kernel
theorem dX5_fails_81 : decode cX5_fails 81 = .ok (.iload_n 1, 1) := by decide +kernel
theorem dX5_fails_82 : decode cX5_fails 82 = .ok (.putfield 111, 3) := by decide +kernel
theorem dX5_fails_85 : decode cX5_fails 85 = .ok (.return_, 1) := by decide +kernel
theorem dX5_within_0 : decode cX5_within 0 = .ok (.aload_n 0, 1) := by decide +kernel
theorem dX5_within_1 : decode cX5_within 1 = .ok (.getfield 89, 3) := by decide +kernel
theorem dX5_within_4 : decode cX5_within 4 = .ok (.iconst 1, 1) := by decide +kernel
theorem dX5_within_5 : decode cX5_within 5 = .ok (.isub, 1) := by decide +kernel
theorem dX5_within_6 : decode cX5_within 6 = .ok (.istore 4, 2) := by decide +kernel
theorem dX5_within_8 : decode cX5_within 8 = .ok (.aload_n 0, 1) := by decide +kernel
theorem dX5_within_9 : decode cX5_within 9 = .ok (.getfield 52, 3) := by decide +kernel
theorem dX5_within_12 : decode cX5_within 12 = .ok (.iload 4, 2) := by decide +kernel
theorem dX5_within_14 : decode cX5_within 14 = .ok (.iaload, 1) := by decide +kernel
theorem dX5_within_15 : decode cX5_within 15 = .ok (.istore 5, 2) := by decide +kernel
theorem dX5_within_17 : decode cX5_within 17 = .ok (.iload 5, 2) := by decide +kernel
theorem dX5_within_19 : decode cX5_within 19 = .ok (.iload_n 2, 1) := by decide +kernel
theorem dX5_within_20 : decode cX5_within 20 = .ok (.iadd, 1) := by decide +kernel
theorem dX5_within_21 : decode cX5_within 21 = .ok (.aload_n 0, 1) := by decide +kernel
theorem dX5_within_22 : decode cX5_within 22 = .ok (.getfield 55, 3) := by decide +kernel
theorem dX5_within_25 : decode cX5_within 25 = .ok (.iload 4, 2) := by decide +kernel
theorem dX5_within_27 : decode cX5_within 27 = .ok (.iaload, 1) := by decide +kernel
theorem dX5_within_28 : decode cX5_within 28 = .ok (.if_icmp .ge 10, 3) := by decide +kernel
theorem dX5_within_31 : decode cX5_within 31 = .ok (.iload 5, 2) := by decide +kernel
theorem dX5_within_33 : decode cX5_within 33 = .ok (.iload_n 2, 1) := by decide +kernel
theorem dX5_within_34 : decode cX5_within 34 = .ok (.iadd, 1) := by decide +kernel
theorem dX5_within_35 : decode cX5_within 35 = .ok (.goto 10, 3) := by decide +kernel
theorem dX5_within_38 : decode cX5_within 38 = .ok (.aload_n 0, 1) := by decide +kernel
theorem dX5_within_39 : decode cX5_within 39 = .ok (.getfield 55, 3) := by decide +kernel
theorem dX5_within_42 : decode cX5_within 42 = .ok (.iload 4, 2) := by decide +kernel
theorem dX5_within_44 : decode cX5_within 44 = .ok (.iaload, 1) := by decide +kernel
theorem dX5_within_45 : decode cX5_within 45 = .ok (.istore 6, 2) := by decide +kernel
theorem dX5_within_47 : decode cX5_within 47 = .ok (.aload_n 0, 1) := by decide +kernel
theorem dX5_within_48 : decode cX5_within 48 = .ok (.getfield 52, 3) := by decide +kernel
theorem dX5_within_51 : decode cX5_within 51 = .ok (.iload 4, 2) := by decide +kernel
theorem dX5_within_53 : decode cX5_within 53 = .ok (.iload 6, 2) := by decide +kernel
theorem dX5_within_55 : decode cX5_within 55 = .ok (.iastore, 1) := by decide +kernel
theorem dX5_within_56 : decode cX5_within 56 = .ok (.aload_n 0, 1) := by decide +kernel
theorem dX5_within_57 : decode cX5_within 57 = .ok (.iload_n 1, 1) := by decide +kernel
theorem dX5_within_58 : decode cX5_within 58 = .ok (.aload_n 0, 1) := by decide +kernel
theorem dX5_within_59 : decode cX5_within 59 = .ok (.getfield 49, 3) := by decide +kernel
theorem dX5_within_62 : decode cX5_within 62 = .ok (.iload 4, 2) := by decide +kernel
theorem dX5_within_64 : decode cX5_within 64 = .ok (.iaload, 1) := by decide +kernel
theorem dX5_within_65 : decode cX5_within 65 = .ok (.iload 5, 2) := by decide +kernel
theorem dX5_within_67 : decode cX5_within 67 = .ok (.iload 6, 2) := by decide +kernel
theorem dX5_within_69 : decode cX5_within 69 = .ok (.iload_n 3, 1) := by decide +kernel
theorem dX5_within_70 : decode cX5_within 70 = .ok (.invokevirtual 98, 3) := by decide +kernel
theorem dX5_within_73 : decode cX5_within 73 = .ok (.return_, 1) := by decide +kernel
theorem dX5_back_0 : decode cX5_back 0 = .ok (.aload_n 0, 1) := by decide +kernel
theorem dX5_back_1 : decode cX5_back 1 = .ok (.iload_n 1, 1) := by decide +kernel
theorem dX5_back_2 : decode cX5_back 2 = .ok (.putfield 108, 3) := by decide +kernel
theorem dX5_back_5 : decode cX5_back 5 = .ok (.aload_n 0, 1) := by decide +kernel
theorem dX5_back_6 : decode cX5_back 6 = .ok (.getfield 46, 3) := by decide +kernel
theorem dX5_back_9 : decode cX5_back 9 = .ok (.aload_n 0, 1) := by decide +kernel
theorem dX5_back_10 : decode cX5_back 10 = .ok (.getfield 89, 3) := by decide +kernel
theorem dX5_back_13 : decode cX5_back 13 = .ok (.iconst 1, 1) := by decide +kernel
theorem dX5_back_14 : decode cX5_back 14 = .ok (.isub, 1) := by decide +kernel
theorem dX5_back_15 : decode cX5_back 15 = .ok (.iaload, 1) := by decide +kernel
theorem dX5_back_16 : decode cX5_back 16 = .ok (.ifCond .eq 10, 3) := by decide +kernel
theorem dX5_back_19 : decode cX5_back 19 = .ok (.aload_n 0, 1) := by decide +kernel
theorem dX5_back_20 : decode cX5_back 20 = .ok (.invokevirtual 105, 3) := by decide +kernel
theorem dX5_back_23 : decode cX5_back 23 = .ok (.goto (-18), 3) := by decide +kernel
theorem dX5_back_26 : decode cX5_back 26 = .ok (.aload_n 0, 1) := by decide +kernel
theorem dX5_back_27 : decode cX5_back 27 = .ok (.invokevirtual 105, 3) := by decide +kernel
theorem dX5_back_30 : decode cX5_back 30 = .ok (.return_, 1) := by decide +kernel
theorem dX5_seek_0 : decode cX5_seek 0 = .ok (.aload_n 0, 1) := by decide +kernel
theorem dX5_seek_1 : decode cX5_seek 1 = .ok (.iconst (-1), 1) := by decide +kernel
theorem dX5_seek_2 : decode cX5_seek 2 = .ok (.putfield 108, 3) := by decide +kernel
theorem dX5_seek_5 : decode cX5_seek 5 = .ok (.iload_n 1, 1) := by decide +kernel
theorem dX5_seek_6 : decode cX5_seek 6 = .ok (.istore_n 3, 1) := by decide +kernel
theorem dX5_seek_7 : decode cX5_seek 7 = .ok (.iload_n 3, 1) := by decide +kernel
theorem dX5_seek_8 : decode cX5_seek 8 = .ok (.bipush 8, 2) := by decide +kernel
theorem dX5_seek_10 : decode cX5_seek 10 = .ok (.if_icmp .ge 67, 3) := by decide +kernel
theorem dX5_seek_13 : decode cX5_seek 13 = .ok (.aload_n 0, 1) := by decide +kernel
theorem dX5_seek_14 : decode cX5_seek 14 = .ok (.getfield 108, 3) := by decide +kernel
theorem dX5_seek_17 : decode cX5_seek 17 = .ok (.ifCond .ge 60, 3) := by decide +kernel
theorem dX5_seek_20 : decode cX5_seek 20 = .ok (.aload_n 0, 1) := by decide +kernel
theorem dX5_seek_21 : decode cX5_seek 21 = .ok (.getfield 28, 3) := by decide +kernel
theorem dX5_seek_24 : decode cX5_seek 24 = .ok (.iload_n 3, 1) := by decide +kernel
theorem dX5_seek_25 : decode cX5_seek 25 = .ok (.iaload, 1) := by decide +kernel
theorem dX5_seek_26 : decode cX5_seek 26 = .ok (.istore 4, 2) := by decide +kernel
theorem dX5_seek_28 : decode cX5_seek 28 = .ok (.iload 4, 2) := by decide +kernel
theorem dX5_seek_30 : decode cX5_seek 30 = .ok (.iconst (-1), 1) := by decide +kernel
theorem dX5_seek_31 : decode cX5_seek 31 = .ok (.if_icmp .eq 40, 3) := by decide +kernel
theorem dX5_seek_34 : decode cX5_seek 34 = .ok (.aload_n 0, 1) := by decide +kernel
theorem dX5_seek_35 : decode cX5_seek 35 = .ok (.iload 4, 2) := by decide +kernel
theorem dX5_seek_37 : decode cX5_seek 37 = .ok (.invokevirtual 70, 3) := by decide +kernel
theorem dX5_seek_40 : decode cX5_seek 40 = .ok (.aload_n 0, 1) := by decide +kernel
theorem dX5_seek_41 : decode cX5_seek 41 = .ok (.getfield 22, 3) := by decide +kernel
theorem dX5_seek_44 : decode cX5_seek 44 = .ok (.iload 4, 2) := by decide +kernel
theorem dX5_seek_46 : decode cX5_seek 46 = .ok (.dup2, 1) := by decide +kernel
theorem dX5_seek_47 : decode cX5_seek 47 = .ok (.iaload, 1) := by decide +kernel
theorem dX5_seek_48 : decode cX5_seek 48 = .ok (.iconst 1, 1) := by decide +kernel
theorem dX5_seek_49 : decode cX5_seek 49 = .ok (.isub, 1) := by decide +kernel
theorem dX5_seek_50 : decode cX5_seek 50 = .ok (.iastore, 1) := by decide +kernel
theorem dX5_seek_51 : decode cX5_seek 51 = .ok (.aload_n 0, 1) := by decide +kernel
theorem dX5_seek_52 : decode cX5_seek 52 = .ok (.aload_n 0, 1) := by decide +kernel
theorem dX5_seek_53 : decode cX5_seek 53 = .ok (.getfield 13, 3) := by decide +kernel
theorem dX5_seek_56 : decode cX5_seek 56 = .ok (.iload 4, 2) := by decide +kernel
theorem dX5_seek_58 : decode cX5_seek 58 = .ok (.iaload, 1) := by decide +kernel
theorem dX5_seek_59 : decode cX5_seek 59 = .ok (.iload_n 2, 1) := by decide +kernel
theorem dX5_seek_60 : decode cX5_seek 60 = .ok (.if_icmp .lt 7, 3) := by decide +kernel
theorem dX5_seek_63 : decode cX5_seek 63 = .ok (.iload_n 3, 1) := by decide +kernel
theorem dX5_seek_64 : decode cX5_seek 64 = .ok (.goto 4, 3) := by decide +kernel
theorem dX5_seek_67 : decode cX5_seek 67 = .ok (.iconst (-1), 1) := by decide +kernel
theorem dX5_seek_68 : decode cX5_seek 68 = .ok (.putfield 108, 3) := by decide +kernel
theorem dX5_seek_71 : decode cX5_seek 71 = .ok (.iinc 3 1, 3) := by decide +kernel
theorem dX5_seek_74 : decode cX5_seek 74 = .ok (.goto (-67), 3) := by decide +kernel
theorem dX5_seek_77 : decode cX5_seek 77 = .ok (.return_, 1) := by decide +kernel
theorem dX5_withSafe_0 : decode cX5_withSafe 0 = .ok (.iload_n 2, 1) := by decide +kernel
theorem dX5_withSafe_1 : decode cX5_withSafe 1 = .ok (.iconst (-1), 1) := by decide +kernel
theorem dX5_withSafe_2 : decode cX5_withSafe 2 = .ok (.if_icmp .ne 9, 3) := by decide +kernel
theorem dX5_withSafe_5 : decode cX5_withSafe 5 = .ok (.aload_n 0, 1) := by decide +kernel
theorem dX5_withSafe_6 : decode cX5_withSafe 6 = .ok (.iconst 1, 1) := by decide +kernel
theorem dX5_withSafe_7 : decode cX5_withSafe 7 = .ok (.invokevirtual 114, 3) := by decide +kernel
theorem dX5_withSafe_10 : decode cX5_withSafe 10 = .ok (.return_, 1) := by decide +kernel
