theorem dX5_withSafe_11 : decode cX5_withSafe 11 = .ok (.iconst 0, 1) := by decide +kernel
theorem dX5_withSafe_12 : decode cX5_withSafe 12 = .ok (.istore 4, 2) := by decide +kernel
theorem dX5_withSafe_14 : decode cX5_withSafe 14 = .ok (.iload_n 1, 1) := by decide +kernel
theorem dX5_withSafe_15 : decode cX5_withSafe 15 = .ok (.tableswitch 108 0 4 #[33, 108, 53, 73, 85], 33) := by decide +kernel
theorem dX5_withSafe_48 : decode cX5_withSafe 48 = .ok (.aload_n 0, 1) := by decide +kernel
theorem dX5_withSafe_49 : decode cX5_withSafe 49 = .ok (.iload_n 2, 1) := by decide +kernel
theorem dX5_withSafe_50 : decode cX5_withSafe 50 = .ok (.invokevirtual 70, 3) := by decide +kernel
theorem dX5_withSafe_53 : decode cX5_withSafe 53 = .ok (.aload_n 0, 1) := by decide +kernel
theorem dX5_withSafe_54 : decode cX5_withSafe 54 = .ok (.iconst 1, 1) := by decide +kernel
theorem dX5_withSafe_55 : decode cX5_withSafe 55 = .ok (.invokevirtual 102, 3) := by decide +kernel
theorem dX5_withSafe_58 : decode cX5_withSafe 58 = .ok (.aload_n 0, 1) := by decide +kernel
theorem dX5_withSafe_59 : decode cX5_withSafe 59 = .ok (.iconst 1, 1) := by decide +kernel
theorem dX5_withSafe_60 : decode cX5_withSafe 60 = .ok (.iload_n 3, 1) := by decide +kernel
theorem dX5_withSafe_61 : decode cX5_withSafe 61 = .ok (.iload_n 2, 1) := by decide +kernel
theorem dX5_withSafe_62 : decode cX5_withSafe 62 = .ok (.invokevirtual 117, 3) := by decide +kernel
theorem dX5_withSafe_65 : decode cX5_withSafe 65 = .ok (.goto 68, 3) := by decide +kernel
theorem dX5_withSafe_68 : decode cX5_withSafe 68 = .ok (.aload_n 0, 1) := by decide +kernel
theorem dX5_withSafe_69 : decode cX5_withSafe 69 = .ok (.iload_n 2, 1) := by decide +kernel
theorem dX5_withSafe_70 : decode cX5_withSafe 70 = .ok (.iload_n 3, 1) := by decide +kernel
theorem dX5_withSafe_71 : decode cX5_withSafe 71 = .ok (.invokevirtual 83, 3) := by decide +kernel
theorem dX5_withSafe_74 : decode cX5_withSafe 74 = .ok (.ifCond .eq 7, 3) := by decide +kernel
theorem dX5_withSafe_77 : decode cX5_withSafe 77 = .ok (.iconst 0, 1) := by decide +kernel
theorem dX5_withSafe_78 : decode cX5_withSafe 78 = .ok (.goto 5, 3) := by decide +kernel
theorem dX5_withSafe_81 : decode cX5_withSafe 81 = .ok (.bipush 30, 2) := by decide +kernel
theorem dX5_withSafe_83 : decode cX5_withSafe 83 = .ok (.istore 4, 2) := by decide +kernel
theorem dX5_withSafe_85 : decode cX5_withSafe 85 = .ok (.goto 48, 3) := by decide +kernel
theorem dX5_withSafe_88 : decode cX5_withSafe 88 = .ok (.aload_n 0, 1) := by decide +kernel
theorem dX5_withSafe_89 : decode cX5_withSafe 89 = .ok (.aload_n 0, 1) := by decide +kernel
theorem dX5_withSafe_90 : decode cX5_withSafe 90 = .ok (.iload_n 2, 1) := by decide +kernel
theorem dX5_withSafe_91 : decode cX5_withSafe 91 = .ok (.invokevirtual 121, 3) := by decide +kernel
theorem dX5_withSafe_94 : decode cX5_withSafe 94 = .ok (.putfield 108, 3) := by decide +kernel
theorem dX5_withSafe_97 : decode cX5_withSafe 97 = .ok (.goto 36, 3) := by decide +kernel
theorem dX5_withSafe_100 : decode cX5_withSafe 100 = .ok (.aload_n 0, 1) := by decide +kernel
theorem dX5_withSafe_101 : decode cX5_withSafe 101 = .ok (.iload_n 2, 1) := by decide +kernel
theorem dX5_withSafe_102 : decode cX5_withSafe 102 = .ok (.aload_n 0, 1) := by decide +kernel
theorem dX5_withSafe_103 : decode cX5_withSafe 103 = .ok (.getfield 28, 3) := by decide +kernel
theorem dX5_withSafe_106 : decode cX5_withSafe 106 = .ok (.iload_n 3, 1) := by decide +kernel
theorem dX5_withSafe_107 : decode cX5_withSafe 107 = .ok (.bipush 7, 2) := by decide +kernel
theorem dX5_withSafe_109 : decode cX5_withSafe 109 = .ok (.iand, 1) := by decide +kernel
theorem dX5_withSafe_110 : decode cX5_withSafe 110 = .ok (.iaload, 1) := by decide +kernel
theorem dX5_withSafe_111 : decode cX5_withSafe 111 = .ok (.aload_n 0, 1) := by decide +kernel
theorem dX5_withSafe_112 : decode cX5_withSafe 112 = .ok (.getfield 108, 3) := by decide +kernel
theorem dX5_withSafe_115 : decode cX5_withSafe 115 = .ok (.invokevirtual 125, 3) := by decide +kernel
theorem dX5_withSafe_118 : decode cX5_withSafe 118 = .ok (.istore 4, 2) := by decide +kernel
theorem dX5_withSafe_120 : decode cX5_withSafe 120 = .ok (.goto 13, 3) := by decide +kernel
theorem dX5_withSafe_123 : decode cX5_withSafe 123 = .ok (.aload_n 0, 1) := by decide +kernel
theorem dX5_withSafe_124 : decode cX5_withSafe 124 = .ok (.aload_n 0, 1) := by decide +kernel
theorem dX5_withSafe_125 : decode cX5_withSafe 125 = .ok (.getfield 22, 3) := by decide +kernel
theorem dX5_withSafe_128 : decode cX5_withSafe 128 = .ok (.iload_n 2, 1) := by decide +kernel
theorem dX5_withSafe_129 : decode cX5_withSafe 129 = .ok (.iaload, 1) := by decide +kernel
theorem dX5_withSafe_130 : decode cX5_withSafe 130 = .ok (.putfield 108, 3) := by decide +kernel
theorem dX5_withSafe_133 : decode cX5_withSafe 133 = .ok (.iload 4, 2) := by decide +kernel
theorem dX5_withSafe_135 : decode cX5_withSafe 135 = .ok (.ifCond .eq 9, 3) := by decide +kernel
theorem dX5_withSafe_138 : decode cX5_withSafe 138 = .ok (.aload_n 0, 1) := by decide +kernel
theorem dX5_withSafe_139 : decode cX5_withSafe 139 = .ok (.iload 4, 2) := by decide +kernel
theorem dX5_withSafe_141 : decode cX5_withSafe 141 = .ok (.invokevirtual 114, 3) := by decide +kernel
theorem dX5_withSafe_144 : decode cX5_withSafe 144 = .ok (.return_, 1) := by decide +kernel
theorem dX5_does_0 : decode cX5_does 0 = .ok (.iload_n 1, 1) := by decide +kernel
theorem dX5_does_1 : decode cX5_does 1 = .ok (.tableswitch 194 1 13 #[67, 194, 194, 194, 77, 95, 194, 105, 131, 139, 147, 160, 185], 67) := by decide +kernel
theorem dX5_does_68 : decode cX5_does 68 = .ok (.aload_n 0, 1) := by decide +kernel
theorem dX5_does_69 : decode cX5_does 69 = .ok (.iconst 2, 1) := by decide +kernel
theorem dX5_does_70 : decode cX5_does 70 = .ok (.iload_n 3, 1) := by decide +kernel
theorem dX5_does_71 : decode cX5_does 71 = .ok (.iload_n 2, 1) := by decide +kernel
theorem dX5_does_72 : decode cX5_does 72 = .ok (.invokevirtual 117, 3) := by decide +kernel
theorem dX5_does_75 : decode cX5_does 75 = .ok (.goto 132, 3) := by decide +kernel
theorem dX5_does_78 : decode cX5_does 78 = .ok (.aload_n 0, 1) := by decide +kernel
theorem dX5_does_79 : decode cX5_does 79 = .ok (.getfield 28, 3) := by decide +kernel
theorem dX5_does_82 : decode cX5_does 82 = .ok (.iload_n 2, 1) := by decide +kernel
theorem dX5_does_83 : decode cX5_does 83 = .ok (.aload_n 0, 1) := by decide +kernel
theorem dX5_does_84 : decode cX5_does 84 = .ok (.getfield 28, 3) := by decide +kernel
theorem dX5_does_87 : decode cX5_does 87 = .ok (.iload_n 3, 1) := by decide +kernel
theorem dX5_does_88 : decode cX5_does 88 = .ok (.bipush 7, 2) := by decide +kernel
theorem dX5_does_90 : decode cX5_does 90 = .ok (.iand, 1) := by decide +kernel
theorem dX5_does_91 : decode cX5_does 91 = .ok (.iaload, 1) := by decide +kernel
theorem dX5_does_92 : decode cX5_does 92 = .ok (.iastore, 1) := by decide +kernel
theorem dX5_does_93 : decode cX5_does 93 = .ok (.goto 114, 3) := by decide +kernel
theorem dX5_does_96 : decode cX5_does 96 = .ok (.aload_n 0, 1) := by decide +kernel
theorem dX5_does_97 : decode cX5_does 97 = .ok (.getfield 28, 3) := by decide +kernel
theorem dX5_does_100 : decode cX5_does 100 = .ok (.iload_n 2, 1) := by decide +kernel
theorem dX5_does_101 : decode cX5_does 101 = .ok (.iconst (-1), 1) := by decide +kernel
theorem dX5_does_102 : decode cX5_does 102 = .ok (.iastore, 1) := by decide +kernel
theorem dX5_does_103 : decode cX5_does 103 = .ok (.goto 104, 3) := by decide +kernel
theorem dX5_does_106 : decode cX5_does 106 = .ok (.iload_n 2, 1) := by decide +kernel
theorem dX5_does_107 : decode cX5_does 107 = .ok (.ifCond .ne 12, 3) := by decide +kernel
theorem dX5_does_110 : decode cX5_does 110 = .ok (.aload_n 0, 1) := by decide +kernel
theorem dX5_does_111 : decode cX5_does 111 = .ok (.bipush 6, 2) := by decide +kernel
theorem dX5_does_113 : decode cX5_does 113 = .ok (.invokevirtual 114, 3) := by decide +kernel
theorem dX5_does_116 : decode cX5_does 116 = .ok (.goto 91, 3) := by decide +kernel
theorem dX5_does_119 : decode cX5_does 119 = .ok (.aload_n 0, 1) := by decide +kernel
theorem dX5_does_120 : decode cX5_does 120 = .ok (.aload_n 0, 1) := by decide +kernel
theorem dX5_does_121 : decode cX5_does 121 = .ok (.getfield 108, 3) := by decide +kernel
theorem dX5_does_124 : decode cX5_does 124 = .ok (.iload_n 2, 1) := by decide +kernel
theorem dX5_does_125 : decode cX5_does 125 = .ok (.idiv, 1) := by decide +kernel
theorem dX5_does_126 : decode cX5_does 126 = .ok (.putfield 108, 3) := by decide +kernel
theorem dX5_does_129 : decode cX5_does 129 = .ok (.goto 78, 3) := by decide +kernel
theorem dX5_does_132 : decode cX5_does 132 = .ok (.aload_n 0, 1) := by decide +kernel
theorem dX5_does_133 : decode cX5_does 133 = .ok (.iload_n 2, 1) := by decide +kernel
theorem dX5_does_134 : decode cX5_does 134 = .ok (.invokevirtual 114, 3) := by decide +kernel
theorem dX5_does_137 : decode cX5_does 137 = .ok (.goto 70, 3) := by decide +kernel
theorem dX5_does_140 : decode cX5_does 140 = .ok (.aload_n 0, 1) := by decide +kernel
theorem dX5_does_141 : decode cX5_does 141 = .ok (.iload_n 2, 1) := by decide +kernel
theorem dX5_does_142 : decode cX5_does 142 = .ok (.invokevirtual 129, 3) := by decide +kernel
theorem dX5_does_145 : decode cX5_does 145 = .ok (.goto 62, 3) := by decide +kernel
theorem dX5_does_148 : decode cX5_does 148 = .ok (.aload_n 0, 1) := by decide +kernel
theorem dX5_does_149 : decode cX5_does 149 = .ok (.aload_n 0, 1) := by decide +kernel
theorem dX5_does_150 : decode cX5_does 150 = .ok (.getfield 108, 3) := by decide +kernel
theorem dX5_does_153 : decode cX5_does 153 = .ok (.iload_n 2, 1) := by decide +kernel
theorem dX5_does_154 : decode cX5_does 154 = .ok (.iadd, 1) := by decide +kernel
theorem dX5_does_155 : decode cX5_does 155 = .ok (.putfield 108, 3) := by decide +kernel
theorem dX5_does_158 : decode cX5_does 158 = .ok (.goto 49, 3) := by decide +kernel
theorem dX5_does_161 : decode cX5_does 161 = .ok (.aload_n 0, 1) := by decide +kernel
theorem dX5_does_162 : decode cX5_does 162 = .ok (.getfield 92, 3) := by decide +kernel
theorem dX5_does_165 : decode cX5_does 165 = .ok (.iconst 4, 1) := by decide +kernel
theorem dX5_does_166 : decode cX5_does 166 = .ok (.if_icmp .ne 12, 3) := by decide +kernel
theorem dX5_does_169 : decode cX5_does 169 = .ok (.aload_n 0, 1) := by decide +kernel
theorem dX5_does_170 : decode cX5_does 170 = .ok (.bipush 7, 2) := by decide +kernel
theorem dX5_does_172 : decode cX5_does 172 = .ok (.invokevirtual 114, 3) := by decide +kernel
theorem dX5_does_175 : decode cX5_does 175 = .ok (.goto 32, 3) := by decide +kernel
theorem dX5_does_178 : decode cX5_does 178 = .ok (.aload_n 0, 1) := by decide +kernel
theorem dX5_does_179 : decode cX5_does 179 = .ok (.iload_n 2, 1) := by decide +kernel
theorem dX5_does_180 : decode cX5_does 180 = .ok (.invokevirtual 132, 3) := by decide +kernel
theorem dX5_does_183 : decode cX5_does 183 = .ok (.goto 24, 3) := by decide +kernel
theorem dX5_does_186 : decode cX5_does 186 = .ok (.aload_n 0, 1) := by decide +kernel
theorem dX5_does_187 : decode cX5_does 187 = .ok (.iload_n 2, 1) := by decide +kernel
theorem dX5_does_188 : decode cX5_does 188 = .ok (.iload_n 3, 1) := by decide +kernel
theorem dX5_does_189 : decode cX5_does 189 = .ok (.invokevirtual 135, 3) := by decide +kernel
theorem dX5_does_192 : decode cX5_does 192 = .ok (.goto 15, 3) := by decide +kernel
theorem dX5_does_195 : decode cX5_does 195 = .ok (.aload_n 0, 1) := by decide +kernel
theorem dX5_does_196 : decode cX5_does 196 = .ok (.iload_n 1, 1) := by decide +kernel
theorem dX5_does_197 : decode cX5_does 197 = .ok (.aload_n 0, 1) := by decide +kernel
theorem dX5_does_198 : decode cX5_does 198 = .ok (.getfield 28, 3) := by decide +kernel
theorem dX5_does_201 : decode cX5_does 201 = .ok (.iload_n 2, 1) := by decide +kernel
theorem dX5_does_202 : decode cX5_does 202 = .ok (.iaload, 1) := by decide +kernel
theorem dX5_does_203 : decode cX5_does 203 = .ok (.iload_n 3, 1) := by decide +kernel
theorem dX5_does_204 : decode cX5_does 204 = .ok (.invokevirtual 139, 3) := by decide +kernel
theorem dX5_does_207 : decode cX5_does 207 = .ok (.return_, 1) := by decide +kernel
theorem dX5_run_0 : decode cX5_run 0 = .ok (.iload_n 1, 1) := by decide +kernel
theorem dX5_run_1 : decode cX5_run 1 = .ok (.iconst 0, 1) := by decide +kernel
theorem dX5_run_2 : decode cX5_run 2 = .ok (.iconst 5, 1) := by decide +kernel
theorem dX5_run_3 : decode cX5_run 3 = .ok (.invokestatic 61, 3) := by decide +kernel
theorem dX5_run_6 : decode cX5_run 6 = .ok (.ifCond .ne 5, 3) := by decide +kernel
theorem dX5_run_9 : decode cX5_run 9 = .ok (.iconst (-1), 1) := by decide +kernel
theorem dX5_run_10 : decode cX5_run 10 = .ok (.ireturn, 1) := by decide +kernel
theorem dX5_run_11 : decode cX5_run 11 = .ok (.aload_n 0, 1) := by decide +kernel
theorem dX5_run_12 : decode cX5_run 12 = .ok (.iload_n 2, 1) := by decide +kernel
theorem dX5_run_13 : decode cX5_run 13 = .ok (.putfield 108, 3) := by decide +kernel
theorem dX5_run_16 : decode cX5_run 16 = .ok (.aload_n 0, 1) := by decide +kernel
theorem dX5_run_17 : decode cX5_run 17 = .ok (.iconst 0, 1) := by decide +kernel
theorem dX5_run_18 : decode cX5_run 18 = .ok (.putfield 142, 3) := by decide +kernel
theorem dX5_run_21 : decode cX5_run 21 = .ok (.aload_n 0, 1) := by decide +kernel
theorem dX5_run_22 : decode cX5_run 22 = .ok (.iconst 0, 1) := by decide +kernel
theorem dX5_run_23 : decode cX5_run 23 = .ok (.putfield 111, 3) := by decide +kernel
theorem dX5_run_26 : decode cX5_run 26 = .ok (.aload_n 0, 1) := by decide +kernel
theorem dX5_run_27 : decode cX5_run 27 = .ok (.iconst 0, 1) := by decide +kernel
theorem dX5_run_28 : decode cX5_run 28 = .ok (.putfield 92, 3) := by decide +kernel
theorem dX5_run_31 : decode cX5_run 31 = .ok (.aload_n 0, 1) := by decide +kernel
theorem dX5_run_32 : decode cX5_run 32 = .ok (.iconst 0, 1) := by decide +kernel
theorem dX5_run_33 : decode cX5_run 33 = .ok (.putfield 95, 3) := by decide +kernel
theorem dX5_run_36 : decode cX5_run 36 = .ok (.aload_n 0, 1) := by decide +kernel
theorem dX5_run_37 : decode cX5_run 37 = .ok (.iconst 0, 1) := by decide +kernel
theorem dX5_run_38 : decode cX5_run 38 = .ok (.putfield 86, 3) := by decide +kernel
theorem dX5_run_41 : decode cX5_run 41 = .ok (.aload_n 0, 1) := by decide +kernel
theorem dX5_run_42 : decode cX5_run 42 = .ok (.iconst 0, 1) := by decide +kernel
theorem dX5_run_43 : decode cX5_run 43 = .ok (.putfield 89, 3) := by decide +kernel
theorem dX5_run_46 : decode cX5_run 46 = .ok (.aload_n 0, 1) := by decide +kernel
theorem dX5_run_47 : decode cX5_run 47 = .ok (.iload_n 1, 1) := by decide +kernel
theorem dX5_run_48 : decode cX5_run 48 = .ok (.invokevirtual 132, 3) := by decide +kernel
theorem dX5_run_51 : decode cX5_run 51 = .ok (.aload_n 0, 1) := by decide +kernel
theorem dX5_run_52 : decode cX5_run 52 = .ok (.getfield 89, 3) := by decide +kernel
theorem dX5_run_55 : decode cX5_run 55 = .ok (.ifCond .le 131, 3) := by decide +kernel
theorem dX5_run_58 : decode cX5_run 58 = .ok (.aload_n 0, 1) := by decide +kernel
theorem dX5_run_59 : decode cX5_run 59 = .ok (.getfield 89, 3) := by decide +kernel
theorem dX5_run_62 : decode cX5_run 62 = .ok (.iconst 1, 1) := by decide +kernel
theorem dX5_run_63 : decode cX5_run 63 = .ok (.isub, 1) := by decide +kernel
theorem dX5_run_64 : decode cX5_run 64 = .ok (.istore_n 3, 1) := by decide +kernel
theorem dX5_run_65 : decode cX5_run 65 = .ok (.aload_n 0, 1) := by decide +kernel
theorem dX5_run_66 : decode cX5_run 66 = .ok (.getfield 52, 3) := by decide +kernel
theorem dX5_run_69 : decode cX5_run 69 = .ok (.iload_n 3, 1) := by decide +kernel
theorem dX5_run_70 : decode cX5_run 70 = .ok (.iaload, 1) := by decide +kernel
theorem dX5_run_71 : decode cX5_run 71 = .ok (.aload_n 0, 1) := by decide +kernel
theorem dX5_run_72 : decode cX5_run 72 = .ok (.getfield 55, 3) := by decide +kernel
theorem dX5_run_75 : decode cX5_run 75 = .ok (.iload_n 3, 1) := by decide +kernel
theorem dX5_run_76 : decode cX5_run 76 = .ok (.iaload, 1) := by decide +kernel
theorem dX5_run_77 : decode cX5_run 77 = .ok (.if_icmp .ne 10, 3) := by decide +kernel
theorem dX5_run_80 : decode cX5_run 80 = .ok (.aload_n 0, 1) := by decide +kernel
theorem dX5_run_81 : decode cX5_run 81 = .ok (.invokevirtual 105, 3) := by decide +kernel
theorem dX5_run_84 : decode cX5_run 84 = .ok (.goto 99, 3) := by decide +kernel
theorem dX5_run_87 : decode cX5_run 87 = .ok (.aload_n 0, 1) := by decide +kernel
theorem dX5_run_88 : decode cX5_run 88 = .ok (.getfield 142, 3) := by decide +kernel
theorem dX5_run_91 : decode cX5_run 91 = .ok (.sipush 200, 3) := by decide +kernel
theorem dX5_run_94 : decode cX5_run 94 = .ok (.if_icmp .ne 12, 3) := by decide +kernel
theorem dX5_run_97 : decode cX5_run 97 = .ok (.aload_n 0, 1) := by decide +kernel
theorem dX5_run_98 : decode cX5_run 98 = .ok (.bipush 40, 2) := by decide +kernel
theorem dX5_run_100 : decode cX5_run 100 = .ok (.invokevirtual 114, 3) := by decide +kernel
theorem dX5_run_103 : decode cX5_run 103 = .ok (.goto 80, 3) := by decide +kernel
theorem dX5_run_106 : decode cX5_run 106 = .ok (.bipush 12, 2) := by decide +kernel
theorem dX5_run_108 : decode cX5_run 108 = .ok (.aload_n 0, 1) := by decide +kernel
theorem dX5_run_109 : decode cX5_run 109 = .ok (.getfield 49, 3) := by decide +kernel
theorem dX5_run_112 : decode cX5_run 112 = .ok (.iload_n 3, 1) := by decide +kernel
theorem dX5_run_113 : decode cX5_run 113 = .ok (.iaload, 1) := by decide +kernel
theorem dX5_run_114 : decode cX5_run 114 = .ok (.imul, 1) := by decide +kernel
theorem dX5_run_115 : decode cX5_run 115 = .ok (.aload_n 0, 1) := by decide +kernel
theorem dX5_run_116 : decode cX5_run 116 = .ok (.getfield 52, 3) := by decide +kernel
theorem dX5_run_119 : decode cX5_run 119 = .ok (.iload_n 3, 1) := by decide +kernel
theorem dX5_run_120 : decode cX5_run 120 = .ok (.iaload, 1) := by decide +kernel
theorem dX5_run_121 : decode cX5_run 121 = .ok (.iadd, 1) := by decide +kernel
theorem dX5_run_122 : decode cX5_run 122 = .ok (.istore 4, 2) := by decide +kernel
theorem dX5_run_124 : decode cX5_run 124 = .ok (.aload_n 0, 1) := by decide +kernel
theorem dX5_run_125 : decode cX5_run 125 = .ok (.getfield 52, 3) := by decide +kernel
theorem dX5_run_128 : decode cX5_run 128 = .ok (.iload_n 3, 1) := by decide +kernel
theorem dX5_run_129 : decode cX5_run 129 = .ok (.dup2, 1) := by decide +kernel
theorem dX5_run_130 : decode cX5_run 130 = .ok (.iaload, 1) := by decide +kernel
theorem dX5_run_131 : decode cX5_run 131 = .ok (.iconst 1, 1) := by decide +kernel
theorem dX5_run_132 : decode cX5_run 132 = .ok (.iadd, 1) := by decide +kernel
theorem dX5_run_133 : decode cX5_run 133 = .ok (.iastore, 1) := by decide +kernel
theorem dX5_run_134 : decode cX5_run 134 = .ok (.aload_n 0, 1) := by decide +kernel
theorem dX5_run_135 : decode cX5_run 135 = .ok (.dup, 1) := by decide +kernel
theorem dX5_run_136 : decode cX5_run 136 = .ok (.getfield 142, 3) := by decide +kernel
theorem dX5_run_139 : decode cX5_run 139 = .ok (.iconst 1, 1) := by decide +kernel
theorem dX5_run_140 : decode cX5_run 140 = .ok (.iadd, 1) := by decide +kernel
theorem dX5_run_141 : decode cX5_run 141 = .ok (.putfield 142, 3) := by decide +kernel
theorem dX5_run_144 : decode cX5_run 144 = .ok (.aload_n 0, 1) := by decide +kernel
theorem dX5_run_145 : decode cX5_run 145 = .ok (.bipush 100, 2) := by decide +kernel
theorem dX5_run_147 : decode cX5_run 147 = .ok (.aload_n 0, 1) := by decide +kernel
theorem dX5_run_148 : decode cX5_run 148 = .ok (.getfield 34, 3) := by decide +kernel
theorem dX5_run_151 : decode cX5_run 151 = .ok (.iload 4, 2) := by decide +kernel
theorem dX5_run_153 : decode cX5_run 153 = .ok (.iaload, 1) := by decide +kernel
theorem dX5_run_154 : decode cX5_run 154 = .ok (.iadd, 1) := by decide +kernel
theorem dX5_run_155 : decode cX5_run 155 = .ok (.invokevirtual 102, 3) := by decide +kernel
theorem dX5_run_158 : decode cX5_run 158 = .ok (.aload_n 0, 1) := by decide +kernel
theorem dX5_run_159 : decode cX5_run 159 = .ok (.aload_n 0, 1) := by decide +kernel
theorem dX5_run_160 : decode cX5_run 160 = .ok (.getfield 34, 3) := by decide +kernel
theorem dX5_run_163 : decode cX5_run 163 = .ok (.iload 4, 2) := by decide +kernel
theorem dX5_run_165 : decode cX5_run 165 = .ok (.iaload, 1) := by decide +kernel
theorem dX5_run_166 : decode cX5_run 166 = .ok (.aload_n 0, 1) := by decide +kernel
theorem dX5_run_167 : decode cX5_run 167 = .ok (.getfield 37, 3) := by decide +kernel
theorem dX5_run_170 : decode cX5_run 170 = .ok (.iload 4, 2) := by decide +kernel
theorem dX5_run_172 : decode cX5_run 172 = .ok (.iaload, 1) := by decide +kernel
theorem dX5_run_173 : decode cX5_run 173 = .ok (.aload_n 0, 1) := by decide +kernel
theorem dX5_run_174 : decode cX5_run 174 = .ok (.getfield 40, 3) := by decide +kernel
theorem dX5_run_177 : decode cX5_run 177 = .ok (.iload 4, 2) := by decide +kernel
theorem dX5_run_179 : decode cX5_run 179 = .ok (.iaload, 1) := by decide +kernel
theorem dX5_run_180 : decode cX5_run 180 = .ok (.invokevirtual 145, 3) := by decide +kernel
theorem dX5_run_183 : decode cX5_run 183 = .ok (.goto (-132), 3) := by decide +kernel
theorem dX5_run_186 : decode cX5_run 186 = .ok (.aload_n 0, 1) := by decide +kernel
theorem dX5_run_187 : decode cX5_run 187 = .ok (.aload_n 0, 1) := by decide +kernel
theorem dX5_run_188 : decode cX5_run 188 = .ok (.getfield 111, 3) := by decide +kernel
theorem dX5_run_191 : decode cX5_run 191 = .ok (.putfield 148, 3) := by decide +kernel
theorem dX5_run_194 : decode cX5_run 194 = .ok (.aload_n 0, 1) := by decide +kernel
theorem dX5_run_195 : decode cX5_run 195 = .ok (.getfield 111, 3) := by decide +kernel
theorem dX5_run_198 : decode cX5_run 198 = .ok (.ifCond .ne 7, 3) := by decide +kernel
theorem dX5_run_201 : decode cX5_run 201 = .ok (.iconst 1, 1) := by decide +kernel
theorem dX5_run_202 : decode cX5_run 202 = .ok (.goto 10, 3) := by decide +kernel
theorem dX5_run_205 : decode cX5_run 205 = .ok (.bipush (-10), 2) := by decide +kernel
theorem dX5_run_207 : decode cX5_run 207 = .ok (.aload_n 0, 1) := by decide +kernel
theorem dX5_run_208 : decode cX5_run 208 = .ok (.getfield 111, 3) := by decide +kernel
theorem dX5_run_211 : decode cX5_run 211 = .ok (.isub, 1) := by decide +kernel
theorem dX5_run_212 : decode cX5_run 212 = .ok (.ireturn, 1) := by decide +kernel
theorem dX5_value_0 : decode cX5_value 0 = .ok (.aload_n 0, 1) := by decide +kernel
theorem dX5_value_1 : decode cX5_value 1 = .ok (.getfield 108, 3) := by decide +kernel
theorem dX5_value_4 : decode cX5_value 4 = .ok (.ireturn, 1) := by decide +kernel
theorem dX5_trace_0 : decode cX5_trace 0 = .ok (.iload_n 1, 1) := by decide +kernel
theorem dX5_trace_1 : decode cX5_trace 1 = .ok (.iconst (-1), 1) := by decide +kernel
theorem dX5_trace_2 : decode cX5_trace 2 = .ok (.if_icmp .ne 10, 3) := by decide +kernel
theorem dX5_trace_5 : decode cX5_trace 5 = .ok (.aload_n 0, 1) := by decide +kernel
theorem dX5_trace_6 : decode cX5_trace 6 = .ok (.getfield 86, 3) := by decide +kernel
theorem dX5_trace_9 : decode cX5_trace 9 = .ok (.goto 27, 3) := by decide +kernel
theorem dX5_trace_12 : decode cX5_trace 12 = .ok (.iload_n 1, 1) := by decide +kernel
theorem dX5_trace_13 : decode cX5_trace 13 = .ok (.iconst 0, 1) := by decide +kernel
theorem dX5_trace_14 : decode cX5_trace 14 = .ok (.aload_n 0, 1) := by decide +kernel
theorem dX5_trace_15 : decode cX5_trace 15 = .ok (.getfield 86, 3) := by decide +kernel
theorem dX5_trace_18 : decode cX5_trace 18 = .ok (.iconst 1, 1) := by decide +kernel
theorem dX5_trace_19 : decode cX5_trace 19 = .ok (.isub, 1) := by decide +kernel
theorem dX5_trace_20 : decode cX5_trace 20 = .ok (.invokestatic 61, 3) := by decide +kernel
theorem dX5_trace_23 : decode cX5_trace 23 = .ok (.ifCond .eq 12, 3) := by decide +kernel
theorem dX5_trace_26 : decode cX5_trace 26 = .ok (.aload_n 0, 1) := by decide +kernel
theorem dX5_trace_27 : decode cX5_trace 27 = .ok (.getfield 43, 3) := by decide +kernel
theorem dX5_trace_30 : decode cX5_trace 30 = .ok (.iload_n 1, 1) := by decide +kernel
theorem dX5_trace_31 : decode cX5_trace 31 = .ok (.iaload, 1) := by decide +kernel
theorem dX5_trace_32 : decode cX5_trace 32 = .ok (.goto 4, 3) := by decide +kernel
theorem dX5_trace_35 : decode cX5_trace 35 = .ok (.iconst (-1), 1) := by decide +kernel
theorem dX5_trace_36 : decode cX5_trace 36 = .ok (.ireturn, 1) := by decide +kernel
theorem dX5_told_0 : decode cX5_told 0 = .ok (.iload_n 1, 1) := by decide +kernel
theorem dX5_told_1 : decode cX5_told 1 = .ok (.iconst 0, 1) := by decide +kernel
theorem dX5_told_2 : decode cX5_told 2 = .ok (.bipush 7, 2) := by decide +kernel
theorem dX5_told_4 : decode cX5_told 4 = .ok (.invokestatic 61, 3) := by decide +kernel
theorem dX5_told_7 : decode cX5_told 7 = .ok (.ifCond .eq 22, 3) := by decide +kernel
theorem dX5_told_10 : decode cX5_told 10 = .ok (.aload_n 0, 1) := by decide +kernel
theorem dX5_told_11 : decode cX5_told 11 = .ok (.getfield 28, 3) := by decide +kernel
theorem dX5_told_14 : decode cX5_told 14 = .ok (.iload_n 1, 1) := by decide +kernel
theorem dX5_told_15 : decode cX5_told 15 = .ok (.iaload, 1) := by decide +kernel
theorem dX5_told_16 : decode cX5_told 16 = .ok (.iconst (-1), 1) := by decide +kernel
theorem dX5_told_17 : decode cX5_told 17 = .ok (.if_icmp .eq 12, 3) := by decide +kernel
theorem dX5_told_20 : decode cX5_told 20 = .ok (.iload_n 2, 1) := by decide +kernel
theorem dX5_told_21 : decode cX5_told 21 = .ok (.iconst 0, 1) := by decide +kernel
theorem dX5_told_22 : decode cX5_told 22 = .ok (.iconst 5, 1) := by decide +kernel
theorem dX5_told_23 : decode cX5_told 23 = .ok (.invokestatic 61, 3) := by decide +kernel
theorem dX5_told_26 : decode cX5_told 26 = .ok (.ifCond .ne 5, 3) := by decide +kernel
theorem dX5_told_29 : decode cX5_told 29 = .ok (.iconst (-1), 1) := by decide +kernel
theorem dX5_told_30 : decode cX5_told 30 = .ok (.ireturn, 1) := by decide +kernel
theorem dX5_told_31 : decode cX5_told 31 = .ok (.aload_n 0, 1) := by decide +kernel
theorem dX5_told_32 : decode cX5_told 32 = .ok (.getfield 28, 3) := by decide +kernel
theorem dX5_told_35 : decode cX5_told 35 = .ok (.iload_n 1, 1) := by decide +kernel
theorem dX5_told_36 : decode cX5_told 36 = .ok (.iaload, 1) := by decide +kernel
theorem dX5_told_37 : decode cX5_told 37 = .ok (.istore_n 3, 1) := by decide +kernel
theorem dX5_told_38 : decode cX5_told 38 = .ok (.iload_n 2, 1) := by decide +kernel
theorem dX5_told_39 : decode cX5_told 39 = .ok (.ifCond .ne 12, 3) := by decide +kernel
theorem dX5_told_42 : decode cX5_told 42 = .ok (.aload_n 0, 1) := by decide +kernel
theorem dX5_told_43 : decode cX5_told 43 = .ok (.getfield 7, 3) := by decide +kernel
theorem dX5_told_46 : decode cX5_told 46 = .ok (.iload_n 3, 1) := by decide +kernel
theorem dX5_told_47 : decode cX5_told 47 = .ok (.iaload, 1) := by decide +kernel
theorem dX5_told_48 : decode cX5_told 48 = .ok (.goto 65, 3) := by decide +kernel
theorem dX5_told_51 : decode cX5_told 51 = .ok (.iload_n 2, 1) := by decide +kernel
theorem dX5_told_52 : decode cX5_told 52 = .ok (.iconst 1, 1) := by decide +kernel
theorem dX5_told_53 : decode cX5_told 53 = .ok (.if_icmp .ne 12, 3) := by decide +kernel
theorem dX5_told_56 : decode cX5_told 56 = .ok (.aload_n 0, 1) := by decide +kernel
theorem dX5_told_57 : decode cX5_told 57 = .ok (.getfield 13, 3) := by decide +kernel
theorem dX5_told_60 : decode cX5_told 60 = .ok (.iload_n 3, 1) := by decide +kernel
theorem dX5_told_61 : decode cX5_told 61 = .ok (.iaload, 1) := by decide +kernel
theorem dX5_told_62 : decode cX5_told 62 = .ok (.goto 51, 3) := by decide +kernel
theorem dX5_told_65 : decode cX5_told 65 = .ok (.iload_n 2, 1) := by decide +kernel
theorem dX5_told_66 : decode cX5_told 66 = .ok (.iconst 2, 1) := by decide +kernel
theorem dX5_told_67 : decode cX5_told 67 = .ok (.if_icmp .ne 12, 3) := by decide +kernel
theorem dX5_told_70 : decode cX5_told 70 = .ok (.aload_n 0, 1) := by decide +kernel
theorem dX5_told_71 : decode cX5_told 71 = .ok (.getfield 16, 3) := by decide +kernel
theorem dX5_told_74 : decode cX5_told 74 = .ok (.iload_n 3, 1) := by decide +kernel
theorem dX5_told_75 : decode cX5_told 75 = .ok (.iaload, 1) := by decide +kernel
theorem dX5_told_76 : decode cX5_told 76 = .ok (.goto 37, 3) := by decide +kernel
theorem dX5_told_79 : decode cX5_told 79 = .ok (.iload_n 2, 1) := by decide +kernel
theorem dX5_told_80 : decode cX5_told 80 = .ok (.iconst 3, 1) := by decide +kernel
theorem dX5_told_81 : decode cX5_told 81 = .ok (.if_icmp .ne 12, 3) := by decide +kernel
theorem dX5_told_84 : decode cX5_told 84 = .ok (.aload_n 0, 1) := by decide +kernel
theorem dX5_told_85 : decode cX5_told 85 = .ok (.getfield 19, 3) := by decide +kernel
theorem dX5_told_88 : decode cX5_told 88 = .ok (.iload_n 3, 1) := by decide +kernel
theorem dX5_told_89 : decode cX5_told 89 = .ok (.iaload, 1) := by decide +kernel
theorem dX5_told_90 : decode cX5_told 90 = .ok (.goto 23, 3) := by decide +kernel
theorem dX5_told_93 : decode cX5_told 93 = .ok (.iload_n 2, 1) := by decide +kernel
theorem dX5_told_94 : decode cX5_told 94 = .ok (.iconst 4, 1) := by decide +kernel
theorem dX5_told_95 : decode cX5_told 95 = .ok (.if_icmp .ne 12, 3) := by decide +kernel
theorem dX5_told_98 : decode cX5_told 98 = .ok (.aload_n 0, 1) := by decide +kernel
theorem dX5_told_99 : decode cX5_told 99 = .ok (.getfield 22, 3) := by decide +kernel
theorem dX5_told_102 : decode cX5_told 102 = .ok (.iload_n 3, 1) := by decide +kernel
theorem dX5_told_103 : decode cX5_told 103 = .ok (.iaload, 1) := by decide +kernel
theorem dX5_told_104 : decode cX5_told 104 = .ok (.goto 9, 3) := by decide +kernel
theorem dX5_told_107 : decode cX5_told 107 = .ok (.aload_n 0, 1) := by decide +kernel
theorem dX5_told_108 : decode cX5_told 108 = .ok (.getfield 25, 3) := by decide +kernel
theorem dX5_told_111 : decode cX5_told 111 = .ok (.iload_n 3, 1) := by decide +kernel
theorem dX5_told_112 : decode cX5_told 112 = .ok (.iaload, 1) := by decide +kernel
theorem dX5_told_113 : decode cX5_told 113 = .ok (.ireturn, 1) := by decide +kernel
theorem dX5_count_0 : decode cX5_count 0 = .ok (.iload_n 1, 1) := by decide +kernel
theorem dX5_count_1 : decode cX5_count 1 = .ok (.iconst 3, 1) := by decide +kernel
theorem dX5_count_2 : decode cX5_count 2 = .ok (.if_icmp .ne 39, 3) := by decide +kernel
theorem dX5_count_5 : decode cX5_count 5 = .ok (.iconst 0, 1) := by decide +kernel
theorem dX5_count_6 : decode cX5_count 6 = .ok (.istore_n 2, 1) := by decide +kernel
theorem dX5_count_7 : decode cX5_count 7 = .ok (.iconst 0, 1) := by decide +kernel
theorem dX5_count_8 : decode cX5_count 8 = .ok (.istore_n 3, 1) := by decide +kernel
theorem dX5_count_9 : decode cX5_count 9 = .ok (.iload_n 3, 1) := by decide +kernel
theorem dX5_count_10 : decode cX5_count 10 = .ok (.bipush 8, 2) := by decide +kernel
theorem dX5_count_12 : decode cX5_count 12 = .ok (.if_icmp .ge 27, 3) := by decide +kernel
theorem dX5_count_15 : decode cX5_count 15 = .ok (.aload_n 0, 1) := by decide +kernel
theorem dX5_count_16 : decode cX5_count 16 = .ok (.getfield 28, 3) := by decide +kernel
theorem dX5_count_19 : decode cX5_count 19 = .ok (.iload_n 3, 1) := by decide +kernel
theorem dX5_count_20 : decode cX5_count 20 = .ok (.iaload, 1) := by decide +kernel
theorem dX5_count_21 : decode cX5_count 21 = .ok (.iconst (-1), 1) := by decide +kernel
theorem dX5_count_22 : decode cX5_count 22 = .ok (.if_icmp .ne 7, 3) := by decide +kernel
theorem dX5_count_25 : decode cX5_count 25 = .ok (.iload_n 2, 1) := by decide +kernel
theorem dX5_count_26 : decode cX5_count 26 = .ok (.goto 6, 3) := by decide +kernel
theorem dX5_count_29 : decode cX5_count 29 = .ok (.iload_n 2, 1) := by decide +kernel
theorem dX5_count_30 : decode cX5_count 30 = .ok (.iconst 1, 1) := by decide +kernel
theorem dX5_count_31 : decode cX5_count 31 = .ok (.iadd, 1) := by decide +kernel
theorem dX5_count_32 : decode cX5_count 32 = .ok (.istore_n 2, 1) := by decide +kernel
theorem dX5_count_33 : decode cX5_count 33 = .ok (.iinc 3 1, 3) := by decide +kernel
theorem dX5_count_36 : decode cX5_count 36 = .ok (.goto (-27), 3) := by decide +kernel
theorem dX5_count_39 : decode cX5_count 39 = .ok (.iload_n 2, 1) := by decide +kernel
theorem dX5_count_40 : decode cX5_count 40 = .ok (.ireturn, 1) := by decide +kernel
theorem dX5_count_41 : decode cX5_count 41 = .ok (.iload_n 1, 1) := by decide +kernel
theorem dX5_count_42 : decode cX5_count 42 = .ok (.ifCond .ne 10, 3) := by decide +kernel
theorem dX5_count_45 : decode cX5_count 45 = .ok (.aload_n 0, 1) := by decide +kernel
theorem dX5_count_46 : decode cX5_count 46 = .ok (.getfield 142, 3) := by decide +kernel
theorem dX5_count_49 : decode cX5_count 49 = .ok (.goto 49, 3) := by decide +kernel
theorem dX5_count_52 : decode cX5_count 52 = .ok (.iload_n 1, 1) := by decide +kernel
theorem dX5_count_53 : decode cX5_count 53 = .ok (.iconst 1, 1) := by decide +kernel
theorem dX5_count_54 : decode cX5_count 54 = .ok (.if_icmp .ne 10, 3) := by decide +kernel
theorem dX5_count_57 : decode cX5_count 57 = .ok (.aload_n 0, 1) := by decide +kernel
theorem dX5_count_58 : decode cX5_count 58 = .ok (.getfield 148, 3) := by decide +kernel
theorem dX5_count_61 : decode cX5_count 61 = .ok (.goto 37, 3) := by decide +kernel
theorem dX5_count_64 : decode cX5_count 64 = .ok (.iload_n 1, 1) := by decide +kernel
theorem dX5_count_65 : decode cX5_count 65 = .ok (.iconst 2, 1) := by decide +kernel
theorem dX5_count_66 : decode cX5_count 66 = .ok (.if_icmp .ne 10, 3) := by decide +kernel
theorem dX5_count_69 : decode cX5_count 69 = .ok (.aload_n 0, 1) := by decide +kernel
theorem dX5_count_70 : decode cX5_count 70 = .ok (.getfield 95, 3) := by decide +kernel
theorem dX5_count_73 : decode cX5_count 73 = .ok (.goto 25, 3) := by decide +kernel
theorem dX5_count_76 : decode cX5_count 76 = .ok (.iload_n 1, 1) := by decide +kernel
theorem dX5_count_77 : decode cX5_count 77 = .ok (.iconst 4, 1) := by decide +kernel
theorem dX5_count_78 : decode cX5_count 78 = .ok (.bipush 9, 2) := by decide +kernel
theorem dX5_count_80 : decode cX5_count 80 = .ok (.invokestatic 61, 3) := by decide +kernel
theorem dX5_count_83 : decode cX5_count 83 = .ok (.ifCond .eq 14, 3) := by decide +kernel
theorem dX5_count_86 : decode cX5_count 86 = .ok (.aload_n 0, 1) := by decide +kernel
theorem dX5_count_87 : decode cX5_count 87 = .ok (.getfield 31, 3) := by decide +kernel
theorem dX5_count_90 : decode cX5_count 90 = .ok (.iload_n 1, 1) := by decide +kernel
theorem dX5_count_91 : decode cX5_count 91 = .ok (.iconst 4, 1) := by decide +kernel
theorem dX5_count_92 : decode cX5_count 92 = .ok (.isub, 1) := by decide +kernel
theorem dX5_count_93 : decode cX5_count 93 = .ok (.iaload, 1) := by decide +kernel
theorem dX5_count_94 : decode cX5_count 94 = .ok (.goto 4, 3) := by decide +kernel
theorem dX5_count_97 : decode cX5_count 97 = .ok (.iconst (-1), 1) := by decide +kernel
theorem dX5_count_98 : decode cX5_count 98 = .ok (.ireturn, 1) := by decide +kernel
