theorem dX5_init_0 : decode cX5_init 0 = .ok (.aload_n 0, 1) := by decide +kernel
theorem dX5_init_1 : decode cX5_init 1 = .ok (.invokespecial 1, 3) := by decide +kernel
theorem dX5_init_4 : decode cX5_init 4 = .ok (.aload_n 0, 1) := by decide +kernel
theorem dX5_init_5 : decode cX5_init 5 = .ok (.sipush 4200, 3) := by decide +kernel
theorem dX5_init_8 : decode cX5_init 8 = .ok (.newarray .int, 2) := by decide +kernel
theorem dX5_init_10 : decode cX5_init 10 = .ok (.putfield 7, 3) := by decide +kernel
theorem dX5_init_13 : decode cX5_init 13 = .ok (.aload_n 0, 1) := by decide +kernel
theorem dX5_init_14 : decode cX5_init 14 = .ok (.sipush 4200, 3) := by decide +kernel
theorem dX5_init_17 : decode cX5_init 17 = .ok (.newarray .int, 2) := by decide +kernel
theorem dX5_init_19 : decode cX5_init 19 = .ok (.putfield 13, 3) := by decide +kernel
theorem dX5_init_22 : decode cX5_init 22 = .ok (.aload_n 0, 1) := by decide +kernel
theorem dX5_init_23 : decode cX5_init 23 = .ok (.sipush 4200, 3) := by decide +kernel
theorem dX5_init_26 : decode cX5_init 26 = .ok (.newarray .int, 2) := by decide +kernel
theorem dX5_init_28 : decode cX5_init 28 = .ok (.putfield 16, 3) := by decide +kernel
theorem dX5_init_31 : decode cX5_init 31 = .ok (.aload_n 0, 1) := by decide +kernel
theorem dX5_init_32 : decode cX5_init 32 = .ok (.sipush 4200, 3) := by decide +kernel
theorem dX5_init_35 : decode cX5_init 35 = .ok (.newarray .int, 2) := by decide +kernel
theorem dX5_init_37 : decode cX5_init 37 = .ok (.putfield 19, 3) := by decide +kernel
theorem dX5_init_40 : decode cX5_init 40 = .ok (.aload_n 0, 1) := by decide +kernel
theorem dX5_init_41 : decode cX5_init 41 = .ok (.sipush 4200, 3) := by decide +kernel
theorem dX5_init_44 : decode cX5_init 44 = .ok (.newarray .int, 2) := by decide +kernel
theorem dX5_init_46 : decode cX5_init 46 = .ok (.putfield 22, 3) := by decide +kernel
theorem dX5_init_49 : decode cX5_init 49 = .ok (.aload_n 0, 1) := by decide +kernel
theorem dX5_init_50 : decode cX5_init 50 = .ok (.sipush 4200, 3) := by decide +kernel
theorem dX5_init_53 : decode cX5_init 53 = .ok (.newarray .int, 2) := by decide +kernel
theorem dX5_init_55 : decode cX5_init 55 = .ok (.putfield 25, 3) := by decide +kernel
theorem dX5_init_58 : decode cX5_init 58 = .ok (.aload_n 0, 1) := by decide +kernel
theorem dX5_init_59 : decode cX5_init 59 = .ok (.bipush 8, 2) := by decide +kernel
theorem dX5_init_61 : decode cX5_init 61 = .ok (.newarray .int, 2) := by decide +kernel
theorem dX5_init_63 : decode cX5_init 63 = .ok (.dup, 1) := by decide +kernel
theorem dX5_init_64 : decode cX5_init 64 = .ok (.iconst 0, 1) := by decide +kernel
theorem dX5_init_65 : decode cX5_init 65 = .ok (.iconst (-1), 1) := by decide +kernel
theorem dX5_init_66 : decode cX5_init 66 = .ok (.iastore, 1) := by decide +kernel
theorem dX5_init_67 : decode cX5_init 67 = .ok (.dup, 1) := by decide +kernel
theorem dX5_init_68 : decode cX5_init 68 = .ok (.iconst 1, 1) := by decide +kernel
theorem dX5_init_69 : decode cX5_init 69 = .ok (.iconst (-1), 1) := by decide +kernel
theorem dX5_init_70 : decode cX5_init 70 = .ok (.iastore, 1) := by decide +kernel
theorem dX5_init_71 : decode cX5_init 71 = .ok (.dup, 1) := by decide +kernel
theorem dX5_init_72 : decode cX5_init 72 = .ok (.iconst 2, 1) := by decide +kernel
theorem dX5_init_73 : decode cX5_init 73 = .ok (.iconst (-1), 1) := by decide +kernel
theorem dX5_init_74 : decode cX5_init 74 = .ok (.iastore, 1) := by decide +kernel
theorem dX5_init_75 : decode cX5_init 75 = .ok (.dup, 1) := by decide +kernel
theorem dX5_init_76 : decode cX5_init 76 = .ok (.iconst 3, 1) := by decide +kernel
theorem dX5_init_77 : decode cX5_init 77 = .ok (.iconst (-1), 1) := by decide +kernel
theorem dX5_init_78 : decode cX5_init 78 = .ok (.iastore, 1) := by decide +kernel
theorem dX5_init_79 : decode cX5_init 79 = .ok (.dup, 1) := by decide +kernel
theorem dX5_init_80 : decode cX5_init 80 = .ok (.iconst 4, 1) := by decide +kernel
theorem dX5_init_81 : decode cX5_init 81 = .ok (.iconst (-1), 1) := by decide +kernel
theorem dX5_init_82 : decode cX5_init 82 = .ok (.iastore, 1) := by decide +kernel
theorem dX5_init_83 : decode cX5_init 83 = .ok (.dup, 1) := by decide +kernel
theorem dX5_init_84 : decode cX5_init 84 = .ok (.iconst 5, 1) := by decide +kernel
theorem dX5_init_85 : decode cX5_init 85 = .ok (.iconst (-1), 1) := by decide +kernel
theorem dX5_init_86 : decode cX5_init 86 = .ok (.iastore, 1) := by decide +kernel
theorem dX5_init_87 : decode cX5_init 87 = .ok (.dup, 1) := by decide +kernel
theorem dX5_init_88 : decode cX5_init 88 = .ok (.bipush 6, 2) := by decide +kernel
theorem dX5_init_90 : decode cX5_init 90 = .ok (.iconst (-1), 1) := by decide +kernel
theorem dX5_init_91 : decode cX5_init 91 = .ok (.iastore, 1) := by decide +kernel
theorem dX5_init_92 : decode cX5_init 92 = .ok (.dup, 1) := by decide +kernel
theorem dX5_init_93 : decode cX5_init 93 = .ok (.bipush 7, 2) := by decide +kernel
theorem dX5_init_95 : decode cX5_init 95 = .ok (.iconst (-1), 1) := by decide +kernel
theorem dX5_init_96 : decode cX5_init 96 = .ok (.iastore, 1) := by decide +kernel
theorem dX5_init_97 : decode cX5_init 97 = .ok (.putfield 28, 3) := by decide +kernel
theorem dX5_init_100 : decode cX5_init 100 = .ok (.aload_n 0, 1) := by decide +kernel
theorem dX5_init_101 : decode cX5_init 101 = .ok (.bipush 6, 2) := by decide +kernel
theorem dX5_init_103 : decode cX5_init 103 = .ok (.newarray .int, 2) := by decide +kernel
theorem dX5_init_105 : decode cX5_init 105 = .ok (.putfield 31, 3) := by decide +kernel
theorem dX5_init_108 : decode cX5_init 108 = .ok (.aload_n 0, 1) := by decide +kernel
theorem dX5_init_109 : decode cX5_init 109 = .ok (.bipush 72, 2) := by decide +kernel
theorem dX5_init_111 : decode cX5_init 111 = .ok (.newarray .int, 2) := by decide +kernel
theorem dX5_init_113 : decode cX5_init 113 = .ok (.putfield 34, 3) := by decide +kernel
theorem dX5_init_116 : decode cX5_init 116 = .ok (.aload_n 0, 1) := by decide +kernel
theorem dX5_init_117 : decode cX5_init 117 = .ok (.bipush 72, 2) := by decide +kernel
theorem dX5_init_119 : decode cX5_init 119 = .ok (.newarray .int, 2) := by decide +kernel
theorem dX5_init_121 : decode cX5_init 121 = .ok (.putfield 37, 3) := by decide +kernel
theorem dX5_init_124 : decode cX5_init 124 = .ok (.aload_n 0, 1) := by decide +kernel
theorem dX5_init_125 : decode cX5_init 125 = .ok (.bipush 72, 2) := by decide +kernel
theorem dX5_init_127 : decode cX5_init 127 = .ok (.newarray .int, 2) := by decide +kernel
theorem dX5_init_129 : decode cX5_init 129 = .ok (.putfield 40, 3) := by decide +kernel
theorem dX5_init_132 : decode cX5_init 132 = .ok (.aload_n 0, 1) := by decide +kernel
theorem dX5_init_133 : decode cX5_init 133 = .ok (.bipush 120, 2) := by decide +kernel
theorem dX5_init_135 : decode cX5_init 135 = .ok (.newarray .int, 2) := by decide +kernel
theorem dX5_init_137 : decode cX5_init 137 = .ok (.putfield 43, 3) := by decide +kernel
theorem dX5_init_140 : decode cX5_init 140 = .ok (.aload_n 0, 1) := by decide +kernel
theorem dX5_init_141 : decode cX5_init 141 = .ok (.bipush 80, 2) := by decide +kernel
theorem dX5_init_143 : decode cX5_init 143 = .ok (.newarray .int, 2) := by decide +kernel
theorem dX5_init_145 : decode cX5_init 145 = .ok (.putfield 46, 3) := by decide +kernel
theorem dX5_init_148 : decode cX5_init 148 = .ok (.aload_n 0, 1) := by decide +kernel
theorem dX5_init_149 : decode cX5_init 149 = .ok (.bipush 80, 2) := by decide +kernel
theorem dX5_init_151 : decode cX5_init 151 = .ok (.newarray .int, 2) := by decide +kernel
theorem dX5_init_153 : decode cX5_init 153 = .ok (.putfield 49, 3) := by decide +kernel
theorem dX5_init_156 : decode cX5_init 156 = .ok (.aload_n 0, 1) := by decide +kernel
theorem dX5_init_157 : decode cX5_init 157 = .ok (.bipush 80, 2) := by decide +kernel
theorem dX5_init_159 : decode cX5_init 159 = .ok (.newarray .int, 2) := by decide +kernel
theorem dX5_init_161 : decode cX5_init 161 = .ok (.putfield 52, 3) := by decide +kernel
theorem dX5_init_164 : decode cX5_init 164 = .ok (.aload_n 0, 1) := by decide +kernel
theorem dX5_init_165 : decode cX5_init 165 = .ok (.bipush 80, 2) := by decide +kernel
theorem dX5_init_167 : decode cX5_init 167 = .ok (.newarray .int, 2) := by decide +kernel
theorem dX5_init_169 : decode cX5_init 169 = .ok (.putfield 55, 3) := by decide +kernel
theorem dX5_init_172 : decode cX5_init 172 = .ok (.aload_n 0, 1) := by decide +kernel
theorem dX5_init_173 : decode cX5_init 173 = .ok (.bipush 80, 2) := by decide +kernel
theorem dX5_init_175 : decode cX5_init 175 = .ok (.newarray .int, 2) := by decide +kernel
theorem dX5_init_177 : decode cX5_init 177 = .ok (.putfield 58, 3) := by decide +kernel
theorem dX5_init_180 : decode cX5_init 180 = .ok (.return_, 1) := by decide +kernel
theorem dX5_in_0 : decode cX5_in 0 = .ok (.iload_n 0, 1) := by decide +kernel
theorem dX5_in_1 : decode cX5_in 1 = .ok (.iload_n 1, 1) := by decide +kernel
theorem dX5_in_2 : decode cX5_in 2 = .ok (.if_icmp .lt 12, 3) := by decide +kernel
theorem dX5_in_5 : decode cX5_in 5 = .ok (.iload_n 0, 1) := by decide +kernel
theorem dX5_in_6 : decode cX5_in 6 = .ok (.iload_n 2, 1) := by decide +kernel
theorem dX5_in_7 : decode cX5_in 7 = .ok (.if_icmp .gt 7, 3) := by decide +kernel
theorem dX5_in_10 : decode cX5_in 10 = .ok (.iconst 1, 1) := by decide +kernel
theorem dX5_in_11 : decode cX5_in 11 = .ok (.goto 4, 3) := by decide +kernel
theorem dX5_in_14 : decode cX5_in 14 = .ok (.iconst 0, 1) := by decide +kernel
theorem dX5_in_15 : decode cX5_in 15 = .ok (.ireturn, 1) := by decide +kernel
theorem dX5_safe_0 : decode cX5_safe 0 = .ok (.iload_n 1, 1) := by decide +kernel
theorem dX5_safe_1 : decode cX5_safe 1 = .ok (.iconst 0, 1) := by decide +kernel
theorem dX5_safe_2 : decode cX5_safe 2 = .ok (.bipush 7, 2) := by decide +kernel
theorem dX5_safe_4 : decode cX5_safe 4 = .ok (.invokestatic 61, 3) := by decide +kernel
theorem dX5_safe_7 : decode cX5_safe 7 = .ok (.ifCond .eq 22, 3) := by decide +kernel
theorem dX5_safe_10 : decode cX5_safe 10 = .ok (.iload_n 2, 1) := by decide +kernel
theorem dX5_safe_11 : decode cX5_safe 11 = .ok (.iconst 0, 1) := by decide +kernel
theorem dX5_safe_12 : decode cX5_safe 12 = .ok (.iconst 2, 1) := by decide +kernel
theorem dX5_safe_13 : decode cX5_safe 13 = .ok (.invokestatic 61, 3) := by decide +kernel
theorem dX5_safe_16 : decode cX5_safe 16 = .ok (.ifCond .eq 13, 3) := by decide +kernel
theorem dX5_safe_19 : decode cX5_safe 19 = .ok (.iload_n 3, 1) := by decide +kernel
theorem dX5_safe_20 : decode cX5_safe 20 = .ok (.iconst 0, 1) := by decide +kernel
theorem dX5_safe_21 : decode cX5_safe 21 = .ok (.ldc 65, 2) := by decide +kernel
theorem dX5_safe_23 : decode cX5_safe 23 = .ok (.invokestatic 61, 3) := by decide +kernel
theorem dX5_safe_26 : decode cX5_safe 26 = .ok (.ifCond .ne 5, 3) := by decide +kernel
theorem dX5_safe_29 : decode cX5_safe 29 = .ok (.iconst (-1), 1) := by decide +kernel
theorem dX5_safe_30 : decode cX5_safe 30 = .ok (.ireturn, 1) := by decide +kernel
theorem dX5_safe_31 : decode cX5_safe 31 = .ok (.aload_n 0, 1) := by decide +kernel
theorem dX5_safe_32 : decode cX5_safe 32 = .ok (.getfield 7, 3) := by decide +kernel
theorem dX5_safe_35 : decode cX5_safe 35 = .ok (.aload_n 0, 1) := by decide +kernel
theorem dX5_safe_36 : decode cX5_safe 36 = .ok (.getfield 66, 3) := by decide +kernel
theorem dX5_safe_39 : decode cX5_safe 39 = .ok (.iload_n 2, 1) := by decide +kernel
theorem dX5_safe_40 : decode cX5_safe 40 = .ok (.iastore, 1) := by decide +kernel
theorem dX5_safe_41 : decode cX5_safe 41 = .ok (.aload_n 0, 1) := by decide +kernel
theorem dX5_safe_42 : decode cX5_safe 42 = .ok (.getfield 13, 3) := by decide +kernel
theorem dX5_safe_45 : decode cX5_safe 45 = .ok (.aload_n 0, 1) := by decide +kernel
theorem dX5_safe_46 : decode cX5_safe 46 = .ok (.getfield 66, 3) := by decide +kernel
theorem dX5_safe_49 : decode cX5_safe 49 = .ok (.iload_n 3, 1) := by decide +kernel
theorem dX5_safe_50 : decode cX5_safe 50 = .ok (.iastore, 1) := by decide +kernel
theorem dX5_safe_51 : decode cX5_safe 51 = .ok (.aload_n 0, 1) := by decide +kernel
theorem dX5_safe_52 : decode cX5_safe 52 = .ok (.getfield 28, 3) := by decide +kernel
theorem dX5_safe_55 : decode cX5_safe 55 = .ok (.iload_n 1, 1) := by decide +kernel
theorem dX5_safe_56 : decode cX5_safe 56 = .ok (.aload_n 0, 1) := by decide +kernel
theorem dX5_safe_57 : decode cX5_safe 57 = .ok (.getfield 66, 3) := by decide +kernel
theorem dX5_safe_60 : decode cX5_safe 60 = .ok (.iastore, 1) := by decide +kernel
theorem dX5_safe_61 : decode cX5_safe 61 = .ok (.aload_n 0, 1) := by decide +kernel
theorem dX5_safe_62 : decode cX5_safe 62 = .ok (.dup, 1) := by decide +kernel
theorem dX5_safe_63 : decode cX5_safe 63 = .ok (.getfield 66, 3) := by decide +kernel
theorem dX5_safe_66 : decode cX5_safe 66 = .ok (.iconst 1, 1) := by decide +kernel
theorem dX5_safe_67 : decode cX5_safe 67 = .ok (.iadd, 1) := by decide +kernel
theorem dX5_safe_68 : decode cX5_safe 68 = .ok (.putfield 66, 3) := by decide +kernel
theorem dX5_safe_71 : decode cX5_safe 71 = .ok (.iconst 1, 1) := by decide +kernel
theorem dX5_safe_72 : decode cX5_safe 72 = .ok (.ireturn, 1) := by decide +kernel
theorem dX5_share_0 : decode cX5_share 0 = .ok (.iload_n 1, 1) := by decide +kernel
theorem dX5_share_1 : decode cX5_share 1 = .ok (.iconst 0, 1) := by decide +kernel
theorem dX5_share_2 : decode cX5_share 2 = .ok (.bipush 7, 2) := by decide +kernel
theorem dX5_share_4 : decode cX5_share 4 = .ok (.invokestatic 61, 3) := by decide +kernel
theorem dX5_share_7 : decode cX5_share 7 = .ok (.ifCond .eq 13, 3) := by decide +kernel
theorem dX5_share_10 : decode cX5_share 10 = .ok (.iload_n 2, 1) := by decide +kernel
theorem dX5_share_11 : decode cX5_share 11 = .ok (.iconst 0, 1) := by decide +kernel
theorem dX5_share_12 : decode cX5_share 12 = .ok (.bipush 7, 2) := by decide +kernel
theorem dX5_share_14 : decode cX5_share 14 = .ok (.invokestatic 61, 3) := by decide +kernel
theorem dX5_share_17 : decode cX5_share 17 = .ok (.ifCond .ne 5, 3) := by decide +kernel
theorem dX5_share_20 : decode cX5_share 20 = .ok (.iconst (-1), 1) := by decide +kernel
theorem dX5_share_21 : decode cX5_share 21 = .ok (.ireturn, 1) := by decide +kernel
theorem dX5_share_22 : decode cX5_share 22 = .ok (.aload_n 0, 1) := by decide +kernel
theorem dX5_share_23 : decode cX5_share 23 = .ok (.getfield 28, 3) := by decide +kernel
theorem dX5_share_26 : decode cX5_share 26 = .ok (.iload_n 2, 1) := by decide +kernel
theorem dX5_share_27 : decode cX5_share 27 = .ok (.aload_n 0, 1) := by decide +kernel
theorem dX5_share_28 : decode cX5_share 28 = .ok (.getfield 28, 3) := by decide +kernel
theorem dX5_share_31 : decode cX5_share 31 = .ok (.iload_n 1, 1) := by decide +kernel
theorem dX5_share_32 : decode cX5_share 32 = .ok (.iaload, 1) := by decide +kernel
theorem dX5_share_33 : decode cX5_share 33 = .ok (.iastore, 1) := by decide +kernel
theorem dX5_share_34 : decode cX5_share 34 = .ok (.aload_n 0, 1) := by decide +kernel
theorem dX5_share_35 : decode cX5_share 35 = .ok (.getfield 28, 3) := by decide +kernel
theorem dX5_share_38 : decode cX5_share 38 = .ok (.iload_n 2, 1) := by decide +kernel
theorem dX5_share_39 : decode cX5_share 39 = .ok (.iaload, 1) := by decide +kernel
theorem dX5_share_40 : decode cX5_share 40 = .ok (.iconst (-1), 1) := by decide +kernel
theorem dX5_share_41 : decode cX5_share 41 = .ok (.if_icmp .ne 7, 3) := by decide +kernel
theorem dX5_share_44 : decode cX5_share 44 = .ok (.iconst 0, 1) := by decide +kernel
theorem dX5_share_45 : decode cX5_share 45 = .ok (.goto 4, 3) := by decide +kernel
theorem dX5_share_48 : decode cX5_share 48 = .ok (.iconst 1, 1) := by decide +kernel
theorem dX5_share_49 : decode cX5_share 49 = .ok (.ireturn, 1) := by decide +kernel
theorem dX5_same_0 : decode cX5_same 0 = .ok (.iload_n 1, 1) := by decide +kernel
theorem dX5_same_1 : decode cX5_same 1 = .ok (.iconst 0, 1) := by decide +kernel
theorem dX5_same_2 : decode cX5_same 2 = .ok (.bipush 7, 2) := by decide +kernel
theorem dX5_same_4 : decode cX5_same 4 = .ok (.invokestatic 61, 3) := by decide +kernel
theorem dX5_same_7 : decode cX5_same 7 = .ok (.ifCond .eq 13, 3) := by decide +kernel
theorem dX5_same_10 : decode cX5_same 10 = .ok (.iload_n 2, 1) := by decide +kernel
theorem dX5_same_11 : decode cX5_same 11 = .ok (.iconst 0, 1) := by decide +kernel
theorem dX5_same_12 : decode cX5_same 12 = .ok (.bipush 7, 2) := by decide +kernel
theorem dX5_same_14 : decode cX5_same 14 = .ok (.invokestatic 61, 3) := by decide +kernel
theorem dX5_same_17 : decode cX5_same 17 = .ok (.ifCond .ne 7, 3) := by decide +kernel
theorem dX5_same_20 : decode cX5_same 20 = .ok (.iconst (-1), 1) := by decide +kernel
theorem dX5_same_21 : decode cX5_same 21 = .ok (.goto 23, 3) := by decide +kernel
theorem dX5_same_24 : decode cX5_same 24 = .ok (.aload_n 0, 1) := by decide +kernel
theorem dX5_same_25 : decode cX5_same 25 = .ok (.getfield 28, 3) := by decide +kernel
theorem dX5_same_28 : decode cX5_same 28 = .ok (.iload_n 1, 1) := by decide +kernel
theorem dX5_same_29 : decode cX5_same 29 = .ok (.iaload, 1) := by decide +kernel
theorem dX5_same_30 : decode cX5_same 30 = .ok (.aload_n 0, 1) := by decide +kernel
theorem dX5_same_31 : decode cX5_same 31 = .ok (.getfield 28, 3) := by decide +kernel
theorem dX5_same_34 : decode cX5_same 34 = .ok (.iload_n 2, 1) := by decide +kernel
theorem dX5_same_35 : decode cX5_same 35 = .ok (.iaload, 1) := by decide +kernel
theorem dX5_same_36 : decode cX5_same 36 = .ok (.if_icmp .ne 7, 3) := by decide +kernel
theorem dX5_same_39 : decode cX5_same 39 = .ok (.iconst 1, 1) := by decide +kernel
theorem dX5_same_40 : decode cX5_same 40 = .ok (.goto 4, 3) := by decide +kernel
theorem dX5_same_43 : decode cX5_same 43 = .ok (.iconst 0, 1) := by decide +kernel
theorem dX5_same_44 : decode cX5_same 44 = .ok (.ireturn, 1) := by decide +kernel
theorem dX5_enter_0 : decode cX5_enter 0 = .ok (.aload_n 0, 1) := by decide +kernel
theorem dX5_enter_1 : decode cX5_enter 1 = .ok (.getfield 22, 3) := by decide +kernel
theorem dX5_enter_4 : decode cX5_enter 4 = .ok (.iload_n 1, 1) := by decide +kernel
theorem dX5_enter_5 : decode cX5_enter 5 = .ok (.dup2, 1) := by decide +kernel
theorem dX5_enter_6 : decode cX5_enter 6 = .ok (.iaload, 1) := by decide +kernel
theorem dX5_enter_7 : decode cX5_enter 7 = .ok (.iconst 1, 1) := by decide +kernel
theorem dX5_enter_8 : decode cX5_enter 8 = .ok (.iadd, 1) := by decide +kernel
theorem dX5_enter_9 : decode cX5_enter 9 = .ok (.iastore, 1) := by decide +kernel
theorem dX5_enter_10 : decode cX5_enter 10 = .ok (.aload_n 0, 1) := by decide +kernel
theorem dX5_enter_11 : decode cX5_enter 11 = .ok (.getfield 19, 3) := by decide +kernel
theorem dX5_enter_14 : decode cX5_enter 14 = .ok (.iload_n 1, 1) := by decide +kernel
theorem dX5_enter_15 : decode cX5_enter 15 = .ok (.dup2, 1) := by decide +kernel
theorem dX5_enter_16 : decode cX5_enter 16 = .ok (.iaload, 1) := by decide +kernel
theorem dX5_enter_17 : decode cX5_enter 17 = .ok (.iconst 1, 1) := by decide +kernel
theorem dX5_enter_18 : decode cX5_enter 18 = .ok (.iadd, 1) := by decide +kernel
theorem dX5_enter_19 : decode cX5_enter 19 = .ok (.iastore, 1) := by decide +kernel
theorem dX5_enter_20 : decode cX5_enter 20 = .ok (.aload_n 0, 1) := by decide +kernel
theorem dX5_enter_21 : decode cX5_enter 21 = .ok (.getfield 25, 3) := by decide +kernel
theorem dX5_enter_24 : decode cX5_enter 24 = .ok (.iload_n 1, 1) := by decide +kernel
theorem dX5_enter_25 : decode cX5_enter 25 = .ok (.aload_n 0, 1) := by decide +kernel
theorem dX5_enter_26 : decode cX5_enter 26 = .ok (.getfield 22, 3) := by decide +kernel
theorem dX5_enter_29 : decode cX5_enter 29 = .ok (.iload_n 1, 1) := by decide +kernel
theorem dX5_enter_30 : decode cX5_enter 30 = .ok (.iaload, 1) := by decide +kernel
theorem dX5_enter_31 : decode cX5_enter 31 = .ok (.aload_n 0, 1) := by decide +kernel
theorem dX5_enter_32 : decode cX5_enter 32 = .ok (.getfield 25, 3) := by decide +kernel
theorem dX5_enter_35 : decode cX5_enter 35 = .ok (.iload_n 1, 1) := by decide +kernel
theorem dX5_enter_36 : decode cX5_enter 36 = .ok (.iaload, 1) := by decide +kernel
theorem dX5_enter_37 : decode cX5_enter 37 = .ok (.if_icmp .le 12, 3) := by decide +kernel
theorem dX5_enter_40 : decode cX5_enter 40 = .ok (.aload_n 0, 1) := by decide +kernel
theorem dX5_enter_41 : decode cX5_enter 41 = .ok (.getfield 22, 3) := by decide +kernel
theorem dX5_enter_44 : decode cX5_enter 44 = .ok (.iload_n 1, 1) := by decide +kernel
theorem dX5_enter_45 : decode cX5_enter 45 = .ok (.iaload, 1) := by decide +kernel
theorem dX5_enter_46 : decode cX5_enter 46 = .ok (.goto 9, 3) := by decide +kernel
theorem dX5_enter_49 : decode cX5_enter 49 = .ok (.aload_n 0, 1) := by decide +kernel
theorem dX5_enter_50 : decode cX5_enter 50 = .ok (.getfield 25, 3) := by decide +kernel
theorem dX5_enter_53 : decode cX5_enter 53 = .ok (.iload_n 1, 1) := by decide +kernel
theorem dX5_enter_54 : decode cX5_enter 54 = .ok (.iaload, 1) := by decide +kernel
theorem dX5_enter_55 : decode cX5_enter 55 = .ok (.iastore, 1) := by decide +kernel
theorem dX5_enter_56 : decode cX5_enter 56 = .ok (.return_, 1) := by decide +kernel
theorem dX5_putPlain_0 : decode cX5_putPlain 0 = .ok (.aload_n 0, 1) := by decide +kernel
theorem dX5_putPlain_1 : decode cX5_putPlain 1 = .ok (.iload_n 1, 1) := by decide +kernel
theorem dX5_putPlain_2 : decode cX5_putPlain 2 = .ok (.invokevirtual 70, 3) := by decide +kernel
theorem dX5_putPlain_5 : decode cX5_putPlain 5 = .ok (.aload_n 0, 1) := by decide +kernel
theorem dX5_putPlain_6 : decode cX5_putPlain 6 = .ok (.getfield 13, 3) := by decide +kernel
theorem dX5_putPlain_9 : decode cX5_putPlain 9 = .ok (.iload_n 1, 1) := by decide +kernel
theorem dX5_putPlain_10 : decode cX5_putPlain 10 = .ok (.iaload, 1) := by decide +kernel
theorem dX5_putPlain_11 : decode cX5_putPlain 11 = .ok (.i2l, 1) := by decide +kernel
theorem dX5_putPlain_12 : decode cX5_putPlain 12 = .ok (.iload_n 2, 1) := by decide +kernel
theorem dX5_putPlain_13 : decode cX5_putPlain 13 = .ok (.i2l, 1) := by decide +kernel
theorem dX5_putPlain_14 : decode cX5_putPlain 14 = .ok (.ladd, 1) := by decide +kernel
theorem dX5_putPlain_15 : decode cX5_putPlain 15 = .ok (.lstore_n 3, 1) := by decide +kernel
theorem dX5_putPlain_16 : decode cX5_putPlain 16 = .ok (.lload_n 3, 1) := by decide +kernel
theorem dX5_putPlain_17 : decode cX5_putPlain 17 = .ok (.lconst 0, 1) := by decide +kernel
theorem dX5_putPlain_18 : decode cX5_putPlain 18 = .ok (.lcmp, 1) := by decide +kernel
theorem dX5_putPlain_19 : decode cX5_putPlain 19 = .ok (.ifCond .lt 15, 3) := by decide +kernel
theorem dX5_putPlain_22 : decode cX5_putPlain 22 = .ok (.lload_n 3, 1) := by decide +kernel
theorem dX5_putPlain_23 : decode cX5_putPlain 23 = .ok (.ldc2_w 74, 3) := by decide +kernel
theorem dX5_putPlain_26 : decode cX5_putPlain 26 = .ok (.lcmp, 1) := by decide +kernel
theorem dX5_putPlain_27 : decode cX5_putPlain 27 = .ok (.ifCond .gt 7, 3) := by decide +kernel
theorem dX5_putPlain_30 : decode cX5_putPlain 30 = .ok (.iconst 1, 1) := by decide +kernel
theorem dX5_putPlain_31 : decode cX5_putPlain 31 = .ok (.goto 4, 3) := by decide +kernel
theorem dX5_putPlain_34 : decode cX5_putPlain 34 = .ok (.iconst 0, 1) := by decide +kernel
theorem dX5_putPlain_35 : decode cX5_putPlain 35 = .ok (.istore 5, 2) := by decide +kernel
theorem dX5_putPlain_37 : decode cX5_putPlain 37 = .ok (.aload_n 0, 1) := by decide +kernel
theorem dX5_putPlain_38 : decode cX5_putPlain 38 = .ok (.getfield 13, 3) := by decide +kernel
theorem dX5_putPlain_41 : decode cX5_putPlain 41 = .ok (.iload_n 1, 1) := by decide +kernel
theorem dX5_putPlain_42 : decode cX5_putPlain 42 = .ok (.iload 5, 2) := by decide +kernel
theorem dX5_putPlain_44 : decode cX5_putPlain 44 = .ok (.ifCond .eq 8, 3) := by decide +kernel
theorem dX5_putPlain_47 : decode cX5_putPlain 47 = .ok (.lload_n 3, 1) := by decide +kernel
theorem dX5_putPlain_48 : decode cX5_putPlain 48 = .ok (.l2i, 1) := by decide +kernel
theorem dX5_putPlain_49 : decode cX5_putPlain 49 = .ok (.goto 9, 3) := by decide +kernel
theorem dX5_putPlain_52 : decode cX5_putPlain 52 = .ok (.aload_n 0, 1) := by decide +kernel
theorem dX5_putPlain_53 : decode cX5_putPlain 53 = .ok (.getfield 13, 3) := by decide +kernel
theorem dX5_putPlain_56 : decode cX5_putPlain 56 = .ok (.iload_n 1, 1) := by decide +kernel
theorem dX5_putPlain_57 : decode cX5_putPlain 57 = .ok (.iaload, 1) := by decide +kernel
theorem dX5_putPlain_58 : decode cX5_putPlain 58 = .ok (.iastore, 1) := by decide +kernel
theorem dX5_putPlain_59 : decode cX5_putPlain 59 = .ok (.aload_n 0, 1) := by decide +kernel
theorem dX5_putPlain_60 : decode cX5_putPlain 60 = .ok (.getfield 22, 3) := by decide +kernel
theorem dX5_putPlain_63 : decode cX5_putPlain 63 = .ok (.iload_n 1, 1) := by decide +kernel
theorem dX5_putPlain_64 : decode cX5_putPlain 64 = .ok (.dup2, 1) := by decide +kernel
theorem dX5_putPlain_65 : decode cX5_putPlain 65 = .ok (.iaload, 1) := by decide +kernel
theorem dX5_putPlain_66 : decode cX5_putPlain 66 = .ok (.iconst 1, 1) := by decide +kernel
theorem dX5_putPlain_67 : decode cX5_putPlain 67 = .ok (.isub, 1) := by decide +kernel
theorem dX5_putPlain_68 : decode cX5_putPlain 68 = .ok (.iastore, 1) := by decide +kernel
theorem dX5_putPlain_69 : decode cX5_putPlain 69 = .ok (.iload 5, 2) := by decide +kernel
theorem dX5_putPlain_71 : decode cX5_putPlain 71 = .ok (.ireturn, 1) := by decide +kernel
theorem dX5_putTimed_0 : decode cX5_putTimed 0 = .ok (.aload_n 0, 1) := by decide +kernel
theorem dX5_putTimed_1 : decode cX5_putTimed 1 = .ok (.iload_n 1, 1) := by decide +kernel
theorem dX5_putTimed_2 : decode cX5_putTimed 2 = .ok (.invokevirtual 70, 3) := by decide +kernel
theorem dX5_putTimed_5 : decode cX5_putTimed 5 = .ok (.aload_n 0, 1) := by decide +kernel
theorem dX5_putTimed_6 : decode cX5_putTimed 6 = .ok (.getfield 16, 3) := by decide +kernel
theorem dX5_putTimed_9 : decode cX5_putTimed 9 = .ok (.iload_n 1, 1) := by decide +kernel
theorem dX5_putTimed_10 : decode cX5_putTimed 10 = .ok (.dup2, 1) := by decide +kernel
theorem dX5_putTimed_11 : decode cX5_putTimed 11 = .ok (.iaload, 1) := by decide +kernel
theorem dX5_putTimed_12 : decode cX5_putTimed 12 = .ok (.iconst 1, 1) := by decide +kernel
theorem dX5_putTimed_13 : decode cX5_putTimed 13 = .ok (.iadd, 1) := by decide +kernel
theorem dX5_putTimed_14 : decode cX5_putTimed 14 = .ok (.iastore, 1) := by decide +kernel
theorem dX5_putTimed_15 : decode cX5_putTimed 15 = .ok (.aload_n 0, 1) := by decide +kernel
theorem dX5_putTimed_16 : decode cX5_putTimed 16 = .ok (.iload_n 1, 1) := by decide +kernel
theorem dX5_putTimed_17 : decode cX5_putTimed 17 = .ok (.iload_n 2, 1) := by decide +kernel
theorem dX5_putTimed_18 : decode cX5_putTimed 18 = .ok (.invokevirtual 76, 3) := by decide +kernel
theorem dX5_putTimed_21 : decode cX5_putTimed 21 = .ok (.istore_n 3, 1) := by decide +kernel
theorem dX5_putTimed_22 : decode cX5_putTimed 22 = .ok (.aload_n 0, 1) := by decide +kernel
theorem dX5_putTimed_23 : decode cX5_putTimed 23 = .ok (.getfield 22, 3) := by decide +kernel
theorem dX5_putTimed_26 : decode cX5_putTimed 26 = .ok (.iload_n 1, 1) := by decide +kernel
theorem dX5_putTimed_27 : decode cX5_putTimed 27 = .ok (.dup2, 1) := by decide +kernel
theorem dX5_putTimed_28 : decode cX5_putTimed 28 = .ok (.iaload, 1) := by decide +kernel
theorem dX5_putTimed_29 : decode cX5_putTimed 29 = .ok (.iconst 1, 1) := by decide +kernel
theorem dX5_putTimed_30 : decode cX5_putTimed 30 = .ok (.isub, 1) := by decide +kernel
theorem dX5_putTimed_31 : decode cX5_putTimed 31 = .ok (.iastore, 1) := by decide +kernel
theorem dX5_putTimed_32 : decode cX5_putTimed 32 = .ok (.iload_n 3, 1) := by decide +kernel
theorem dX5_putTimed_33 : decode cX5_putTimed 33 = .ok (.ireturn, 1) := by decide +kernel
theorem dX5_put_0 : decode cX5_put 0 = .ok (.aload_n 0, 1) := by decide +kernel
theorem dX5_put_1 : decode cX5_put 1 = .ok (.getfield 7, 3) := by decide +kernel
theorem dX5_put_4 : decode cX5_put 4 = .ok (.iload_n 1, 1) := by decide +kernel
theorem dX5_put_5 : decode cX5_put 5 = .ok (.iaload, 1) := by decide +kernel
theorem dX5_put_6 : decode cX5_put 6 = .ok (.ifCond .ne 10, 3) := by decide +kernel
theorem dX5_put_9 : decode cX5_put 9 = .ok (.aload_n 0, 1) := by decide +kernel
theorem dX5_put_10 : decode cX5_put 10 = .ok (.iload_n 1, 1) := by decide +kernel
theorem dX5_put_11 : decode cX5_put 11 = .ok (.iload_n 2, 1) := by decide +kernel
theorem dX5_put_12 : decode cX5_put 12 = .ok (.invokevirtual 76, 3) := by decide +kernel
theorem dX5_put_15 : decode cX5_put 15 = .ok (.ireturn, 1) := by decide +kernel
theorem dX5_put_16 : decode cX5_put 16 = .ok (.aload_n 0, 1) := by decide +kernel
theorem dX5_put_17 : decode cX5_put 17 = .ok (.getfield 7, 3) := by decide +kernel
theorem dX5_put_20 : decode cX5_put 20 = .ok (.iload_n 1, 1) := by decide +kernel
theorem dX5_put_21 : decode cX5_put 21 = .ok (.iaload, 1) := by decide +kernel
theorem dX5_put_22 : decode cX5_put 22 = .ok (.iconst 1, 1) := by decide +kernel
theorem dX5_put_23 : decode cX5_put 23 = .ok (.if_icmp .ne 10, 3) := by decide +kernel
theorem dX5_put_26 : decode cX5_put 26 = .ok (.aload_n 0, 1) := by decide +kernel
theorem dX5_put_27 : decode cX5_put 27 = .ok (.iload_n 1, 1) := by decide +kernel
theorem dX5_put_28 : decode cX5_put 28 = .ok (.iload_n 2, 1) := by decide +kernel
theorem dX5_put_29 : decode cX5_put 29 = .ok (.invokevirtual 80, 3) := by decide +kernel
theorem dX5_put_32 : decode cX5_put 32 = .ok (.ireturn, 1) := by decide +kernel
theorem dX5_put_33 : decode cX5_put 33 = .ok (.aload_n 0, 1) := by decide +kernel
theorem dX5_put_34 : decode cX5_put 34 = .ok (.iload_n 1, 1) := by decide +kernel
theorem dX5_put_35 : decode cX5_put 35 = .ok (.invokevirtual 70, 3) := by decide +kernel
theorem dX5_put_38 : decode cX5_put 38 = .ok (.aload_n 0, 1) := by decide +kernel
theorem dX5_put_39 : decode cX5_put 39 = .ok (.iload_n 1, 1) := by decide +kernel
theorem dX5_put_40 : decode cX5_put 40 = .ok (.iload_n 2, 1) := by decide +kernel
theorem dX5_put_41 : decode cX5_put 41 = .ok (.invokevirtual 80, 3) := by decide +kernel
theorem dX5_put_44 : decode cX5_put 44 = .ok (.ifCond .eq 16, 3) := by decide +kernel
theorem dX5_put_47 : decode cX5_put 47 = .ok (.aload_n 0, 1) := by decide +kernel
theorem dX5_put_48 : decode cX5_put 48 = .ok (.iload_n 1, 1) := by decide +kernel
theorem dX5_put_49 : decode cX5_put 49 = .ok (.iload_n 2, 1) := by decide +kernel
theorem dX5_put_50 : decode cX5_put 50 = .ok (.invokevirtual 80, 3) := by decide +kernel
theorem dX5_put_53 : decode cX5_put 53 = .ok (.ifCond .eq 7, 3) := by decide +kernel
theorem dX5_put_56 : decode cX5_put 56 = .ok (.iconst 1, 1) := by decide +kernel
theorem dX5_put_57 : decode cX5_put 57 = .ok (.goto 4, 3) := by decide +kernel
theorem dX5_put_60 : decode cX5_put 60 = .ok (.iconst 0, 1) := by decide +kernel
theorem dX5_put_61 : decode cX5_put 61 = .ok (.istore_n 3, 1) := by decide +kernel
theorem dX5_put_62 : decode cX5_put 62 = .ok (.aload_n 0, 1) := by decide +kernel
theorem dX5_put_63 : decode cX5_put 63 = .ok (.getfield 22, 3) := by decide +kernel
theorem dX5_put_66 : decode cX5_put 66 = .ok (.iload_n 1, 1) := by decide +kernel
theorem dX5_put_67 : decode cX5_put 67 = .ok (.dup2, 1) := by decide +kernel
theorem dX5_put_68 : decode cX5_put 68 = .ok (.iaload, 1) := by decide +kernel
theorem dX5_put_69 : decode cX5_put 69 = .ok (.iconst 1, 1) := by decide +kernel
theorem dX5_put_70 : decode cX5_put 70 = .ok (.isub, 1) := by decide +kernel
theorem dX5_put_71 : decode cX5_put 71 = .ok (.iastore, 1) := by decide +kernel
theorem dX5_put_72 : decode cX5_put 72 = .ok (.iload_n 3, 1) := by decide +kernel
theorem dX5_put_73 : decode cX5_put 73 = .ok (.ireturn, 1) := by decide +kernel
theorem dX5_worth_0 : decode cX5_worth 0 = .ok (.iconst 0, 1) := by decide +kernel
theorem dX5_worth_1 : decode cX5_worth 1 = .ok (.istore_n 2, 1) := by decide +kernel
theorem dX5_worth_2 : decode cX5_worth 2 = .ok (.iload_n 2, 1) := by decide +kernel
theorem dX5_worth_3 : decode cX5_worth 3 = .ok (.aload_n 0, 1) := by decide +kernel
theorem dX5_worth_4 : decode cX5_worth 4 = .ok (.getfield 7, 3) := by decide +kernel
theorem dX5_worth_7 : decode cX5_worth 7 = .ok (.iload_n 1, 1) := by decide +kernel
theorem dX5_worth_8 : decode cX5_worth 8 = .ok (.iaload, 1) := by decide +kernel
theorem dX5_worth_9 : decode cX5_worth 9 = .ok (.if_icmp .gt 14, 3) := by decide +kernel
theorem dX5_worth_12 : decode cX5_worth 12 = .ok (.aload_n 0, 1) := by decide +kernel
theorem dX5_worth_13 : decode cX5_worth 13 = .ok (.iload_n 1, 1) := by decide +kernel
theorem dX5_worth_14 : decode cX5_worth 14 = .ok (.invokevirtual 70, 3) := by decide +kernel
theorem dX5_worth_17 : decode cX5_worth 17 = .ok (.iinc 2 1, 3) := by decide +kernel
theorem dX5_worth_20 : decode cX5_worth 20 = .ok (.goto (-18), 3) := by decide +kernel
theorem dX5_worth_23 : decode cX5_worth 23 = .ok (.aload_n 0, 1) := by decide +kernel
theorem dX5_worth_24 : decode cX5_worth 24 = .ok (.getfield 22, 3) := by decide +kernel
theorem dX5_worth_27 : decode cX5_worth 27 = .ok (.iload_n 1, 1) := by decide +kernel
theorem dX5_worth_28 : decode cX5_worth 28 = .ok (.dup2, 1) := by decide +kernel
theorem dX5_worth_29 : decode cX5_worth 29 = .ok (.iaload, 1) := by decide +kernel
theorem dX5_worth_30 : decode cX5_worth 30 = .ok (.aload_n 0, 1) := by decide +kernel
theorem dX5_worth_31 : decode cX5_worth 31 = .ok (.getfield 7, 3) := by decide +kernel
theorem dX5_worth_34 : decode cX5_worth 34 = .ok (.iload_n 1, 1) := by decide +kernel
theorem dX5_worth_35 : decode cX5_worth 35 = .ok (.iaload, 1) := by decide +kernel
theorem dX5_worth_36 : decode cX5_worth 36 = .ok (.iconst 1, 1) := by decide +kernel
theorem dX5_worth_37 : decode cX5_worth 37 = .ok (.iadd, 1) := by decide +kernel
theorem dX5_worth_38 : decode cX5_worth 38 = .ok (.isub, 1) := by decide +kernel
theorem dX5_worth_39 : decode cX5_worth 39 = .ok (.iastore, 1) := by decide +kernel
theorem dX5_worth_40 : decode cX5_worth 40 = .ok (.aload_n 0, 1) := by decide +kernel
theorem dX5_worth_41 : decode cX5_worth 41 = .ok (.getfield 7, 3) := by decide +kernel
theorem dX5_worth_44 : decode cX5_worth 44 = .ok (.iload_n 1, 1) := by decide +kernel
theorem dX5_worth_45 : decode cX5_worth 45 = .ok (.iaload, 1) := by decide +kernel
theorem dX5_worth_46 : decode cX5_worth 46 = .ok (.ifCond .le 19, 3) := by decide +kernel
theorem dX5_worth_49 : decode cX5_worth 49 = .ok (.aload_n 0, 1) := by decide +kernel
theorem dX5_worth_50 : decode cX5_worth 50 = .ok (.getfield 13, 3) := by decide +kernel
theorem dX5_worth_53 : decode cX5_worth 53 = .ok (.iload_n 1, 1) := by decide +kernel
theorem dX5_worth_54 : decode cX5_worth 54 = .ok (.iaload, 1) := by decide +kernel
theorem dX5_worth_55 : decode cX5_worth 55 = .ok (.aload_n 0, 1) := by decide +kernel
theorem dX5_worth_56 : decode cX5_worth 56 = .ok (.getfield 16, 3) := by decide +kernel
theorem dX5_worth_59 : decode cX5_worth 59 = .ok (.iload_n 1, 1) := by decide +kernel
theorem dX5_worth_60 : decode cX5_worth 60 = .ok (.iaload, 1) := by decide +kernel
theorem dX5_worth_61 : decode cX5_worth 61 = .ok (.iadd, 1) := by decide +kernel
theorem dX5_worth_62 : decode cX5_worth 62 = .ok (.goto 9, 3) := by decide +kernel
theorem dX5_worth_65 : decode cX5_worth 65 = .ok (.aload_n 0, 1) := by decide +kernel
theorem dX5_worth_66 : decode cX5_worth 66 = .ok (.getfield 13, 3) := by decide +kernel
theorem dX5_worth_69 : decode cX5_worth 69 = .ok (.iload_n 1, 1) := by decide +kernel
theorem dX5_worth_70 : decode cX5_worth 70 = .ok (.iaload, 1) := by decide +kernel
theorem dX5_worth_71 : decode cX5_worth 71 = .ok (.istore_n 2, 1) := by decide +kernel
theorem dX5_worth_72 : decode cX5_worth 72 = .ok (.aload_n 0, 1) := by decide +kernel
theorem dX5_worth_73 : decode cX5_worth 73 = .ok (.getfield 7, 3) := by decide +kernel
theorem dX5_worth_76 : decode cX5_worth 76 = .ok (.iload_n 1, 1) := by decide +kernel
theorem dX5_worth_77 : decode cX5_worth 77 = .ok (.iaload, 1) := by decide +kernel
theorem dX5_worth_78 : decode cX5_worth 78 = .ok (.iconst 2, 1) := by decide +kernel
theorem dX5_worth_79 : decode cX5_worth 79 = .ok (.if_icmp .ne 9, 3) := by decide +kernel
theorem dX5_worth_82 : decode cX5_worth 82 = .ok (.iconst 2, 1) := by decide +kernel
theorem dX5_worth_83 : decode cX5_worth 83 = .ok (.iload_n 2, 1) := by decide +kernel
theorem dX5_worth_84 : decode cX5_worth 84 = .ok (.imul, 1) := by decide +kernel
theorem dX5_worth_85 : decode cX5_worth 85 = .ok (.goto 4, 3) := by decide +kernel
theorem dX5_worth_88 : decode cX5_worth 88 = .ok (.iload_n 2, 1) := by decide +kernel
theorem dX5_worth_89 : decode cX5_worth 89 = .ok (.ireturn, 1) := by decide +kernel
theorem dX5_give_0 : decode cX5_give 0 = .ok (.aload_n 0, 1) := by decide +kernel
theorem dX5_give_1 : decode cX5_give 1 = .ok (.iload_n 1, 1) := by decide +kernel
theorem dX5_give_2 : decode cX5_give 2 = .ok (.invokevirtual 70, 3) := by decide +kernel
theorem dX5_give_5 : decode cX5_give 5 = .ok (.aload_n 0, 1) := by decide +kernel
theorem dX5_give_6 : decode cX5_give 6 = .ok (.iload_n 1, 1) := by decide +kernel
theorem dX5_give_7 : decode cX5_give 7 = .ok (.iload_n 3, 1) := by decide +kernel
theorem dX5_give_8 : decode cX5_give 8 = .ok (.ineg, 1) := by decide +kernel
theorem dX5_give_9 : decode cX5_give 9 = .ok (.invokevirtual 83, 3) := by decide +kernel
theorem dX5_give_12 : decode cX5_give 12 = .ok (.ifCond .eq 7, 3) := by decide +kernel
theorem dX5_give_15 : decode cX5_give 15 = .ok (.iconst 0, 1) := by decide +kernel
theorem dX5_give_16 : decode cX5_give 16 = .ok (.goto 5, 3) := by decide +kernel
theorem dX5_give_19 : decode cX5_give 19 = .ok (.bipush 30, 2) := by decide +kernel
theorem dX5_give_21 : decode cX5_give 21 = .ok (.istore 4, 2) := by decide +kernel
theorem dX5_give_23 : decode cX5_give 23 = .ok (.iload 4, 2) := by decide +kernel
theorem dX5_give_25 : decode cX5_give 25 = .ok (.ifCond .ne 42, 3) := by decide +kernel
theorem dX5_give_28 : decode cX5_give 28 = .ok (.iload_n 2, 1) := by decide +kernel
theorem dX5_give_29 : decode cX5_give 29 = .ok (.iconst (-1), 1) := by decide +kernel
theorem dX5_give_30 : decode cX5_give 30 = .ok (.if_icmp .ne 7, 3) := by decide +kernel
theorem dX5_give_33 : decode cX5_give 33 = .ok (.iconst 1, 1) := by decide +kernel
theorem dX5_give_34 : decode cX5_give 34 = .ok (.goto 18, 3) := by decide +kernel
theorem dX5_give_37 : decode cX5_give 37 = .ok (.aload_n 0, 1) := by decide +kernel
