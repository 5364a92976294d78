theorem dX4_roomsWithSafe_0 : decode cX4_roomsWithSafe 0 = .ok (.iconst 0, 1) := by decide +kernel
theorem dX4_roomsWithSafe_1 : decode cX4_roomsWithSafe 1 = .ok (.istore_n 1, 1) := by decide +kernel
theorem dX4_roomsWithSafe_2 : decode cX4_roomsWithSafe 2 = .ok (.iconst 0, 1) := by decide +kernel
theorem dX4_roomsWithSafe_3 : decode cX4_roomsWithSafe 3 = .ok (.istore_n 2, 1) := by decide +kernel
theorem dX4_roomsWithSafe_4 : decode cX4_roomsWithSafe 4 = .ok (.iload_n 2, 1) := by decide +kernel
theorem dX4_roomsWithSafe_5 : decode cX4_roomsWithSafe 5 = .ok (.bipush 8, 2) := by decide +kernel
theorem dX4_roomsWithSafe_7 : decode cX4_roomsWithSafe 7 = .ok (.if_icmp .ge 21, 3) := by decide +kernel
theorem dX4_roomsWithSafe_10 : decode cX4_roomsWithSafe 10 = .ok (.aload_n 0, 1) := by decide +kernel
theorem dX4_roomsWithSafe_11 : decode cX4_roomsWithSafe 11 = .ok (.getfield 11, 3) := by decide +kernel
theorem dX4_roomsWithSafe_14 : decode cX4_roomsWithSafe 14 = .ok (.iload_n 2, 1) := by decide +kernel
theorem dX4_roomsWithSafe_15 : decode cX4_roomsWithSafe 15 = .ok (.aaload, 1) := by decide +kernel
theorem dX4_roomsWithSafe_16 : decode cX4_roomsWithSafe 16 = .ok (.ifnull 6, 3) := by decide +kernel
theorem dX4_roomsWithSafe_19 : decode cX4_roomsWithSafe 19 = .ok (.iinc 1 1, 3) := by decide +kernel
theorem dX4_roomsWithSafe_22 : decode cX4_roomsWithSafe 22 = .ok (.iinc 2 1, 3) := by decide +kernel
theorem dX4_roomsWithSafe_25 : decode cX4_roomsWithSafe 25 = .ok (.goto (-21), 3) := by decide +kernel
theorem dX4_roomsWithSafe_28 : decode cX4_roomsWithSafe 28 = .ok (.iload_n 1, 1) := by decide +kernel
theorem dX4_roomsWithSafe_29 : decode cX4_roomsWithSafe 29 = .ok (.ireturn, 1) := by decide +kernel
theorem dX4_leaveInTrace_0 : decode cX4_leaveInTrace 0 = .ok (.aload_n 0, 1) := by decide +kernel
theorem dX4_leaveInTrace_1 : decode cX4_leaveInTrace 1 = .ok (.getfield 56, 3) := by decide +kernel
theorem dX4_leaveInTrace_4 : decode cX4_leaveInTrace 4 = .ok (.bipush 120, 2) := by decide +kernel
theorem dX4_leaveInTrace_6 : decode cX4_leaveInTrace 6 = .ok (.if_icmp .ge 23, 3) := by decide +kernel
theorem dX4_leaveInTrace_9 : decode cX4_leaveInTrace 9 = .ok (.aload_n 0, 1) := by decide +kernel
theorem dX4_leaveInTrace_10 : decode cX4_leaveInTrace 10 = .ok (.getfield 21, 3) := by decide +kernel
theorem dX4_leaveInTrace_13 : decode cX4_leaveInTrace 13 = .ok (.aload_n 0, 1) := by decide +kernel
theorem dX4_leaveInTrace_14 : decode cX4_leaveInTrace 14 = .ok (.getfield 56, 3) := by decide +kernel
theorem dX4_leaveInTrace_17 : decode cX4_leaveInTrace 17 = .ok (.iload_n 1, 1) := by decide +kernel
theorem dX4_leaveInTrace_18 : decode cX4_leaveInTrace 18 = .ok (.iastore, 1) := by decide +kernel
theorem dX4_leaveInTrace_19 : decode cX4_leaveInTrace 19 = .ok (.aload_n 0, 1) := by decide +kernel
theorem dX4_leaveInTrace_20 : decode cX4_leaveInTrace 20 = .ok (.dup, 1) := by decide +kernel
theorem dX4_leaveInTrace_21 : decode cX4_leaveInTrace 21 = .ok (.getfield 56, 3) := by decide +kernel
theorem dX4_leaveInTrace_24 : decode cX4_leaveInTrace 24 = .ok (.iconst 1, 1) := by decide +kernel
theorem dX4_leaveInTrace_25 : decode cX4_leaveInTrace 25 = .ok (.iadd, 1) := by decide +kernel
theorem dX4_leaveInTrace_26 : decode cX4_leaveInTrace 26 = .ok (.putfield 56, 3) := by decide +kernel
theorem dX4_leaveInTrace_29 : decode cX4_leaveInTrace 29 = .ok (.return_, 1) := by decide +kernel
theorem dX4_doPlan_0 : decode cX4_doPlan 0 = .ok (.aload_n 0, 1) := by decide +kernel
theorem dX4_doPlan_1 : decode cX4_doPlan 1 = .ok (.getfield 113, 3) := by decide +kernel
theorem dX4_doPlan_4 : decode cX4_doPlan 4 = .ok (.iconst 4, 1) := by decide +kernel
theorem dX4_doPlan_5 : decode cX4_doPlan 5 = .ok (.if_icmp .ge 10, 3) := by decide +kernel
theorem dX4_doPlan_8 : decode cX4_doPlan 8 = .ok (.iload_n 1, 1) := by decide +kernel
theorem dX4_doPlan_9 : decode cX4_doPlan 9 = .ok (.invokestatic 35, 3) := by decide +kernel
theorem dX4_doPlan_12 : decode cX4_doPlan 12 = .ok (.ifCond .ne 6, 3) := by decide +kernel
theorem dX4_doPlan_15 : decode cX4_doPlan 15 = .ok (.bipush 7, 2) := by decide +kernel
theorem dX4_doPlan_17 : decode cX4_doPlan 17 = .ok (.ireturn, 1) := by decide +kernel
theorem dX4_doPlan_18 : decode cX4_doPlan 18 = .ok (.aload_n 0, 1) := by decide +kernel
theorem dX4_doPlan_19 : decode cX4_doPlan 19 = .ok (.dup, 1) := by decide +kernel
theorem dX4_doPlan_20 : decode cX4_doPlan 20 = .ok (.getfield 113, 3) := by decide +kernel
theorem dX4_doPlan_23 : decode cX4_doPlan 23 = .ok (.iconst 1, 1) := by decide +kernel
theorem dX4_doPlan_24 : decode cX4_doPlan 24 = .ok (.iadd, 1) := by decide +kernel
theorem dX4_doPlan_25 : decode cX4_doPlan 25 = .ok (.putfield 113, 3) := by decide +kernel
theorem dX4_doPlan_28 : decode cX4_doPlan 28 = .ok (.aload_n 0, 1) := by decide +kernel
theorem dX4_doPlan_29 : decode cX4_doPlan 29 = .ok (.aload_n 0, 1) := by decide +kernel
theorem dX4_doPlan_30 : decode cX4_doPlan 30 = .ok (.getfield 59, 3) := by decide +kernel
theorem dX4_doPlan_33 : decode cX4_doPlan 33 = .ok (.aload_n 0, 1) := by decide +kernel
theorem dX4_doPlan_34 : decode cX4_doPlan 34 = .ok (.getfield 113, 3) := by decide +kernel
theorem dX4_doPlan_37 : decode cX4_doPlan 37 = .ok (.invokestatic 116, 3) := by decide +kernel
theorem dX4_doPlan_40 : decode cX4_doPlan 40 = .ok (.putfield 59, 3) := by decide +kernel
theorem dX4_doPlan_43 : decode cX4_doPlan 43 = .ok (.aload_n 0, 1) := by decide +kernel
theorem dX4_doPlan_44 : decode cX4_doPlan 44 = .ok (.aload_n 0, 1) := by decide +kernel
theorem dX4_doPlan_45 : decode cX4_doPlan 45 = .ok (.getfield 17, 3) := by decide +kernel
theorem dX4_doPlan_48 : decode cX4_doPlan 48 = .ok (.iload_n 1, 1) := by decide +kernel
theorem dX4_doPlan_49 : decode cX4_doPlan 49 = .ok (.aaload, 1) := by decide +kernel
theorem dX4_doPlan_50 : decode cX4_doPlan 50 = .ok (.iconst 0, 1) := by decide +kernel
theorem dX4_doPlan_51 : decode cX4_doPlan 51 = .ok (.aload_n 0, 1) := by decide +kernel
theorem dX4_doPlan_52 : decode cX4_doPlan 52 = .ok (.getfield 17, 3) := by decide +kernel
theorem dX4_doPlan_55 : decode cX4_doPlan 55 = .ok (.iload_n 1, 1) := by decide +kernel
theorem dX4_doPlan_56 : decode cX4_doPlan 56 = .ok (.aaload, 1) := by decide +kernel
theorem dX4_doPlan_57 : decode cX4_doPlan 57 = .ok (.getfield 42, 3) := by decide +kernel
theorem dX4_doPlan_60 : decode cX4_doPlan 60 = .ok (.invokevirtual 122, 3) := by decide +kernel
theorem dX4_doPlan_63 : decode cX4_doPlan 63 = .ok (.istore_n 2, 1) := by decide +kernel
theorem dX4_doPlan_64 : decode cX4_doPlan 64 = .ok (.aload_n 0, 1) := by decide +kernel
theorem dX4_doPlan_65 : decode cX4_doPlan 65 = .ok (.dup, 1) := by decide +kernel
theorem dX4_doPlan_66 : decode cX4_doPlan 66 = .ok (.getfield 113, 3) := by decide +kernel
theorem dX4_doPlan_69 : decode cX4_doPlan 69 = .ok (.iconst 1, 1) := by decide +kernel
theorem dX4_doPlan_70 : decode cX4_doPlan 70 = .ok (.isub, 1) := by decide +kernel
theorem dX4_doPlan_71 : decode cX4_doPlan 71 = .ok (.putfield 113, 3) := by decide +kernel
theorem dX4_doPlan_74 : decode cX4_doPlan 74 = .ok (.iload_n 2, 1) := by decide +kernel
theorem dX4_doPlan_75 : decode cX4_doPlan 75 = .ok (.iconst (-1), 1) := by decide +kernel
theorem dX4_doPlan_76 : decode cX4_doPlan 76 = .ok (.if_icmp .ne 7, 3) := by decide +kernel
theorem dX4_doPlan_79 : decode cX4_doPlan 79 = .ok (.iconst 0, 1) := by decide +kernel
theorem dX4_doPlan_80 : decode cX4_doPlan 80 = .ok (.goto 4, 3) := by decide +kernel
theorem dX4_doPlan_83 : decode cX4_doPlan 83 = .ok (.iload_n 2, 1) := by decide +kernel
theorem dX4_doPlan_84 : decode cX4_doPlan 84 = .ok (.ireturn, 1) := by decide +kernel
theorem dX4_doSteps_0 : decode cX4_doSteps 0 = .ok (.iload_n 2, 1) := by decide +kernel
theorem dX4_doSteps_1 : decode cX4_doSteps 1 = .ok (.istore 4, 2) := by decide +kernel
theorem dX4_doSteps_3 : decode cX4_doSteps 3 = .ok (.iload_n 2, 1) := by decide +kernel
theorem dX4_doSteps_4 : decode cX4_doSteps 4 = .ok (.istore 5, 2) := by decide +kernel
theorem dX4_doSteps_6 : decode cX4_doSteps 6 = .ok (.iload 5, 2) := by decide +kernel
theorem dX4_doSteps_8 : decode cX4_doSteps 8 = .ok (.iload_n 3, 1) := by decide +kernel
theorem dX4_doSteps_9 : decode cX4_doSteps 9 = .ok (.if_icmp .ge 44, 3) := by decide +kernel
theorem dX4_doSteps_12 : decode cX4_doSteps 12 = .ok (.iload 5, 2) := by decide +kernel
theorem dX4_doSteps_14 : decode cX4_doSteps 14 = .ok (.iload 4, 2) := by decide +kernel
theorem dX4_doSteps_16 : decode cX4_doSteps 16 = .ok (.if_icmp .ne 31, 3) := by decide +kernel
theorem dX4_doSteps_19 : decode cX4_doSteps 19 = .ok (.aload_n 1, 1) := by decide +kernel
theorem dX4_doSteps_20 : decode cX4_doSteps 20 = .ok (.iload 5, 2) := by decide +kernel
theorem dX4_doSteps_22 : decode cX4_doSteps 22 = .ok (.iload_n 3, 1) := by decide +kernel
theorem dX4_doSteps_23 : decode cX4_doSteps 23 = .ok (.invokevirtual 126, 3) := by decide +kernel
theorem dX4_doSteps_26 : decode cX4_doSteps 26 = .ok (.istore 4, 2) := by decide +kernel
theorem dX4_doSteps_28 : decode cX4_doSteps 28 = .ok (.aload_n 0, 1) := by decide +kernel
theorem dX4_doSteps_29 : decode cX4_doSteps 29 = .ok (.aload_n 1, 1) := by decide +kernel
theorem dX4_doSteps_30 : decode cX4_doSteps 30 = .ok (.iload 5, 2) := by decide +kernel
theorem dX4_doSteps_32 : decode cX4_doSteps 32 = .ok (.iload 4, 2) := by decide +kernel
theorem dX4_doSteps_34 : decode cX4_doSteps 34 = .ok (.invokevirtual 129, 3) := by decide +kernel
theorem dX4_doSteps_37 : decode cX4_doSteps 37 = .ok (.istore 6, 2) := by decide +kernel
theorem dX4_doSteps_39 : decode cX4_doSteps 39 = .ok (.iload 6, 2) := by decide +kernel
theorem dX4_doSteps_41 : decode cX4_doSteps 41 = .ok (.ifCond .eq 6, 3) := by decide +kernel
theorem dX4_doSteps_44 : decode cX4_doSteps 44 = .ok (.iload 6, 2) := by decide +kernel
theorem dX4_doSteps_46 : decode cX4_doSteps 46 = .ok (.ireturn, 1) := by decide +kernel
theorem dX4_doSteps_47 : decode cX4_doSteps 47 = .ok (.iinc 5 1, 3) := by decide +kernel
theorem dX4_doSteps_50 : decode cX4_doSteps 50 = .ok (.goto (-44), 3) := by decide +kernel
theorem dX4_doSteps_53 : decode cX4_doSteps 53 = .ok (.iconst 0, 1) := by decide +kernel
theorem dX4_doSteps_54 : decode cX4_doSteps 54 = .ok (.ireturn, 1) := by decide +kernel
theorem dX4_doStep_0 : decode cX4_doStep 0 = .ok (.aload_n 0, 1) := by decide +kernel
theorem dX4_doStep_1 : decode cX4_doStep 1 = .ok (.getfield 53, 3) := by decide +kernel
theorem dX4_doStep_4 : decode cX4_doStep 4 = .ok (.sipush 200, 3) := by decide +kernel
theorem dX4_doStep_7 : decode cX4_doStep 7 = .ok (.if_icmp .lt 6, 3) := by decide +kernel
theorem dX4_doStep_10 : decode cX4_doStep 10 = .ok (.bipush 40, 2) := by decide +kernel
theorem dX4_doStep_12 : decode cX4_doStep 12 = .ok (.ireturn, 1) := by decide +kernel
theorem dX4_doStep_13 : decode cX4_doStep 13 = .ok (.aload_n 0, 1) := by decide +kernel
theorem dX4_doStep_14 : decode cX4_doStep 14 = .ok (.dup, 1) := by decide +kernel
theorem dX4_doStep_15 : decode cX4_doStep 15 = .ok (.getfield 53, 3) := by decide +kernel
theorem dX4_doStep_18 : decode cX4_doStep 18 = .ok (.iconst 1, 1) := by decide +kernel
theorem dX4_doStep_19 : decode cX4_doStep 19 = .ok (.iadd, 1) := by decide +kernel
theorem dX4_doStep_20 : decode cX4_doStep 20 = .ok (.putfield 53, 3) := by decide +kernel
theorem dX4_doStep_23 : decode cX4_doStep 23 = .ok (.aload_n 1, 1) := by decide +kernel
theorem dX4_doStep_24 : decode cX4_doStep 24 = .ok (.getfield 132, 3) := by decide +kernel
theorem dX4_doStep_27 : decode cX4_doStep 27 = .ok (.iload_n 2, 1) := by decide +kernel
theorem dX4_doStep_28 : decode cX4_doStep 28 = .ok (.iaload, 1) := by decide +kernel
theorem dX4_doStep_29 : decode cX4_doStep 29 = .ok (.istore 4, 2) := by decide +kernel
theorem dX4_doStep_31 : decode cX4_doStep 31 = .ok (.aload_n 1, 1) := by decide +kernel
theorem dX4_doStep_32 : decode cX4_doStep 32 = .ok (.getfield 135, 3) := by decide +kernel
theorem dX4_doStep_35 : decode cX4_doStep 35 = .ok (.iload_n 2, 1) := by decide +kernel
theorem dX4_doStep_36 : decode cX4_doStep 36 = .ok (.iaload, 1) := by decide +kernel
theorem dX4_doStep_37 : decode cX4_doStep 37 = .ok (.istore 5, 2) := by decide +kernel
theorem dX4_doStep_39 : decode cX4_doStep 39 = .ok (.aload_n 0, 1) := by decide +kernel
theorem dX4_doStep_40 : decode cX4_doStep 40 = .ok (.bipush 100, 2) := by decide +kernel
theorem dX4_doStep_42 : decode cX4_doStep 42 = .ok (.iload 4, 2) := by decide +kernel
theorem dX4_doStep_44 : decode cX4_doStep 44 = .ok (.iadd, 1) := by decide +kernel
theorem dX4_doStep_45 : decode cX4_doStep 45 = .ok (.invokevirtual 138, 3) := by decide +kernel
theorem dX4_doStep_48 : decode cX4_doStep 48 = .ok (.iload 4, 2) := by decide +kernel
theorem dX4_doStep_50 : decode cX4_doStep 50 = .ok (.tableswitch 129 0 13 #[70, 86, 129, 129, 129, 114, 114, 129, 105, 105, 105, 105, 98, 114], 70) := by decide +kernel
theorem dX4_doStep_120 : decode cX4_doStep 120 = .ok (.aload_n 0, 1) := by decide +kernel
theorem dX4_doStep_121 : decode cX4_doStep 121 = .ok (.aload_n 0, 1) := by decide +kernel
theorem dX4_doStep_122 : decode cX4_doStep 122 = .ok (.iload 5, 2) := by decide +kernel
theorem dX4_doStep_124 : decode cX4_doStep 124 = .ok (.invokevirtual 69, 3) := by decide +kernel
theorem dX4_doStep_127 : decode cX4_doStep 127 = .ok (.aload_n 1, 1) := by decide +kernel
theorem dX4_doStep_128 : decode cX4_doStep 128 = .ok (.iload_n 2, 1) := by decide +kernel
theorem dX4_doStep_129 : decode cX4_doStep 129 = .ok (.iconst 1, 1) := by decide +kernel
theorem dX4_doStep_130 : decode cX4_doStep 130 = .ok (.iadd, 1) := by decide +kernel
theorem dX4_doStep_131 : decode cX4_doStep 131 = .ok (.iload_n 3, 1) := by decide +kernel
theorem dX4_doStep_132 : decode cX4_doStep 132 = .ok (.invokevirtual 142, 3) := by decide +kernel
theorem dX4_doStep_135 : decode cX4_doStep 135 = .ok (.ireturn, 1) := by decide +kernel
theorem dX4_doStep_136 : decode cX4_doStep 136 = .ok (.aload_n 0, 1) := by decide +kernel
theorem dX4_doStep_137 : decode cX4_doStep 137 = .ok (.iload 5, 2) := by decide +kernel
theorem dX4_doStep_139 : decode cX4_doStep 139 = .ok (.aload_n 1, 1) := by decide +kernel
theorem dX4_doStep_140 : decode cX4_doStep 140 = .ok (.iload_n 2, 1) := by decide +kernel
theorem dX4_doStep_141 : decode cX4_doStep 141 = .ok (.iconst 1, 1) := by decide +kernel
theorem dX4_doStep_142 : decode cX4_doStep 142 = .ok (.iadd, 1) := by decide +kernel
theorem dX4_doStep_143 : decode cX4_doStep 143 = .ok (.iload_n 3, 1) := by decide +kernel
theorem dX4_doStep_144 : decode cX4_doStep 144 = .ok (.invokevirtual 146, 3) := by decide +kernel
theorem dX4_doStep_147 : decode cX4_doStep 147 = .ok (.ireturn, 1) := by decide +kernel
theorem dX4_doStep_148 : decode cX4_doStep 148 = .ok (.aload_n 0, 1) := by decide +kernel
theorem dX4_doStep_149 : decode cX4_doStep 149 = .ok (.iload 5, 2) := by decide +kernel
theorem dX4_doStep_151 : decode cX4_doStep 151 = .ok (.invokevirtual 62, 3) := by decide +kernel
theorem dX4_doStep_154 : decode cX4_doStep 154 = .ok (.ireturn, 1) := by decide +kernel
theorem dX4_doStep_155 : decode cX4_doStep 155 = .ok (.aload_n 0, 1) := by decide +kernel
theorem dX4_doStep_156 : decode cX4_doStep 156 = .ok (.iload 4, 2) := by decide +kernel
theorem dX4_doStep_158 : decode cX4_doStep 158 = .ok (.iload 5, 2) := by decide +kernel
theorem dX4_doStep_160 : decode cX4_doStep 160 = .ok (.invokevirtual 150, 3) := by decide +kernel
theorem dX4_doStep_163 : decode cX4_doStep 163 = .ok (.ireturn, 1) := by decide +kernel
theorem dX4_doStep_164 : decode cX4_doStep 164 = .ok (.aload_n 0, 1) := by decide +kernel
theorem dX4_doStep_165 : decode cX4_doStep 165 = .ok (.iload 4, 2) := by decide +kernel
theorem dX4_doStep_167 : decode cX4_doStep 167 = .ok (.iload 5, 2) := by decide +kernel
theorem dX4_doStep_169 : decode cX4_doStep 169 = .ok (.aload_n 1, 1) := by decide +kernel
theorem dX4_doStep_170 : decode cX4_doStep 170 = .ok (.getfield 153, 3) := by decide +kernel
theorem dX4_doStep_173 : decode cX4_doStep 173 = .ok (.iload_n 2, 1) := by decide +kernel
theorem dX4_doStep_174 : decode cX4_doStep 174 = .ok (.iaload, 1) := by decide +kernel
theorem dX4_doStep_175 : decode cX4_doStep 175 = .ok (.invokevirtual 156, 3) := by decide +kernel
theorem dX4_doStep_178 : decode cX4_doStep 178 = .ok (.ireturn, 1) := by decide +kernel
theorem dX4_doStep_179 : decode cX4_doStep 179 = .ok (.aload_n 0, 1) := by decide +kernel
theorem dX4_doStep_180 : decode cX4_doStep 180 = .ok (.iload 4, 2) := by decide +kernel
theorem dX4_doStep_182 : decode cX4_doStep 182 = .ok (.aload_n 0, 1) := by decide +kernel
theorem dX4_doStep_183 : decode cX4_doStep 183 = .ok (.iload 5, 2) := by decide +kernel
theorem dX4_doStep_185 : decode cX4_doStep 185 = .ok (.invokevirtual 69, 3) := by decide +kernel
theorem dX4_doStep_188 : decode cX4_doStep 188 = .ok (.aload_n 1, 1) := by decide +kernel
theorem dX4_doStep_189 : decode cX4_doStep 189 = .ok (.getfield 153, 3) := by decide +kernel
theorem dX4_doStep_192 : decode cX4_doStep 192 = .ok (.iload_n 2, 1) := by decide +kernel
theorem dX4_doStep_193 : decode cX4_doStep 193 = .ok (.iaload, 1) := by decide +kernel
theorem dX4_doStep_194 : decode cX4_doStep 194 = .ok (.invokevirtual 160, 3) := by decide +kernel
theorem dX4_doStep_197 : decode cX4_doStep 197 = .ok (.ireturn, 1) := by decide +kernel
theorem dX4_doInside_0 : decode cX4_doInside 0 = .ok (.aload_n 1, 1) := by decide +kernel
theorem dX4_doInside_1 : decode cX4_doInside 1 = .ok (.ifnonnull 5, 3) := by decide +kernel
theorem dX4_doInside_4 : decode cX4_doInside 4 = .ok (.iconst 1, 1) := by decide +kernel
theorem dX4_doInside_5 : decode cX4_doInside 5 = .ok (.ireturn, 1) := by decide +kernel
theorem dX4_doInside_6 : decode cX4_doInside 6 = .ok (.aload_n 1, 1) := by decide +kernel
theorem dX4_doInside_7 : decode cX4_doInside 7 = .ok (.invokevirtual 164, 3) := by decide +kernel
theorem dX4_doInside_10 : decode cX4_doInside 10 = .ok (.aload_n 0, 1) := by decide +kernel
theorem dX4_doInside_11 : decode cX4_doInside 11 = .ok (.iconst 1, 1) := by decide +kernel
theorem dX4_doInside_12 : decode cX4_doInside 12 = .ok (.invokevirtual 138, 3) := by decide +kernel
theorem dX4_doInside_15 : decode cX4_doInside 15 = .ok (.aload_n 0, 1) := by decide +kernel
theorem dX4_doInside_16 : decode cX4_doInside 16 = .ok (.aload_n 2, 1) := by decide +kernel
theorem dX4_doInside_17 : decode cX4_doInside 17 = .ok (.iload_n 3, 1) := by decide +kernel
theorem dX4_doInside_18 : decode cX4_doInside 18 = .ok (.iload 4, 2) := by decide +kernel
theorem dX4_doInside_20 : decode cX4_doInside 20 = .ok (.invokevirtual 122, 3) := by decide +kernel
theorem dX4_doInside_23 : decode cX4_doInside 23 = .ok (.istore 5, 2) := by decide +kernel
theorem dX4_doInside_25 : decode cX4_doInside 25 = .ok (.aload_n 1, 1) := by decide +kernel
theorem dX4_doInside_26 : decode cX4_doInside 26 = .ok (.invokevirtual 167, 3) := by decide +kernel
theorem dX4_doInside_29 : decode cX4_doInside 29 = .ok (.aload_n 0, 1) := by decide +kernel
theorem dX4_doInside_30 : decode cX4_doInside 30 = .ok (.iconst 2, 1) := by decide +kernel
theorem dX4_doInside_31 : decode cX4_doInside 31 = .ok (.invokevirtual 138, 3) := by decide +kernel
theorem dX4_doInside_34 : decode cX4_doInside 34 = .ok (.iload 5, 2) := by decide +kernel
theorem dX4_doInside_36 : decode cX4_doInside 36 = .ok (.ireturn, 1) := by decide +kernel
theorem dX4_doTry_0 : decode cX4_doTry 0 = .ok (.aload_n 0, 1) := by decide +kernel
theorem dX4_doTry_1 : decode cX4_doTry 1 = .ok (.aload_n 2, 1) := by decide +kernel
theorem dX4_doTry_2 : decode cX4_doTry 2 = .ok (.iload_n 3, 1) := by decide +kernel
theorem dX4_doTry_3 : decode cX4_doTry 3 = .ok (.iload 4, 2) := by decide +kernel
theorem dX4_doTry_5 : decode cX4_doTry 5 = .ok (.invokevirtual 122, 3) := by decide +kernel
theorem dX4_doTry_8 : decode cX4_doTry 8 = .ok (.istore 5, 2) := by decide +kernel
theorem dX4_doTry_10 : decode cX4_doTry 10 = .ok (.iload 5, 2) := by decide +kernel
theorem dX4_doTry_12 : decode cX4_doTry 12 = .ok (.ifCond .eq 16, 3) := by decide +kernel
theorem dX4_doTry_15 : decode cX4_doTry 15 = .ok (.iload 5, 2) := by decide +kernel
theorem dX4_doTry_17 : decode cX4_doTry 17 = .ok (.iconst (-1), 1) := by decide +kernel
theorem dX4_doTry_18 : decode cX4_doTry 18 = .ok (.if_icmp .eq 10, 3) := by decide +kernel
theorem dX4_doTry_21 : decode cX4_doTry 21 = .ok (.iload 5, 2) := by decide +kernel
theorem dX4_doTry_23 : decode cX4_doTry 23 = .ok (.bipush 40, 2) := by decide +kernel
theorem dX4_doTry_25 : decode cX4_doTry 25 = .ok (.if_icmp .ne 6, 3) := by decide +kernel
theorem dX4_doTry_28 : decode cX4_doTry 28 = .ok (.iload 5, 2) := by decide +kernel
theorem dX4_doTry_30 : decode cX4_doTry 30 = .ok (.ireturn, 1) := by decide +kernel
theorem dX4_doTry_31 : decode cX4_doTry 31 = .ok (.iload_n 1, 1) := by decide +kernel
theorem dX4_doTry_32 : decode cX4_doTry 32 = .ok (.ifCond .eq 12, 3) := by decide +kernel
theorem dX4_doTry_35 : decode cX4_doTry 35 = .ok (.iload_n 1, 1) := by decide +kernel
theorem dX4_doTry_36 : decode cX4_doTry 36 = .ok (.iload 5, 2) := by decide +kernel
theorem dX4_doTry_38 : decode cX4_doTry 38 = .ok (.if_icmp .eq 6, 3) := by decide +kernel
theorem dX4_doTry_41 : decode cX4_doTry 41 = .ok (.iload 5, 2) := by decide +kernel
theorem dX4_doTry_43 : decode cX4_doTry 43 = .ok (.ireturn, 1) := by decide +kernel
theorem dX4_doTry_44 : decode cX4_doTry 44 = .ok (.aload_n 0, 1) := by decide +kernel
theorem dX4_doTry_45 : decode cX4_doTry 45 = .ok (.iload 5, 2) := by decide +kernel
theorem dX4_doTry_47 : decode cX4_doTry 47 = .ok (.putfield 50, 3) := by decide +kernel
theorem dX4_doTry_50 : decode cX4_doTry 50 = .ok (.iconst 0, 1) := by decide +kernel
theorem dX4_doTry_51 : decode cX4_doTry 51 = .ok (.ireturn, 1) := by decide +kernel
theorem dX4_doWithValue_0 : decode cX4_doWithValue 0 = .ok (.iload_n 1, 1) := by decide +kernel
theorem dX4_doWithValue_1 : decode cX4_doWithValue 1 = .ok (.tableswitch 55 8 10 #[27, 46, 48], 27) := by decide +kernel
theorem dX4_doWithValue_28 : decode cX4_doWithValue 28 = .ok (.iload_n 2, 1) := by decide +kernel
theorem dX4_doWithValue_29 : decode cX4_doWithValue 29 = .ok (.ifCond .ne 6, 3) := by decide +kernel
theorem dX4_doWithValue_32 : decode cX4_doWithValue 32 = .ok (.bipush 6, 2) := by decide +kernel
theorem dX4_doWithValue_34 : decode cX4_doWithValue 34 = .ok (.ireturn, 1) := by decide +kernel
theorem dX4_doWithValue_35 : decode cX4_doWithValue 35 = .ok (.aload_n 0, 1) := by decide +kernel
theorem dX4_doWithValue_36 : decode cX4_doWithValue 36 = .ok (.dup, 1) := by decide +kernel
theorem dX4_doWithValue_37 : decode cX4_doWithValue 37 = .ok (.getfield 50, 3) := by decide +kernel
theorem dX4_doWithValue_40 : decode cX4_doWithValue 40 = .ok (.iload_n 2, 1) := by decide +kernel
theorem dX4_doWithValue_41 : decode cX4_doWithValue 41 = .ok (.idiv, 1) := by decide +kernel
theorem dX4_doWithValue_42 : decode cX4_doWithValue 42 = .ok (.putfield 50, 3) := by decide +kernel
theorem dX4_doWithValue_45 : decode cX4_doWithValue 45 = .ok (.iconst 0, 1) := by decide +kernel
theorem dX4_doWithValue_46 : decode cX4_doWithValue 46 = .ok (.ireturn, 1) := by decide +kernel
theorem dX4_doWithValue_47 : decode cX4_doWithValue 47 = .ok (.iload_n 2, 1) := by decide +kernel
theorem dX4_doWithValue_48 : decode cX4_doWithValue 48 = .ok (.ireturn, 1) := by decide +kernel
theorem dX4_doWithValue_49 : decode cX4_doWithValue 49 = .ok (.aload_n 0, 1) := by decide +kernel
theorem dX4_doWithValue_50 : decode cX4_doWithValue 50 = .ok (.iload_n 2, 1) := by decide +kernel
theorem dX4_doWithValue_51 : decode cX4_doWithValue 51 = .ok (.putfield 50, 3) := by decide +kernel
theorem dX4_doWithValue_54 : decode cX4_doWithValue 54 = .ok (.iconst (-1), 1) := by decide +kernel
theorem dX4_doWithValue_55 : decode cX4_doWithValue 55 = .ok (.ireturn, 1) := by decide +kernel
theorem dX4_doWithValue_56 : decode cX4_doWithValue 56 = .ok (.aload_n 0, 1) := by decide +kernel
theorem dX4_doWithValue_57 : decode cX4_doWithValue 57 = .ok (.dup, 1) := by decide +kernel
theorem dX4_doWithValue_58 : decode cX4_doWithValue 58 = .ok (.getfield 50, 3) := by decide +kernel
theorem dX4_doWithValue_61 : decode cX4_doWithValue 61 = .ok (.iload_n 2, 1) := by decide +kernel
theorem dX4_doWithValue_62 : decode cX4_doWithValue 62 = .ok (.iadd, 1) := by decide +kernel
theorem dX4_doWithValue_63 : decode cX4_doWithValue 63 = .ok (.putfield 50, 3) := by decide +kernel
theorem dX4_doWithValue_66 : decode cX4_doWithValue 66 = .ok (.iconst 0, 1) := by decide +kernel
theorem dX4_doWithValue_67 : decode cX4_doWithValue 67 = .ok (.ireturn, 1) := by decide +kernel
theorem dX4_doWithRooms_0 : decode cX4_doWithRooms 0 = .ok (.iload_n 1, 1) := by decide +kernel
theorem dX4_doWithRooms_1 : decode cX4_doWithRooms 1 = .ok (.lookupswitch 54 #[(5, 27), (6, 45)], 27) := by decide +kernel
theorem dX4_doWithRooms_28 : decode cX4_doWithRooms 28 = .ok (.aload_n 0, 1) := by decide +kernel
theorem dX4_doWithRooms_29 : decode cX4_doWithRooms 29 = .ok (.iload_n 2, 1) := by decide +kernel
theorem dX4_doWithRooms_30 : decode cX4_doWithRooms 30 = .ok (.aload_n 0, 1) := by decide +kernel
theorem dX4_doWithRooms_31 : decode cX4_doWithRooms 31 = .ok (.iload_n 3, 1) := by decide +kernel
theorem dX4_doWithRooms_32 : decode cX4_doWithRooms 32 = .ok (.bipush 8, 2) := by decide +kernel
theorem dX4_doWithRooms_34 : decode cX4_doWithRooms 34 = .ok (.invokestatic 170, 3) := by decide +kernel
theorem dX4_doWithRooms_37 : decode cX4_doWithRooms 37 = .ok (.invokevirtual 69, 3) := by decide +kernel
theorem dX4_doWithRooms_40 : decode cX4_doWithRooms 40 = .ok (.invokevirtual 173, 3) := by decide +kernel
theorem dX4_doWithRooms_43 : decode cX4_doWithRooms 43 = .ok (.goto 22, 3) := by decide +kernel
theorem dX4_doWithRooms_46 : decode cX4_doWithRooms 46 = .ok (.aload_n 0, 1) := by decide +kernel
theorem dX4_doWithRooms_47 : decode cX4_doWithRooms 47 = .ok (.iload_n 2, 1) := by decide +kernel
theorem dX4_doWithRooms_48 : decode cX4_doWithRooms 48 = .ok (.aconst_null, 1) := by decide +kernel
theorem dX4_doWithRooms_49 : decode cX4_doWithRooms 49 = .ok (.invokevirtual 173, 3) := by decide +kernel
theorem dX4_doWithRooms_52 : decode cX4_doWithRooms 52 = .ok (.goto 13, 3) := by decide +kernel
theorem dX4_doWithRooms_55 : decode cX4_doWithRooms 55 = .ok (.aload_n 0, 1) := by decide +kernel
theorem dX4_doWithRooms_56 : decode cX4_doWithRooms 56 = .ok (.aload_n 0, 1) := by decide +kernel
theorem dX4_doWithRooms_57 : decode cX4_doWithRooms 57 = .ok (.iload_n 2, 1) := by decide +kernel
theorem dX4_doWithRooms_58 : decode cX4_doWithRooms 58 = .ok (.iload_n 3, 1) := by decide +kernel
theorem dX4_doWithRooms_59 : decode cX4_doWithRooms 59 = .ok (.invokevirtual 177, 3) := by decide +kernel
theorem dX4_doWithRooms_62 : decode cX4_doWithRooms 62 = .ok (.putfield 50, 3) := by decide +kernel
theorem dX4_doWithRooms_65 : decode cX4_doWithRooms 65 = .ok (.iconst 0, 1) := by decide +kernel
theorem dX4_doWithRooms_66 : decode cX4_doWithRooms 66 = .ok (.ireturn, 1) := by decide +kernel
theorem dX4_seek_0 : decode cX4_seek 0 = .ok (.iload_n 1, 1) := by decide +kernel
theorem dX4_seek_1 : decode cX4_seek 1 = .ok (.istore_n 3, 1) := by decide +kernel
theorem dX4_seek_2 : decode cX4_seek 2 = .ok (.iload_n 3, 1) := by decide +kernel
theorem dX4_seek_3 : decode cX4_seek 3 = .ok (.bipush 8, 2) := by decide +kernel
theorem dX4_seek_5 : decode cX4_seek 5 = .ok (.if_icmp .ge 54, 3) := by decide +kernel
theorem dX4_seek_8 : decode cX4_seek 8 = .ok (.aload_n 0, 1) := by decide +kernel
theorem dX4_seek_9 : decode cX4_seek 9 = .ok (.iload_n 3, 1) := by decide +kernel
theorem dX4_seek_10 : decode cX4_seek 10 = .ok (.invokevirtual 69, 3) := by decide +kernel
theorem dX4_seek_13 : decode cX4_seek 13 = .ok (.astore 4, 2) := by decide +kernel
theorem dX4_seek_15 : decode cX4_seek 15 = .ok (.aload 4, 2) := by decide +kernel
theorem dX4_seek_17 : decode cX4_seek 17 = .ok (.ifnull 36, 3) := by decide +kernel
theorem dX4_seek_20 : decode cX4_seek 20 = .ok (.aload 4, 2) := by decide +kernel
theorem dX4_seek_22 : decode cX4_seek 22 = .ok (.invokevirtual 164, 3) := by decide +kernel
theorem dX4_seek_25 : decode cX4_seek 25 = .ok (.aload 4, 2) := by decide +kernel
theorem dX4_seek_27 : decode cX4_seek 27 = .ok (.getfield 76, 3) := by decide +kernel
theorem dX4_seek_30 : decode cX4_seek 30 = .ok (.iload_n 2, 1) := by decide +kernel
theorem dX4_seek_31 : decode cX4_seek 31 = .ok (.if_icmp .lt 7, 3) := by decide +kernel
theorem dX4_seek_34 : decode cX4_seek 34 = .ok (.iconst 1, 1) := by decide +kernel
theorem dX4_seek_35 : decode cX4_seek 35 = .ok (.goto 4, 3) := by decide +kernel
theorem dX4_seek_38 : decode cX4_seek 38 = .ok (.iconst 0, 1) := by decide +kernel
theorem dX4_seek_39 : decode cX4_seek 39 = .ok (.istore 5, 2) := by decide +kernel
theorem dX4_seek_41 : decode cX4_seek 41 = .ok (.aload 4, 2) := by decide +kernel
theorem dX4_seek_43 : decode cX4_seek 43 = .ok (.invokevirtual 167, 3) := by decide +kernel
theorem dX4_seek_46 : decode cX4_seek 46 = .ok (.iload 5, 2) := by decide +kernel
theorem dX4_seek_48 : decode cX4_seek 48 = .ok (.ifCond .eq 5, 3) := by decide +kernel
theorem dX4_seek_51 : decode cX4_seek 51 = .ok (.iload_n 3, 1) := by decide +kernel
theorem dX4_seek_52 : decode cX4_seek 52 = .ok (.ireturn, 1) := by decide +kernel
theorem dX4_seek_53 : decode cX4_seek 53 = .ok (.iinc 3 1, 3) := by decide +kernel
theorem dX4_seek_56 : decode cX4_seek 56 = .ok (.goto (-54), 3) := by decide +kernel
theorem dX4_seek_59 : decode cX4_seek 59 = .ok (.iconst (-1), 1) := by decide +kernel
theorem dX4_seek_60 : decode cX4_seek 60 = .ok (.ireturn, 1) := by decide +kernel
theorem dX4_doWithSafe_0 : decode cX4_doWithSafe 0 = .ok (.aload_n 2, 1) := by decide +kernel
theorem dX4_doWithSafe_1 : decode cX4_doWithSafe 1 = .ok (.ifnonnull 5, 3) := by decide +kernel
theorem dX4_doWithSafe_4 : decode cX4_doWithSafe 4 = .ok (.iconst 1, 1) := by decide +kernel
theorem dX4_doWithSafe_5 : decode cX4_doWithSafe 5 = .ok (.ireturn, 1) := by decide +kernel
theorem dX4_doWithSafe_6 : decode cX4_doWithSafe 6 = .ok (.iload_n 1, 1) := by decide +kernel
theorem dX4_doWithSafe_7 : decode cX4_doWithSafe 7 = .ok (.tableswitch 60 2 4 #[25, 50, 31], 25) := by decide +kernel
theorem dX4_doWithSafe_32 : decode cX4_doWithSafe 32 = .ok (.aload_n 2, 1) := by decide +kernel
theorem dX4_doWithSafe_33 : decode cX4_doWithSafe 33 = .ok (.iload_n 3, 1) := by decide +kernel
theorem dX4_doWithSafe_34 : decode cX4_doWithSafe 34 = .ok (.invokevirtual 180, 3) := by decide +kernel
theorem dX4_doWithSafe_37 : decode cX4_doWithSafe 37 = .ok (.ireturn, 1) := by decide +kernel
theorem dX4_doWithSafe_38 : decode cX4_doWithSafe 38 = .ok (.aload_n 2, 1) := by decide +kernel
theorem dX4_doWithSafe_39 : decode cX4_doWithSafe 39 = .ok (.aload_n 0, 1) := by decide +kernel
theorem dX4_doWithSafe_40 : decode cX4_doWithSafe 40 = .ok (.getfield 50, 3) := by decide +kernel
theorem dX4_doWithSafe_43 : decode cX4_doWithSafe 43 = .ok (.aload_n 0, 1) := by decide +kernel
theorem dX4_doWithSafe_44 : decode cX4_doWithSafe 44 = .ok (.iload_n 3, 1) := by decide +kernel
theorem dX4_doWithSafe_45 : decode cX4_doWithSafe 45 = .ok (.bipush 8, 2) := by decide +kernel
theorem dX4_doWithSafe_47 : decode cX4_doWithSafe 47 = .ok (.invokestatic 170, 3) := by decide +kernel
theorem dX4_doWithSafe_50 : decode cX4_doWithSafe 50 = .ok (.invokevirtual 69, 3) := by decide +kernel
theorem dX4_doWithSafe_53 : decode cX4_doWithSafe 53 = .ok (.invokevirtual 183, 3) := by decide +kernel
theorem dX4_doWithSafe_56 : decode cX4_doWithSafe 56 = .ok (.ireturn, 1) := by decide +kernel
theorem dX4_doWithSafe_57 : decode cX4_doWithSafe 57 = .ok (.aload_n 0, 1) := by decide +kernel
theorem dX4_doWithSafe_58 : decode cX4_doWithSafe 58 = .ok (.aload_n 2, 1) := by decide +kernel
theorem dX4_doWithSafe_59 : decode cX4_doWithSafe 59 = .ok (.invokevirtual 187, 3) := by decide +kernel
theorem dX4_doWithSafe_62 : decode cX4_doWithSafe 62 = .ok (.putfield 50, 3) := by decide +kernel
theorem dX4_doWithSafe_65 : decode cX4_doWithSafe 65 = .ok (.iconst 0, 1) := by decide +kernel
theorem dX4_doWithSafe_66 : decode cX4_doWithSafe 66 = .ok (.ireturn, 1) := by decide +kernel
theorem dX4_doWithSafe_67 : decode cX4_doWithSafe 67 = .ok (.aload_n 0, 1) := by decide +kernel
theorem dX4_doWithSafe_68 : decode cX4_doWithSafe 68 = .ok (.aload_n 2, 1) := by decide +kernel
theorem dX4_doWithSafe_69 : decode cX4_doWithSafe 69 = .ok (.getfield 85, 3) := by decide +kernel
theorem dX4_doWithSafe_72 : decode cX4_doWithSafe 72 = .ok (.putfield 50, 3) := by decide +kernel
theorem dX4_doWithSafe_75 : decode cX4_doWithSafe 75 = .ok (.iconst 0, 1) := by decide +kernel
theorem dX4_doWithSafe_76 : decode cX4_doWithSafe 76 = .ok (.ireturn, 1) := by decide +kernel
