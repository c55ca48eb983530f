theorem dX4_reach_135 : decode cX4_reach 135 = .ok (.aload_n 0, 1) := by decide +kernel
theorem dX4_reach_136 : decode cX4_reach 136 = .ok (.getfield 19, 3) := by decide +kernel
theorem dX4_reach_139 : decode cX4_reach 139 = .ok (.aload_n 0, 1) := by decide +kernel
theorem dX4_reach_140 : decode cX4_reach 140 = .ok (.getfield 13, 3) := by decide +kernel
theorem dX4_reach_143 : decode cX4_reach 143 = .ok (.iload 5, 2) := by decide +kernel
theorem dX4_reach_145 : decode cX4_reach 145 = .ok (.iaload, 1) := by decide +kernel
theorem dX4_reach_146 : decode cX4_reach 146 = .ok (.iconst 1, 1) := by decide +kernel
theorem dX4_reach_147 : decode cX4_reach 147 = .ok (.isub, 1) := by decide +kernel
theorem dX4_reach_148 : decode cX4_reach 148 = .ok (.baload, 1) := by decide +kernel
theorem dX4_reach_149 : decode cX4_reach 149 = .ok (.ifCond .ne 20, 3) := by decide +kernel
theorem dX4_reach_152 : decode cX4_reach 152 = .ok (.aload_n 0, 1) := by decide +kernel
theorem dX4_reach_153 : decode cX4_reach 153 = .ok (.getfield 19, 3) := by decide +kernel
theorem dX4_reach_156 : decode cX4_reach 156 = .ok (.aload_n 0, 1) := by decide +kernel
theorem dX4_reach_157 : decode cX4_reach 157 = .ok (.getfield 13, 3) := by decide +kernel
theorem dX4_reach_160 : decode cX4_reach 160 = .ok (.iload 5, 2) := by decide +kernel
theorem dX4_reach_162 : decode cX4_reach 162 = .ok (.iaload, 1) := by decide +kernel
theorem dX4_reach_163 : decode cX4_reach 163 = .ok (.iconst 1, 1) := by decide +kernel
theorem dX4_reach_164 : decode cX4_reach 164 = .ok (.isub, 1) := by decide +kernel
theorem dX4_reach_165 : decode cX4_reach 165 = .ok (.iconst 1, 1) := by decide +kernel
theorem dX4_reach_166 : decode cX4_reach 166 = .ok (.bastore, 1) := by decide +kernel
theorem dX4_reach_167 : decode cX4_reach 167 = .ok (.iconst 1, 1) := by decide +kernel
theorem dX4_reach_168 : decode cX4_reach 168 = .ok (.istore_n 2, 1) := by decide +kernel
theorem dX4_reach_169 : decode cX4_reach 169 = .ok (.iinc 5 1, 3) := by decide +kernel
theorem dX4_reach_172 : decode cX4_reach 172 = .ok (.goto (-71), 3) := by decide +kernel
theorem dX4_reach_175 : decode cX4_reach 175 = .ok (.iinc 4 1, 3) := by decide +kernel
theorem dX4_reach_178 : decode cX4_reach 178 = .ok (.goto (-95), 3) := by decide +kernel
theorem dX4_reach_181 : decode cX4_reach 181 = .ok (.iinc 3 1, 3) := by decide +kernel
theorem dX4_reach_184 : decode cX4_reach 184 = .ok (.goto (-118), 3) := by decide +kernel
theorem dX4_reach_187 : decode cX4_reach 187 = .ok (.iconst 0, 1) := by decide +kernel
theorem dX4_reach_188 : decode cX4_reach 188 = .ok (.istore_n 3, 1) := by decide +kernel
theorem dX4_reach_189 : decode cX4_reach 189 = .ok (.iload_n 3, 1) := by decide +kernel
theorem dX4_reach_190 : decode cX4_reach 190 = .ok (.aload_n 0, 1) := by decide +kernel
theorem dX4_reach_191 : decode cX4_reach 191 = .ok (.getfield 33, 3) := by decide +kernel
theorem dX4_reach_194 : decode cX4_reach 194 = .ok (.if_icmp .ge 26, 3) := by decide +kernel
theorem dX4_reach_197 : decode cX4_reach 197 = .ok (.aload_n 0, 1) := by decide +kernel
theorem dX4_reach_198 : decode cX4_reach 198 = .ok (.getfield 19, 3) := by decide +kernel
theorem dX4_reach_201 : decode cX4_reach 201 = .ok (.iload_n 3, 1) := by decide +kernel
theorem dX4_reach_202 : decode cX4_reach 202 = .ok (.baload, 1) := by decide +kernel
theorem dX4_reach_203 : decode cX4_reach 203 = .ok (.ifCond .eq 9, 3) := by decide +kernel
theorem dX4_reach_206 : decode cX4_reach 206 = .ok (.iload_n 1, 1) := by decide +kernel
theorem dX4_reach_207 : decode cX4_reach 207 = .ok (.iconst 1, 1) := by decide +kernel
theorem dX4_reach_208 : decode cX4_reach 208 = .ok (.iadd, 1) := by decide +kernel
theorem dX4_reach_209 : decode cX4_reach 209 = .ok (.goto 4, 3) := by decide +kernel
theorem dX4_reach_212 : decode cX4_reach 212 = .ok (.iload_n 1, 1) := by decide +kernel
theorem dX4_reach_213 : decode cX4_reach 213 = .ok (.istore_n 1, 1) := by decide +kernel
theorem dX4_reach_214 : decode cX4_reach 214 = .ok (.iinc 3 1, 3) := by decide +kernel
theorem dX4_reach_217 : decode cX4_reach 217 = .ok (.goto (-28), 3) := by decide +kernel
theorem dX4_reach_220 : decode cX4_reach 220 = .ok (.iload_n 1, 1) := by decide +kernel
theorem dX4_reach_221 : decode cX4_reach 221 = .ok (.ireturn, 1) := by decide +kernel
theorem dX4_marked_0 : decode cX4_marked 0 = .ok (.aload_n 0, 1) := by decide +kernel
theorem dX4_marked_1 : decode cX4_marked 1 = .ok (.aload_n 0, 1) := by decide +kernel
theorem dX4_marked_2 : decode cX4_marked 2 = .ok (.iload_n 1, 1) := by decide +kernel
theorem dX4_marked_3 : decode cX4_marked 3 = .ok (.invokevirtual 36, 3) := by decide +kernel
theorem dX4_marked_6 : decode cX4_marked 6 = .ok (.aload_n 0, 1) := by decide +kernel
theorem dX4_marked_7 : decode cX4_marked 7 = .ok (.getfield 61, 3) := by decide +kernel
theorem dX4_marked_10 : decode cX4_marked 10 = .ok (.ifCond .ne 21, 3) := by decide +kernel
theorem dX4_marked_13 : decode cX4_marked 13 = .ok (.aload_n 0, 1) := by decide +kernel
theorem dX4_marked_14 : decode cX4_marked 14 = .ok (.getfield 44, 3) := by decide +kernel
theorem dX4_marked_17 : decode cX4_marked 17 = .ok (.ifCond .eq 14, 3) := by decide +kernel
theorem dX4_marked_20 : decode cX4_marked 20 = .ok (.aload_n 0, 1) := by decide +kernel
theorem dX4_marked_21 : decode cX4_marked 21 = .ok (.getfield 68, 3) := by decide +kernel
theorem dX4_marked_24 : decode cX4_marked 24 = .ok (.ifCond .eq 7, 3) := by decide +kernel
theorem dX4_marked_27 : decode cX4_marked 27 = .ok (.iconst 1, 1) := by decide +kernel
theorem dX4_marked_28 : decode cX4_marked 28 = .ok (.goto 4, 3) := by decide +kernel
theorem dX4_marked_31 : decode cX4_marked 31 = .ok (.iconst 0, 1) := by decide +kernel
theorem dX4_marked_32 : decode cX4_marked 32 = .ok (.invokevirtual 47, 3) := by decide +kernel
theorem dX4_marked_35 : decode cX4_marked 35 = .ok (.ifCond .eq 16, 3) := by decide +kernel
theorem dX4_marked_38 : decode cX4_marked 38 = .ok (.aload_n 0, 1) := by decide +kernel
theorem dX4_marked_39 : decode cX4_marked 39 = .ok (.getfield 23, 3) := by decide +kernel
theorem dX4_marked_42 : decode cX4_marked 42 = .ok (.iload_n 1, 1) := by decide +kernel
theorem dX4_marked_43 : decode cX4_marked 43 = .ok (.baload, 1) := by decide +kernel
theorem dX4_marked_44 : decode cX4_marked 44 = .ok (.ifCond .eq 7, 3) := by decide +kernel
theorem dX4_marked_47 : decode cX4_marked 47 = .ok (.iconst 1, 1) := by decide +kernel
theorem dX4_marked_48 : decode cX4_marked 48 = .ok (.goto 4, 3) := by decide +kernel
theorem dX4_marked_51 : decode cX4_marked 51 = .ok (.iconst 0, 1) := by decide +kernel
theorem dX4_marked_52 : decode cX4_marked 52 = .ok (.ireturn, 1) := by decide +kernel
theorem dX4_lost_0 : decode cX4_lost 0 = .ok (.aload_n 0, 1) := by decide +kernel
theorem dX4_lost_1 : decode cX4_lost 1 = .ok (.aload_n 0, 1) := by decide +kernel
theorem dX4_lost_2 : decode cX4_lost 2 = .ok (.getfield 61, 3) := by decide +kernel
theorem dX4_lost_5 : decode cX4_lost 5 = .ok (.ifCond .ne 14, 3) := by decide +kernel
theorem dX4_lost_8 : decode cX4_lost 8 = .ok (.aload_n 0, 1) := by decide +kernel
theorem dX4_lost_9 : decode cX4_lost 9 = .ok (.getfield 44, 3) := by decide +kernel
theorem dX4_lost_12 : decode cX4_lost 12 = .ok (.ifCond .eq 7, 3) := by decide +kernel
theorem dX4_lost_15 : decode cX4_lost 15 = .ok (.iconst 1, 1) := by decide +kernel
theorem dX4_lost_16 : decode cX4_lost 16 = .ok (.goto 4, 3) := by decide +kernel
theorem dX4_lost_19 : decode cX4_lost 19 = .ok (.iconst 0, 1) := by decide +kernel
theorem dX4_lost_20 : decode cX4_lost 20 = .ok (.iconst 1, 1) := by decide +kernel
theorem dX4_lost_21 : decode cX4_lost 21 = .ok (.invokevirtual 47, 3) := by decide +kernel
theorem dX4_lost_24 : decode cX4_lost 24 = .ok (.istore_n 1, 1) := by decide +kernel
theorem dX4_lost_25 : decode cX4_lost 25 = .ok (.iconst 0, 1) := by decide +kernel
theorem dX4_lost_26 : decode cX4_lost 26 = .ok (.ireturn, 1) := by decide +kernel
theorem dX4_count_0 : decode cX4_count 0 = .ok (.aload_n 0, 1) := by decide +kernel
theorem dX4_count_1 : decode cX4_count 1 = .ok (.iload_n 1, 1) := by decide +kernel
theorem dX4_count_2 : decode cX4_count 2 = .ok (.ifCond .lt 12, 3) := by decide +kernel
theorem dX4_count_5 : decode cX4_count 5 = .ok (.iload_n 1, 1) := by decide +kernel
theorem dX4_count_6 : decode cX4_count 6 = .ok (.iconst 5, 1) := by decide +kernel
theorem dX4_count_7 : decode cX4_count 7 = .ok (.if_icmp .gt 7, 3) := by decide +kernel
theorem dX4_count_10 : decode cX4_count 10 = .ok (.iconst 1, 1) := by decide +kernel
theorem dX4_count_11 : decode cX4_count 11 = .ok (.goto 4, 3) := by decide +kernel
theorem dX4_count_14 : decode cX4_count 14 = .ok (.iconst 0, 1) := by decide +kernel
theorem dX4_count_15 : decode cX4_count 15 = .ok (.iconst 1, 1) := by decide +kernel
theorem dX4_count_16 : decode cX4_count 16 = .ok (.invokevirtual 47, 3) := by decide +kernel
theorem dX4_count_19 : decode cX4_count 19 = .ok (.ifCond .ne 5, 3) := by decide +kernel
theorem dX4_count_22 : decode cX4_count 22 = .ok (.iconst 0, 1) := by decide +kernel
theorem dX4_count_23 : decode cX4_count 23 = .ok (.ireturn, 1) := by decide +kernel
theorem dX4_count_24 : decode cX4_count 24 = .ok (.iload_n 1, 1) := by decide +kernel
theorem dX4_count_25 : decode cX4_count 25 = .ok (.tableswitch 60 0 4 #[35, 40, 45, 50, 55], 35) := by decide +kernel
theorem dX4_count_60 : decode cX4_count 60 = .ok (.aload_n 0, 1) := by decide +kernel
theorem dX4_count_61 : decode cX4_count 61 = .ok (.getfield 33, 3) := by decide +kernel
theorem dX4_count_64 : decode cX4_count 64 = .ok (.ireturn, 1) := by decide +kernel
theorem dX4_count_65 : decode cX4_count 65 = .ok (.aload_n 0, 1) := by decide +kernel
theorem dX4_count_66 : decode cX4_count 66 = .ok (.getfield 51, 3) := by decide +kernel
theorem dX4_count_69 : decode cX4_count 69 = .ok (.ireturn, 1) := by decide +kernel
theorem dX4_count_70 : decode cX4_count 70 = .ok (.aload_n 0, 1) := by decide +kernel
theorem dX4_count_71 : decode cX4_count 71 = .ok (.invokevirtual 64, 3) := by decide +kernel
theorem dX4_count_74 : decode cX4_count 74 = .ok (.ireturn, 1) := by decide +kernel
theorem dX4_count_75 : decode cX4_count 75 = .ok (.aload_n 0, 1) := by decide +kernel
theorem dX4_count_76 : decode cX4_count 76 = .ok (.getfield 71, 3) := by decide +kernel
theorem dX4_count_79 : decode cX4_count 79 = .ok (.ireturn, 1) := by decide +kernel
theorem dX4_count_80 : decode cX4_count 80 = .ok (.aload_n 0, 1) := by decide +kernel
theorem dX4_count_81 : decode cX4_count 81 = .ok (.getfield 74, 3) := by decide +kernel
theorem dX4_count_84 : decode cX4_count 84 = .ok (.ireturn, 1) := by decide +kernel
theorem dX4_count_85 : decode cX4_count 85 = .ok (.aload_n 0, 1) := by decide +kernel
theorem dX4_count_86 : decode cX4_count 86 = .ok (.getfield 61, 3) := by decide +kernel
theorem dX4_count_89 : decode cX4_count 89 = .ok (.ifCond .eq 7, 3) := by decide +kernel
theorem dX4_count_92 : decode cX4_count 92 = .ok (.iconst 1, 1) := by decide +kernel
theorem dX4_count_93 : decode cX4_count 93 = .ok (.goto 4, 3) := by decide +kernel
theorem dX4_count_96 : decode cX4_count 96 = .ok (.iconst 0, 1) := by decide +kernel
theorem dX4_count_97 : decode cX4_count 97 = .ok (.ireturn, 1) := by decide +kernel
