theorem dX9_init_0 : decode cX9_init 0 = .ok (.aload_n 0, 1) := by decide +kernel
theorem dX9_init_1 : decode cX9_init 1 = .ok (.invokespecial 1, 3) := by decide +kernel
theorem dX9_init_4 : decode cX9_init 4 = .ok (.aload_n 0, 1) := by decide +kernel
theorem dX9_init_5 : decode cX9_init 5 = .ok (.bipush 120, 2) := by decide +kernel
theorem dX9_init_7 : decode cX9_init 7 = .ok (.putfield 7, 3) := by decide +kernel
theorem dX9_init_10 : decode cX9_init 10 = .ok (.aload_n 0, 1) := by decide +kernel
theorem dX9_init_11 : decode cX9_init 11 = .ok (.bipush 45, 2) := by decide +kernel
theorem dX9_init_13 : decode cX9_init 13 = .ok (.newarray .int, 2) := by decide +kernel
theorem dX9_init_15 : decode cX9_init 15 = .ok (.putfield 13, 3) := by decide +kernel
theorem dX9_init_18 : decode cX9_init 18 = .ok (.aload_n 0, 1) := by decide +kernel
theorem dX9_init_19 : decode cX9_init 19 = .ok (.bipush 60, 2) := by decide +kernel
theorem dX9_init_21 : decode cX9_init 21 = .ok (.newarray .int, 2) := by decide +kernel
theorem dX9_init_23 : decode cX9_init 23 = .ok (.putfield 17, 3) := by decide +kernel
theorem dX9_init_26 : decode cX9_init 26 = .ok (.aload_n 0, 1) := by decide +kernel
theorem dX9_init_27 : decode cX9_init 27 = .ok (.bipush 12, 2) := by decide +kernel
theorem dX9_init_29 : decode cX9_init 29 = .ok (.newarray .int, 2) := by decide +kernel
theorem dX9_init_31 : decode cX9_init 31 = .ok (.putfield 20, 3) := by decide +kernel
theorem dX9_init_34 : decode cX9_init 34 = .ok (.aload_n 0, 1) := by decide +kernel
theorem dX9_init_35 : decode cX9_init 35 = .ok (.sipush 700, 3) := by decide +kernel
theorem dX9_init_38 : decode cX9_init 38 = .ok (.newarray .int, 2) := by decide +kernel
theorem dX9_init_40 : decode cX9_init 40 = .ok (.putfield 23, 3) := by decide +kernel
theorem dX9_init_43 : decode cX9_init 43 = .ok (.aload_n 0, 1) := by decide +kernel
theorem dX9_init_44 : decode cX9_init 44 = .ok (.iconst (-1), 1) := by decide +kernel
theorem dX9_init_45 : decode cX9_init 45 = .ok (.putfield 26, 3) := by decide +kernel
theorem dX9_init_48 : decode cX9_init 48 = .ok (.aload_n 0, 1) := by decide +kernel
theorem dX9_init_49 : decode cX9_init 49 = .ok (.iconst 4, 1) := by decide +kernel
theorem dX9_init_50 : decode cX9_init 50 = .ok (.newarray .int, 2) := by decide +kernel
theorem dX9_init_52 : decode cX9_init 52 = .ok (.putfield 29, 3) := by decide +kernel
theorem dX9_init_55 : decode cX9_init 55 = .ok (.aload_n 0, 1) := by decide +kernel
theorem dX9_init_56 : decode cX9_init 56 = .ok (.bipush 45, 2) := by decide +kernel
theorem dX9_init_58 : decode cX9_init 58 = .ok (.newarray .int, 2) := by decide +kernel
theorem dX9_init_60 : decode cX9_init 60 = .ok (.putfield 32, 3) := by decide +kernel
theorem dX9_init_63 : decode cX9_init 63 = .ok (.aload_n 0, 1) := by decide +kernel
theorem dX9_init_64 : decode cX9_init 64 = .ok (.bipush 60, 2) := by decide +kernel
theorem dX9_init_66 : decode cX9_init 66 = .ok (.newarray .int, 2) := by decide +kernel
theorem dX9_init_68 : decode cX9_init 68 = .ok (.putfield 35, 3) := by decide +kernel
theorem dX9_init_71 : decode cX9_init 71 = .ok (.aload_n 0, 1) := by decide +kernel
theorem dX9_init_72 : decode cX9_init 72 = .ok (.bipush 12, 2) := by decide +kernel
theorem dX9_init_74 : decode cX9_init 74 = .ok (.newarray .int, 2) := by decide +kernel
theorem dX9_init_76 : decode cX9_init 76 = .ok (.putfield 38, 3) := by decide +kernel
theorem dX9_init_79 : decode cX9_init 79 = .ok (.aload_n 0, 1) := by decide +kernel
theorem dX9_init_80 : decode cX9_init 80 = .ok (.sipush 1440, 3) := by decide +kernel
theorem dX9_init_83 : decode cX9_init 83 = .ok (.newarray .boolean, 2) := by decide +kernel
theorem dX9_init_85 : decode cX9_init 85 = .ok (.putfield 41, 3) := by decide +kernel
theorem dX9_init_88 : decode cX9_init 88 = .ok (.aload_n 0, 1) := by decide +kernel
theorem dX9_init_89 : decode cX9_init 89 = .ok (.sipush 1440, 3) := by decide +kernel
theorem dX9_init_92 : decode cX9_init 92 = .ok (.newarray .boolean, 2) := by decide +kernel
theorem dX9_init_94 : decode cX9_init 94 = .ok (.putfield 45, 3) := by decide +kernel
theorem dX9_init_97 : decode cX9_init 97 = .ok (.aload_n 0, 1) := by decide +kernel
theorem dX9_init_98 : decode cX9_init 98 = .ok (.iconst (-1), 1) := by decide +kernel
theorem dX9_init_99 : decode cX9_init 99 = .ok (.putfield 48, 3) := by decide +kernel
theorem dX9_init_102 : decode cX9_init 102 = .ok (.aload_n 0, 1) := by decide +kernel
theorem dX9_init_103 : decode cX9_init 103 = .ok (.bipush 120, 2) := by decide +kernel
theorem dX9_init_105 : decode cX9_init 105 = .ok (.newarray .int, 2) := by decide +kernel
theorem dX9_init_107 : decode cX9_init 107 = .ok (.putfield 51, 3) := by decide +kernel
theorem dX9_init_110 : decode cX9_init 110 = .ok (.aload_n 0, 1) := by decide +kernel
theorem dX9_init_111 : decode cX9_init 111 = .ok (.bipush 48, 2) := by decide +kernel
theorem dX9_init_113 : decode cX9_init 113 = .ok (.newarray .int, 2) := by decide +kernel
theorem dX9_init_115 : decode cX9_init 115 = .ok (.putfield 54, 3) := by decide +kernel
theorem dX9_init_118 : decode cX9_init 118 = .ok (.aload_n 0, 1) := by decide +kernel
theorem dX9_init_119 : decode cX9_init 119 = .ok (.sipush 4961, 3) := by decide +kernel
theorem dX9_init_122 : decode cX9_init 122 = .ok (.newarray .int, 2) := by decide +kernel
theorem dX9_init_124 : decode cX9_init 124 = .ok (.putfield 57, 3) := by decide +kernel
theorem dX9_init_127 : decode cX9_init 127 = .ok (.aload_n 0, 1) := by decide +kernel
theorem dX9_init_128 : decode cX9_init 128 = .ok (.sipush 1441, 3) := by decide +kernel
theorem dX9_init_131 : decode cX9_init 131 = .ok (.newarray .int, 2) := by decide +kernel
theorem dX9_init_133 : decode cX9_init 133 = .ok (.putfield 60, 3) := by decide +kernel
theorem dX9_init_136 : decode cX9_init 136 = .ok (.aload_n 0, 1) := by decide +kernel
theorem dX9_init_137 : decode cX9_init 137 = .ok (.bipush 18, 2) := by decide +kernel
theorem dX9_init_139 : decode cX9_init 139 = .ok (.newarray .int, 2) := by decide +kernel
theorem dX9_init_141 : decode cX9_init 141 = .ok (.putfield 63, 3) := by decide +kernel
theorem dX9_init_144 : decode cX9_init 144 = .ok (.aload_n 0, 1) := by decide +kernel
theorem dX9_init_145 : decode cX9_init 145 = .ok (.sipush 241, 3) := by decide +kernel
theorem dX9_init_148 : decode cX9_init 148 = .ok (.newarray .int, 2) := by decide +kernel
theorem dX9_init_150 : decode cX9_init 150 = .ok (.putfield 66, 3) := by decide +kernel
theorem dX9_init_153 : decode cX9_init 153 = .ok (.aload_n 0, 1) := by decide +kernel
theorem dX9_init_154 : decode cX9_init 154 = .ok (.bipush 9, 2) := by decide +kernel
theorem dX9_init_156 : decode cX9_init 156 = .ok (.newarray .int, 2) := by decide +kernel
theorem dX9_init_158 : decode cX9_init 158 = .ok (.putfield 69, 3) := by decide +kernel
theorem dX9_init_161 : decode cX9_init 161 = .ok (.aload_n 0, 1) := by decide +kernel
theorem dX9_init_162 : decode cX9_init 162 = .ok (.sipush 1500, 3) := by decide +kernel
theorem dX9_init_165 : decode cX9_init 165 = .ok (.newarray .int, 2) := by decide +kernel
theorem dX9_init_167 : decode cX9_init 167 = .ok (.putfield 72, 3) := by decide +kernel
theorem dX9_init_170 : decode cX9_init 170 = .ok (.aload_n 0, 1) := by decide +kernel
theorem dX9_init_171 : decode cX9_init 171 = .ok (.sipush 1500, 3) := by decide +kernel
theorem dX9_init_174 : decode cX9_init 174 = .ok (.newarray .int, 2) := by decide +kernel
theorem dX9_init_176 : decode cX9_init 176 = .ok (.putfield 75, 3) := by decide +kernel
theorem dX9_init_179 : decode cX9_init 179 = .ok (.aload_n 0, 1) := by decide +kernel
theorem dX9_init_180 : decode cX9_init 180 = .ok (.sipush 800, 3) := by decide +kernel
theorem dX9_init_183 : decode cX9_init 183 = .ok (.newarray .int, 2) := by decide +kernel
theorem dX9_init_185 : decode cX9_init 185 = .ok (.putfield 78, 3) := by decide +kernel
theorem dX9_init_188 : decode cX9_init 188 = .ok (.aload_n 0, 1) := by decide +kernel
theorem dX9_init_189 : decode cX9_init 189 = .ok (.bipush 13, 2) := by decide +kernel
theorem dX9_init_191 : decode cX9_init 191 = .ok (.newarray .int, 2) := by decide +kernel
theorem dX9_init_193 : decode cX9_init 193 = .ok (.putfield 81, 3) := by decide +kernel
theorem dX9_init_196 : decode cX9_init 196 = .ok (.aload_n 0, 1) := by decide +kernel
theorem dX9_init_197 : decode cX9_init 197 = .ok (.bipush 13, 2) := by decide +kernel
theorem dX9_init_199 : decode cX9_init 199 = .ok (.newarray .int, 2) := by decide +kernel
theorem dX9_init_201 : decode cX9_init 201 = .ok (.putfield 84, 3) := by decide +kernel
theorem dX9_init_204 : decode cX9_init 204 = .ok (.aload_n 0, 1) := by decide +kernel
theorem dX9_init_205 : decode cX9_init 205 = .ok (.bipush 13, 2) := by decide +kernel
theorem dX9_init_207 : decode cX9_init 207 = .ok (.newarray .int, 2) := by decide +kernel
theorem dX9_init_209 : decode cX9_init 209 = .ok (.putfield 87, 3) := by decide +kernel
theorem dX9_init_212 : decode cX9_init 212 = .ok (.aload_n 0, 1) := by decide +kernel
theorem dX9_init_213 : decode cX9_init 213 = .ok (.iconst 3, 1) := by decide +kernel
theorem dX9_init_214 : decode cX9_init 214 = .ok (.newarray .int, 2) := by decide +kernel
theorem dX9_init_216 : decode cX9_init 216 = .ok (.putfield 90, 3) := by decide +kernel
theorem dX9_init_219 : decode cX9_init 219 = .ok (.aload_n 0, 1) := by decide +kernel
theorem dX9_init_220 : decode cX9_init 220 = .ok (.bipush 48, 2) := by decide +kernel
theorem dX9_init_222 : decode cX9_init 222 = .ok (.newarray .int, 2) := by decide +kernel
theorem dX9_init_224 : decode cX9_init 224 = .ok (.putfield 93, 3) := by decide +kernel
theorem dX9_init_227 : decode cX9_init 227 = .ok (.aload_n 0, 1) := by decide +kernel
theorem dX9_init_228 : decode cX9_init 228 = .ok (.bipush 18, 2) := by decide +kernel
theorem dX9_init_230 : decode cX9_init 230 = .ok (.newarray .int, 2) := by decide +kernel
theorem dX9_init_232 : decode cX9_init 232 = .ok (.putfield 96, 3) := by decide +kernel
theorem dX9_init_235 : decode cX9_init 235 = .ok (.aload_n 0, 1) := by decide +kernel
theorem dX9_init_236 : decode cX9_init 236 = .ok (.bipush 120, 2) := by decide +kernel
theorem dX9_init_238 : decode cX9_init 238 = .ok (.newarray .int, 2) := by decide +kernel
theorem dX9_init_240 : decode cX9_init 240 = .ok (.putfield 99, 3) := by decide +kernel
theorem dX9_init_243 : decode cX9_init 243 = .ok (.return_, 1) := by decide +kernel
theorem dX9_thrown_0 : decode cX9_thrown 0 = .ok (.aload_n 0, 1) := by decide +kernel
theorem dX9_thrown_1 : decode cX9_thrown 1 = .ok (.getfield 102, 3) := by decide +kernel
theorem dX9_thrown_4 : decode cX9_thrown 4 = .ok (.ireturn, 1) := by decide +kernel
theorem dX9_right_0 : decode cX9_right 0 = .ok (.aload_n 0, 1) := by decide +kernel
theorem dX9_right_1 : decode cX9_right 1 = .ok (.getfield 102, 3) := by decide +kernel
theorem dX9_right_4 : decode cX9_right 4 = .ok (.ifCond .ne 12, 3) := by decide +kernel
theorem dX9_right_7 : decode cX9_right 7 = .ok (.iload_n 1, 1) := by decide +kernel
theorem dX9_right_8 : decode cX9_right 8 = .ok (.ifCond .ne 8, 3) := by decide +kernel
theorem dX9_right_11 : decode cX9_right 11 = .ok (.aload_n 0, 1) := by decide +kernel
theorem dX9_right_12 : decode cX9_right 12 = .ok (.iload_n 2, 1) := by decide +kernel
theorem dX9_right_13 : decode cX9_right 13 = .ok (.putfield 102, 3) := by decide +kernel
theorem dX9_right_16 : decode cX9_right 16 = .ok (.aload_n 0, 1) := by decide +kernel
theorem dX9_right_17 : decode cX9_right 17 = .ok (.getfield 102, 3) := by decide +kernel
theorem dX9_right_20 : decode cX9_right 20 = .ok (.ifCond .ne 7, 3) := by decide +kernel
theorem dX9_right_23 : decode cX9_right 23 = .ok (.iconst 1, 1) := by decide +kernel
theorem dX9_right_24 : decode cX9_right 24 = .ok (.goto 4, 3) := by decide +kernel
theorem dX9_right_27 : decode cX9_right 27 = .ok (.iconst 0, 1) := by decide +kernel
theorem dX9_right_28 : decode cX9_right 28 = .ok (.ireturn, 1) := by decide +kernel
theorem dX9_within_0 : decode cX9_within 0 = .ok (.iload_n 0, 1) := by decide +kernel
theorem dX9_within_1 : decode cX9_within 1 = .ok (.iload_n 1, 1) := by decide +kernel
theorem dX9_within_2 : decode cX9_within 2 = .ok (.if_icmp .lt 12, 3) := by decide +kernel
theorem dX9_within_5 : decode cX9_within 5 = .ok (.iload_n 0, 1) := by decide +kernel
theorem dX9_within_6 : decode cX9_within 6 = .ok (.iload_n 2, 1) := by decide +kernel
theorem dX9_within_7 : decode cX9_within 7 = .ok (.if_icmp .gt 7, 3) := by decide +kernel
theorem dX9_within_10 : decode cX9_within 10 = .ok (.iconst 1, 1) := by decide +kernel
theorem dX9_within_11 : decode cX9_within 11 = .ok (.goto 4, 3) := by decide +kernel
theorem dX9_within_14 : decode cX9_within 14 = .ok (.iconst 0, 1) := by decide +kernel
theorem dX9_within_15 : decode cX9_within 15 = .ok (.ireturn, 1) := by decide +kernel
theorem dX9_off_0 : decode cX9_off 0 = .ok (.iload_n 0, 1) := by decide +kernel
theorem dX9_off_1 : decode cX9_off 1 = .ok (.iload_n 1, 1) := by decide +kernel
theorem dX9_off_2 : decode cX9_off 2 = .ok (.if_icmp .ge 9, 3) := by decide +kernel
theorem dX9_off_5 : decode cX9_off 5 = .ok (.iload_n 1, 1) := by decide +kernel
theorem dX9_off_6 : decode cX9_off 6 = .ok (.iload_n 0, 1) := by decide +kernel
theorem dX9_off_7 : decode cX9_off 7 = .ok (.isub, 1) := by decide +kernel
theorem dX9_off_8 : decode cX9_off 8 = .ok (.goto 6, 3) := by decide +kernel
theorem dX9_off_11 : decode cX9_off 11 = .ok (.iload_n 0, 1) := by decide +kernel
theorem dX9_off_12 : decode cX9_off 12 = .ok (.iload_n 1, 1) := by decide +kernel
theorem dX9_off_13 : decode cX9_off 13 = .ok (.isub, 1) := by decide +kernel
theorem dX9_off_14 : decode cX9_off 14 = .ok (.ireturn, 1) := by decide +kernel
theorem dX9_copies_0 : decode cX9_copies 0 = .ok (.iconst 0, 1) := by decide +kernel
theorem dX9_copies_1 : decode cX9_copies 1 = .ok (.istore_n 3, 1) := by decide +kernel
theorem dX9_copies_2 : decode cX9_copies 2 = .ok (.iload_n 3, 1) := by decide +kernel
theorem dX9_copies_3 : decode cX9_copies 3 = .ok (.aload_n 1, 1) := by decide +kernel
theorem dX9_copies_4 : decode cX9_copies 4 = .ok (.arraylength, 1) := by decide +kernel
theorem dX9_copies_5 : decode cX9_copies 5 = .ok (.if_icmp .ge 15, 3) := by decide +kernel
theorem dX9_copies_8 : decode cX9_copies 8 = .ok (.aload_n 2, 1) := by decide +kernel
theorem dX9_copies_9 : decode cX9_copies 9 = .ok (.iload_n 3, 1) := by decide +kernel
theorem dX9_copies_10 : decode cX9_copies 10 = .ok (.aload_n 1, 1) := by decide +kernel
theorem dX9_copies_11 : decode cX9_copies 11 = .ok (.iload_n 3, 1) := by decide +kernel
theorem dX9_copies_12 : decode cX9_copies 12 = .ok (.iaload, 1) := by decide +kernel
theorem dX9_copies_13 : decode cX9_copies 13 = .ok (.iastore, 1) := by decide +kernel
theorem dX9_copies_14 : decode cX9_copies 14 = .ok (.iinc 3 1, 3) := by decide +kernel
theorem dX9_copies_17 : decode cX9_copies 17 = .ok (.goto (-15), 3) := by decide +kernel
theorem dX9_copies_20 : decode cX9_copies 20 = .ok (.return_, 1) := by decide +kernel
theorem dX9_feed_0 : decode cX9_feed 0 = .ok (.aload_n 0, 1) := by decide +kernel
theorem dX9_feed_1 : decode cX9_feed 1 = .ok (.iconst 0, 1) := by decide +kernel
theorem dX9_feed_2 : decode cX9_feed 2 = .ok (.putfield 102, 3) := by decide +kernel
theorem dX9_feed_5 : decode cX9_feed 5 = .ok (.aload_n 0, 1) := by decide +kernel
theorem dX9_feed_6 : decode cX9_feed 6 = .ok (.getfield 105, 3) := by decide +kernel
theorem dX9_feed_9 : decode cX9_feed 9 = .ok (.bipush 20, 2) := by decide +kernel
theorem dX9_feed_11 : decode cX9_feed 11 = .ok (.iadd, 1) := by decide +kernel
theorem dX9_feed_12 : decode cX9_feed 12 = .ok (.sipush 700, 3) := by decide +kernel
theorem dX9_feed_15 : decode cX9_feed 15 = .ok (.if_icmp .le 5, 3) := by decide +kernel
theorem dX9_feed_18 : decode cX9_feed 18 = .ok (.iconst (-1), 1) := by decide +kernel
theorem dX9_feed_19 : decode cX9_feed 19 = .ok (.ireturn, 1) := by decide +kernel
theorem dX9_feed_20 : decode cX9_feed 20 = .ok (.aload_n 0, 1) := by decide +kernel
theorem dX9_feed_21 : decode cX9_feed 21 = .ok (.iload_n 1, 1) := by decide +kernel
theorem dX9_feed_22 : decode cX9_feed 22 = .ok (.invokevirtual 108, 3) := by decide +kernel
theorem dX9_feed_25 : decode cX9_feed 25 = .ok (.aload_n 0, 1) := by decide +kernel
theorem dX9_feed_26 : decode cX9_feed 26 = .ok (.iload_n 2, 1) := by decide +kernel
theorem dX9_feed_27 : decode cX9_feed 27 = .ok (.invokevirtual 108, 3) := by decide +kernel
theorem dX9_feed_30 : decode cX9_feed 30 = .ok (.aload_n 0, 1) := by decide +kernel
theorem dX9_feed_31 : decode cX9_feed 31 = .ok (.iload_n 3, 1) := by decide +kernel
theorem dX9_feed_32 : decode cX9_feed 32 = .ok (.invokevirtual 108, 3) := by decide +kernel
theorem dX9_feed_35 : decode cX9_feed 35 = .ok (.aload_n 0, 1) := by decide +kernel
theorem dX9_feed_36 : decode cX9_feed 36 = .ok (.iload 4, 2) := by decide +kernel
theorem dX9_feed_38 : decode cX9_feed 38 = .ok (.invokevirtual 108, 3) := by decide +kernel
theorem dX9_feed_41 : decode cX9_feed 41 = .ok (.aload_n 0, 1) := by decide +kernel
theorem dX9_feed_42 : decode cX9_feed 42 = .ok (.iload 5, 2) := by decide +kernel
theorem dX9_feed_44 : decode cX9_feed 44 = .ok (.invokevirtual 108, 3) := by decide +kernel
theorem dX9_feed_47 : decode cX9_feed 47 = .ok (.aload_n 0, 1) := by decide +kernel
theorem dX9_feed_48 : decode cX9_feed 48 = .ok (.getfield 105, 3) := by decide +kernel
theorem dX9_feed_51 : decode cX9_feed 51 = .ok (.ireturn, 1) := by decide +kernel
theorem dX9_lays_0 : decode cX9_lays 0 = .ok (.bipush 24, 2) := by decide +kernel
theorem dX9_lays_2 : decode cX9_lays 2 = .ok (.istore_n 2, 1) := by decide +kernel
theorem dX9_lays_3 : decode cX9_lays 3 = .ok (.iload_n 2, 1) := by decide +kernel
theorem dX9_lays_4 : decode cX9_lays 4 = .ok (.ifCond .lt 35, 3) := by decide +kernel
theorem dX9_lays_7 : decode cX9_lays 7 = .ok (.aload_n 0, 1) := by decide +kernel
theorem dX9_lays_8 : decode cX9_lays 8 = .ok (.getfield 23, 3) := by decide +kernel
theorem dX9_lays_11 : decode cX9_lays 11 = .ok (.aload_n 0, 1) := by decide +kernel
theorem dX9_lays_12 : decode cX9_lays 12 = .ok (.getfield 105, 3) := by decide +kernel
theorem dX9_lays_15 : decode cX9_lays 15 = .ok (.iload_n 1, 1) := by decide +kernel
theorem dX9_lays_16 : decode cX9_lays 16 = .ok (.iload_n 2, 1) := by decide +kernel
theorem dX9_lays_17 : decode cX9_lays 17 = .ok (.ishr, 1) := by decide +kernel
theorem dX9_lays_18 : decode cX9_lays 18 = .ok (.sipush 255, 3) := by decide +kernel
theorem dX9_lays_21 : decode cX9_lays 21 = .ok (.iand, 1) := by decide +kernel
theorem dX9_lays_22 : decode cX9_lays 22 = .ok (.iastore, 1) := by decide +kernel
theorem dX9_lays_23 : decode cX9_lays 23 = .ok (.aload_n 0, 1) := by decide +kernel
theorem dX9_lays_24 : decode cX9_lays 24 = .ok (.dup, 1) := by decide +kernel
theorem dX9_lays_25 : decode cX9_lays 25 = .ok (.getfield 105, 3) := by decide +kernel
theorem dX9_lays_28 : decode cX9_lays 28 = .ok (.iconst 1, 1) := by decide +kernel
theorem dX9_lays_29 : decode cX9_lays 29 = .ok (.iadd, 1) := by decide +kernel
theorem dX9_lays_30 : decode cX9_lays 30 = .ok (.putfield 105, 3) := by decide +kernel
theorem dX9_lays_33 : decode cX9_lays 33 = .ok (.iinc 2 (-8), 3) := by decide +kernel
theorem dX9_lays_36 : decode cX9_lays 36 = .ok (.goto (-33), 3) := by decide +kernel
theorem dX9_lays_39 : decode cX9_lays 39 = .ok (.return_, 1) := by decide +kernel
theorem dX9_byteAt_0 : decode cX9_byteAt 0 = .ok (.iload_n 1, 1) := by decide +kernel
theorem dX9_byteAt_1 : decode cX9_byteAt 1 = .ok (.aload_n 0, 1) := by decide +kernel
theorem dX9_byteAt_2 : decode cX9_byteAt 2 = .ok (.getfield 112, 3) := by decide +kernel
theorem dX9_byteAt_5 : decode cX9_byteAt 5 = .ok (.if_icmp .ge 12, 3) := by decide +kernel
theorem dX9_byteAt_8 : decode cX9_byteAt 8 = .ok (.aload_n 0, 1) := by decide +kernel
theorem dX9_byteAt_9 : decode cX9_byteAt 9 = .ok (.getfield 23, 3) := by decide +kernel
theorem dX9_byteAt_12 : decode cX9_byteAt 12 = .ok (.iload_n 1, 1) := by decide +kernel
theorem dX9_byteAt_13 : decode cX9_byteAt 13 = .ok (.iaload, 1) := by decide +kernel
theorem dX9_byteAt_14 : decode cX9_byteAt 14 = .ok (.goto 4, 3) := by decide +kernel
theorem dX9_byteAt_17 : decode cX9_byteAt 17 = .ok (.iconst 0, 1) := by decide +kernel
theorem dX9_byteAt_18 : decode cX9_byteAt 18 = .ok (.ireturn, 1) := by decide +kernel
theorem dX9_isLetter_0 : decode cX9_isLetter 0 = .ok (.iload_n 0, 1) := by decide +kernel
theorem dX9_isLetter_1 : decode cX9_isLetter 1 = .ok (.bipush 97, 2) := by decide +kernel
theorem dX9_isLetter_3 : decode cX9_isLetter 3 = .ok (.if_icmp .lt 13, 3) := by decide +kernel
theorem dX9_isLetter_6 : decode cX9_isLetter 6 = .ok (.iload_n 0, 1) := by decide +kernel
theorem dX9_isLetter_7 : decode cX9_isLetter 7 = .ok (.bipush 122, 2) := by decide +kernel
theorem dX9_isLetter_9 : decode cX9_isLetter 9 = .ok (.if_icmp .gt 7, 3) := by decide +kernel
theorem dX9_isLetter_12 : decode cX9_isLetter 12 = .ok (.iconst 1, 1) := by decide +kernel
theorem dX9_isLetter_13 : decode cX9_isLetter 13 = .ok (.goto 4, 3) := by decide +kernel
theorem dX9_isLetter_16 : decode cX9_isLetter 16 = .ok (.iconst 0, 1) := by decide +kernel
theorem dX9_isLetter_17 : decode cX9_isLetter 17 = .ok (.ireturn, 1) := by decide +kernel
theorem dX9_isDigit_0 : decode cX9_isDigit 0 = .ok (.iload_n 0, 1) := by decide +kernel
theorem dX9_isDigit_1 : decode cX9_isDigit 1 = .ok (.bipush 48, 2) := by decide +kernel
theorem dX9_isDigit_3 : decode cX9_isDigit 3 = .ok (.if_icmp .lt 13, 3) := by decide +kernel
theorem dX9_isDigit_6 : decode cX9_isDigit 6 = .ok (.iload_n 0, 1) := by decide +kernel
theorem dX9_isDigit_7 : decode cX9_isDigit 7 = .ok (.bipush 57, 2) := by decide +kernel
theorem dX9_isDigit_9 : decode cX9_isDigit 9 = .ok (.if_icmp .gt 7, 3) := by decide +kernel
theorem dX9_isDigit_12 : decode cX9_isDigit 12 = .ok (.iconst 1, 1) := by decide +kernel
theorem dX9_isDigit_13 : decode cX9_isDigit 13 = .ok (.goto 4, 3) := by decide +kernel
theorem dX9_isDigit_16 : decode cX9_isDigit 16 = .ok (.iconst 0, 1) := by decide +kernel
theorem dX9_isDigit_17 : decode cX9_isDigit 17 = .ok (.ireturn, 1) := by decide +kernel
theorem dX9_steps_0 : decode cX9_steps 0 = .ok (.aload_n 0, 1) := by decide +kernel
theorem dX9_steps_1 : decode cX9_steps 1 = .ok (.getfield 115, 3) := by decide +kernel
theorem dX9_steps_4 : decode cX9_steps 4 = .ok (.aload_n 0, 1) := by decide +kernel
theorem dX9_steps_5 : decode cX9_steps 5 = .ok (.getfield 112, 3) := by decide +kernel
theorem dX9_steps_8 : decode cX9_steps 8 = .ok (.if_icmp .ge 42, 3) := by decide +kernel
theorem dX9_steps_11 : decode cX9_steps 11 = .ok (.aload_n 0, 1) := by decide +kernel
theorem dX9_steps_12 : decode cX9_steps 12 = .ok (.aload_n 0, 1) := by decide +kernel
theorem dX9_steps_13 : decode cX9_steps 13 = .ok (.getfield 115, 3) := by decide +kernel
theorem dX9_steps_16 : decode cX9_steps 16 = .ok (.invokevirtual 118, 3) := by decide +kernel
theorem dX9_steps_19 : decode cX9_steps 19 = .ok (.bipush 32, 2) := by decide +kernel
theorem dX9_steps_21 : decode cX9_steps 21 = .ok (.if_icmp .eq 16, 3) := by decide +kernel
theorem dX9_steps_24 : decode cX9_steps 24 = .ok (.aload_n 0, 1) := by decide +kernel
theorem dX9_steps_25 : decode cX9_steps 25 = .ok (.aload_n 0, 1) := by decide +kernel
theorem dX9_steps_26 : decode cX9_steps 26 = .ok (.getfield 115, 3) := by decide +kernel
theorem dX9_steps_29 : decode cX9_steps 29 = .ok (.invokevirtual 118, 3) := by decide +kernel
theorem dX9_steps_32 : decode cX9_steps 32 = .ok (.bipush 10, 2) := by decide +kernel
theorem dX9_steps_34 : decode cX9_steps 34 = .ok (.if_icmp .ne 16, 3) := by decide +kernel
theorem dX9_steps_37 : decode cX9_steps 37 = .ok (.aload_n 0, 1) := by decide +kernel
theorem dX9_steps_38 : decode cX9_steps 38 = .ok (.dup, 1) := by decide +kernel
theorem dX9_steps_39 : decode cX9_steps 39 = .ok (.getfield 115, 3) := by decide +kernel
theorem dX9_steps_42 : decode cX9_steps 42 = .ok (.iconst 1, 1) := by decide +kernel
theorem dX9_steps_43 : decode cX9_steps 43 = .ok (.iadd, 1) := by decide +kernel
theorem dX9_steps_44 : decode cX9_steps 44 = .ok (.putfield 115, 3) := by decide +kernel
theorem dX9_steps_47 : decode cX9_steps 47 = .ok (.goto (-47), 3) := by decide +kernel
theorem dX9_steps_50 : decode cX9_steps 50 = .ok (.aload_n 0, 1) := by decide +kernel
theorem dX9_steps_51 : decode cX9_steps 51 = .ok (.aload_n 0, 1) := by decide +kernel
theorem dX9_steps_52 : decode cX9_steps 52 = .ok (.getfield 115, 3) := by decide +kernel
theorem dX9_steps_55 : decode cX9_steps 55 = .ok (.putfield 122, 3) := by decide +kernel
theorem dX9_steps_58 : decode cX9_steps 58 = .ok (.aload_n 0, 1) := by decide +kernel
theorem dX9_steps_59 : decode cX9_steps 59 = .ok (.lconst 0, 1) := by decide +kernel
theorem dX9_steps_60 : decode cX9_steps 60 = .ok (.putfield 125, 3) := by decide +kernel
theorem dX9_steps_63 : decode cX9_steps 63 = .ok (.aload_n 0, 1) := by decide +kernel
theorem dX9_steps_64 : decode cX9_steps 64 = .ok (.iconst 0, 1) := by decide +kernel
theorem dX9_steps_65 : decode cX9_steps 65 = .ok (.putfield 129, 3) := by decide +kernel
theorem dX9_steps_68 : decode cX9_steps 68 = .ok (.aload_n 0, 1) := by decide +kernel
theorem dX9_steps_69 : decode cX9_steps 69 = .ok (.aload_n 0, 1) := by decide +kernel
theorem dX9_steps_70 : decode cX9_steps 70 = .ok (.getfield 115, 3) := by decide +kernel
theorem dX9_steps_73 : decode cX9_steps 73 = .ok (.invokevirtual 118, 3) := by decide +kernel
theorem dX9_steps_76 : decode cX9_steps 76 = .ok (.istore_n 1, 1) := by decide +kernel
theorem dX9_steps_77 : decode cX9_steps 77 = .ok (.aload_n 0, 1) := by decide +kernel
theorem dX9_steps_78 : decode cX9_steps 78 = .ok (.iload_n 1, 1) := by decide +kernel
theorem dX9_steps_79 : decode cX9_steps 79 = .ok (.putfield 132, 3) := by decide +kernel
theorem dX9_steps_82 : decode cX9_steps 82 = .ok (.aload_n 0, 1) := by decide +kernel
theorem dX9_steps_83 : decode cX9_steps 83 = .ok (.getfield 115, 3) := by decide +kernel
theorem dX9_steps_86 : decode cX9_steps 86 = .ok (.aload_n 0, 1) := by decide +kernel
theorem dX9_steps_87 : decode cX9_steps 87 = .ok (.getfield 112, 3) := by decide +kernel
theorem dX9_steps_90 : decode cX9_steps 90 = .ok (.if_icmp .lt 11, 3) := by decide +kernel
theorem dX9_steps_93 : decode cX9_steps 93 = .ok (.aload_n 0, 1) := by decide +kernel
theorem dX9_steps_94 : decode cX9_steps 94 = .ok (.iconst 0, 1) := by decide +kernel
theorem dX9_steps_95 : decode cX9_steps 95 = .ok (.putfield 135, 3) := by decide +kernel
theorem dX9_steps_98 : decode cX9_steps 98 = .ok (.goto 209, 3) := by decide +kernel
theorem dX9_steps_101 : decode cX9_steps 101 = .ok (.iload_n 1, 1) := by decide +kernel
theorem dX9_steps_102 : decode cX9_steps 102 = .ok (.invokestatic 138, 3) := by decide +kernel
theorem dX9_steps_105 : decode cX9_steps 105 = .ok (.ifCond .eq 75, 3) := by decide +kernel
theorem dX9_steps_108 : decode cX9_steps 108 = .ok (.aload_n 0, 1) := by decide +kernel
theorem dX9_steps_109 : decode cX9_steps 109 = .ok (.aload_n 0, 1) := by decide +kernel
theorem dX9_steps_110 : decode cX9_steps 110 = .ok (.getfield 115, 3) := by decide +kernel
theorem dX9_steps_113 : decode cX9_steps 113 = .ok (.invokevirtual 118, 3) := by decide +kernel
theorem dX9_steps_116 : decode cX9_steps 116 = .ok (.invokestatic 138, 3) := by decide +kernel
theorem dX9_steps_119 : decode cX9_steps 119 = .ok (.ifCond .eq 53, 3) := by decide +kernel
theorem dX9_steps_122 : decode cX9_steps 122 = .ok (.aload_n 0, 1) := by decide +kernel
theorem dX9_steps_123 : decode cX9_steps 123 = .ok (.getfield 115, 3) := by decide +kernel
theorem dX9_steps_126 : decode cX9_steps 126 = .ok (.aload_n 0, 1) := by decide +kernel
theorem dX9_steps_127 : decode cX9_steps 127 = .ok (.getfield 122, 3) := by decide +kernel
theorem dX9_steps_130 : decode cX9_steps 130 = .ok (.isub, 1) := by decide +kernel
theorem dX9_steps_131 : decode cX9_steps 131 = .ok (.bipush 7, 2) := by decide +kernel
theorem dX9_steps_133 : decode cX9_steps 133 = .ok (.if_icmp .ge 26, 3) := by decide +kernel
theorem dX9_steps_136 : decode cX9_steps 136 = .ok (.aload_n 0, 1) := by decide +kernel
theorem dX9_steps_137 : decode cX9_steps 137 = .ok (.aload_n 0, 1) := by decide +kernel
theorem dX9_steps_138 : decode cX9_steps 138 = .ok (.getfield 125, 3) := by decide +kernel
theorem dX9_steps_141 : decode cX9_steps 141 = .ok (.iconst 5, 1) := by decide +kernel
theorem dX9_steps_142 : decode cX9_steps 142 = .ok (.lshl, 1) := by decide +kernel
theorem dX9_steps_143 : decode cX9_steps 143 = .ok (.aload_n 0, 1) := by decide +kernel
theorem dX9_steps_144 : decode cX9_steps 144 = .ok (.aload_n 0, 1) := by decide +kernel
theorem dX9_steps_145 : decode cX9_steps 145 = .ok (.getfield 115, 3) := by decide +kernel
theorem dX9_steps_148 : decode cX9_steps 148 = .ok (.invokevirtual 118, 3) := by decide +kernel
theorem dX9_steps_151 : decode cX9_steps 151 = .ok (.bipush 96, 2) := by decide +kernel
theorem dX9_steps_153 : decode cX9_steps 153 = .ok (.isub, 1) := by decide +kernel
theorem dX9_steps_154 : decode cX9_steps 154 = .ok (.i2l, 1) := by decide +kernel
theorem dX9_steps_155 : decode cX9_steps 155 = .ok (.lor, 1) := by decide +kernel
theorem dX9_steps_156 : decode cX9_steps 156 = .ok (.putfield 125, 3) := by decide +kernel
theorem dX9_steps_159 : decode cX9_steps 159 = .ok (.aload_n 0, 1) := by decide +kernel
theorem dX9_steps_160 : decode cX9_steps 160 = .ok (.dup, 1) := by decide +kernel
theorem dX9_steps_161 : decode cX9_steps 161 = .ok (.getfield 115, 3) := by decide +kernel
theorem dX9_steps_164 : decode cX9_steps 164 = .ok (.iconst 1, 1) := by decide +kernel
theorem dX9_steps_165 : decode cX9_steps 165 = .ok (.iadd, 1) := by decide +kernel
theorem dX9_steps_166 : decode cX9_steps 166 = .ok (.putfield 115, 3) := by decide +kernel
theorem dX9_steps_169 : decode cX9_steps 169 = .ok (.goto (-61), 3) := by decide +kernel
theorem dX9_steps_172 : decode cX9_steps 172 = .ok (.aload_n 0, 1) := by decide +kernel
theorem dX9_steps_173 : decode cX9_steps 173 = .ok (.iconst 1, 1) := by decide +kernel
theorem dX9_steps_174 : decode cX9_steps 174 = .ok (.putfield 135, 3) := by decide +kernel
theorem dX9_steps_177 : decode cX9_steps 177 = .ok (.goto 130, 3) := by decide +kernel
theorem dX9_steps_180 : decode cX9_steps 180 = .ok (.iload_n 1, 1) := by decide +kernel
theorem dX9_steps_181 : decode cX9_steps 181 = .ok (.invokestatic 142, 3) := by decide +kernel
theorem dX9_steps_184 : decode cX9_steps 184 = .ok (.ifCond .eq 74, 3) := by decide +kernel
theorem dX9_steps_187 : decode cX9_steps 187 = .ok (.aload_n 0, 1) := by decide +kernel
theorem dX9_steps_188 : decode cX9_steps 188 = .ok (.aload_n 0, 1) := by decide +kernel
theorem dX9_steps_189 : decode cX9_steps 189 = .ok (.getfield 115, 3) := by decide +kernel
theorem dX9_steps_192 : decode cX9_steps 192 = .ok (.invokevirtual 118, 3) := by decide +kernel
theorem dX9_steps_195 : decode cX9_steps 195 = .ok (.invokestatic 142, 3) := by decide +kernel
theorem dX9_steps_198 : decode cX9_steps 198 = .ok (.ifCond .eq 52, 3) := by decide +kernel
theorem dX9_steps_201 : decode cX9_steps 201 = .ok (.aload_n 0, 1) := by decide +kernel
theorem dX9_steps_202 : decode cX9_steps 202 = .ok (.getfield 115, 3) := by decide +kernel
theorem dX9_steps_205 : decode cX9_steps 205 = .ok (.aload_n 0, 1) := by decide +kernel
theorem dX9_steps_206 : decode cX9_steps 206 = .ok (.getfield 122, 3) := by decide +kernel
theorem dX9_steps_209 : decode cX9_steps 209 = .ok (.isub, 1) := by decide +kernel
theorem dX9_steps_210 : decode cX9_steps 210 = .ok (.iconst 4, 1) := by decide +kernel
theorem dX9_steps_211 : decode cX9_steps 211 = .ok (.if_icmp .ge 26, 3) := by decide +kernel
theorem dX9_steps_214 : decode cX9_steps 214 = .ok (.aload_n 0, 1) := by decide +kernel
theorem dX9_steps_215 : decode cX9_steps 215 = .ok (.bipush 10, 2) := by decide +kernel
theorem dX9_steps_217 : decode cX9_steps 217 = .ok (.aload_n 0, 1) := by decide +kernel
theorem dX9_steps_218 : decode cX9_steps 218 = .ok (.getfield 129, 3) := by decide +kernel
theorem dX9_steps_221 : decode cX9_steps 221 = .ok (.imul, 1) := by decide +kernel
theorem dX9_steps_222 : decode cX9_steps 222 = .ok (.aload_n 0, 1) := by decide +kernel
theorem dX9_steps_223 : decode cX9_steps 223 = .ok (.aload_n 0, 1) := by decide +kernel
theorem dX9_steps_224 : decode cX9_steps 224 = .ok (.getfield 115, 3) := by decide +kernel
theorem dX9_steps_227 : decode cX9_steps 227 = .ok (.invokevirtual 118, 3) := by decide +kernel
theorem dX9_steps_230 : decode cX9_steps 230 = .ok (.iadd, 1) := by decide +kernel
theorem dX9_steps_231 : decode cX9_steps 231 = .ok (.bipush 48, 2) := by decide +kernel
theorem dX9_steps_233 : decode cX9_steps 233 = .ok (.isub, 1) := by decide +kernel
theorem dX9_steps_234 : decode cX9_steps 234 = .ok (.putfield 129, 3) := by decide +kernel
theorem dX9_steps_237 : decode cX9_steps 237 = .ok (.aload_n 0, 1) := by decide +kernel
theorem dX9_steps_238 : decode cX9_steps 238 = .ok (.dup, 1) := by decide +kernel
theorem dX9_steps_239 : decode cX9_steps 239 = .ok (.getfield 115, 3) := by decide +kernel
theorem dX9_steps_242 : decode cX9_steps 242 = .ok (.iconst 1, 1) := by decide +kernel
theorem dX9_steps_243 : decode cX9_steps 243 = .ok (.iadd, 1) := by decide +kernel
theorem dX9_steps_244 : decode cX9_steps 244 = .ok (.putfield 115, 3) := by decide +kernel
theorem dX9_steps_247 : decode cX9_steps 247 = .ok (.goto (-60), 3) := by decide +kernel
theorem dX9_steps_250 : decode cX9_steps 250 = .ok (.aload_n 0, 1) := by decide +kernel
theorem dX9_steps_251 : decode cX9_steps 251 = .ok (.iconst 2, 1) := by decide +kernel
theorem dX9_steps_252 : decode cX9_steps 252 = .ok (.putfield 135, 3) := by decide +kernel
theorem dX9_steps_255 : decode cX9_steps 255 = .ok (.goto 52, 3) := by decide +kernel
theorem dX9_steps_258 : decode cX9_steps 258 = .ok (.aload_n 0, 1) := by decide +kernel
theorem dX9_steps_259 : decode cX9_steps 259 = .ok (.dup, 1) := by decide +kernel
theorem dX9_steps_260 : decode cX9_steps 260 = .ok (.getfield 115, 3) := by decide +kernel
theorem dX9_steps_263 : decode cX9_steps 263 = .ok (.iconst 1, 1) := by decide +kernel
theorem dX9_steps_264 : decode cX9_steps 264 = .ok (.iadd, 1) := by decide +kernel
theorem dX9_steps_265 : decode cX9_steps 265 = .ok (.putfield 115, 3) := by decide +kernel
theorem dX9_steps_268 : decode cX9_steps 268 = .ok (.aload_n 0, 1) := by decide +kernel
theorem dX9_steps_269 : decode cX9_steps 269 = .ok (.iload_n 1, 1) := by decide +kernel
theorem dX9_steps_270 : decode cX9_steps 270 = .ok (.bipush 59, 2) := by decide +kernel
theorem dX9_steps_272 : decode cX9_steps 272 = .ok (.if_icmp .eq 27, 3) := by decide +kernel
theorem dX9_steps_275 : decode cX9_steps 275 = .ok (.iload_n 1, 1) := by decide +kernel
theorem dX9_steps_276 : decode cX9_steps 276 = .ok (.bipush 45, 2) := by decide +kernel
theorem dX9_steps_278 : decode cX9_steps 278 = .ok (.if_icmp .eq 21, 3) := by decide +kernel
theorem dX9_steps_281 : decode cX9_steps 281 = .ok (.iload_n 1, 1) := by decide +kernel
theorem dX9_steps_282 : decode cX9_steps 282 = .ok (.bipush 40, 2) := by decide +kernel
theorem dX9_steps_284 : decode cX9_steps 284 = .ok (.if_icmp .eq 15, 3) := by decide +kernel
theorem dX9_steps_287 : decode cX9_steps 287 = .ok (.iload_n 1, 1) := by decide +kernel
theorem dX9_steps_288 : decode cX9_steps 288 = .ok (.bipush 41, 2) := by decide +kernel
theorem dX9_steps_290 : decode cX9_steps 290 = .ok (.if_icmp .eq 9, 3) := by decide +kernel
theorem dX9_steps_293 : decode cX9_steps 293 = .ok (.iload_n 1, 1) := by decide +kernel
theorem dX9_steps_294 : decode cX9_steps 294 = .ok (.bipush 44, 2) := by decide +kernel
theorem dX9_steps_296 : decode cX9_steps 296 = .ok (.if_icmp .ne 7, 3) := by decide +kernel
theorem dX9_steps_299 : decode cX9_steps 299 = .ok (.iconst 3, 1) := by decide +kernel
theorem dX9_steps_300 : decode cX9_steps 300 = .ok (.goto 4, 3) := by decide +kernel
theorem dX9_steps_303 : decode cX9_steps 303 = .ok (.iconst 4, 1) := by decide +kernel
theorem dX9_steps_304 : decode cX9_steps 304 = .ok (.putfield 135, 3) := by decide +kernel
theorem dX9_steps_307 : decode cX9_steps 307 = .ok (.aload_n 0, 1) := by decide +kernel
theorem dX9_steps_308 : decode cX9_steps 308 = .ok (.aload_n 0, 1) := by decide +kernel
theorem dX9_steps_309 : decode cX9_steps 309 = .ok (.getfield 115, 3) := by decide +kernel
theorem dX9_steps_312 : decode cX9_steps 312 = .ok (.aload_n 0, 1) := by decide +kernel
theorem dX9_steps_313 : decode cX9_steps 313 = .ok (.getfield 122, 3) := by decide +kernel
theorem dX9_steps_316 : decode cX9_steps 316 = .ok (.isub, 1) := by decide +kernel
theorem dX9_steps_317 : decode cX9_steps 317 = .ok (.putfield 145, 3) := by decide +kernel
theorem dX9_steps_320 : decode cX9_steps 320 = .ok (.return_, 1) := by decide +kernel
theorem dX9_spelled_0 : decode cX9_spelled 0 = .ok (.iload_n 0, 1) := by decide +kernel
theorem dX9_spelled_1 : decode cX9_spelled 1 = .ok (.i2l, 1) := by decide +kernel
theorem dX9_spelled_2 : decode cX9_spelled 2 = .ok (.ldc2_w 148, 3) := by decide +kernel
theorem dX9_spelled_5 : decode cX9_spelled 5 = .ok (.lsub, 1) := by decide +kernel
theorem dX9_spelled_6 : decode cX9_spelled 6 = .ok (.iconst 5, 1) := by decide +kernel
theorem dX9_spelled_7 : decode cX9_spelled 7 = .ok (.lshl, 1) := by decide +kernel
theorem dX9_spelled_8 : decode cX9_spelled 8 = .ok (.iload_n 1, 1) := by decide +kernel
theorem dX9_spelled_9 : decode cX9_spelled 9 = .ok (.bipush 96, 2) := by decide +kernel
theorem dX9_spelled_11 : decode cX9_spelled 11 = .ok (.isub, 1) := by decide +kernel
theorem dX9_spelled_12 : decode cX9_spelled 12 = .ok (.i2l, 1) := by decide +kernel
theorem dX9_spelled_13 : decode cX9_spelled 13 = .ok (.lor, 1) := by decide +kernel
theorem dX9_spelled_14 : decode cX9_spelled 14 = .ok (.lstore 7, 2) := by decide +kernel
theorem dX9_spelled_16 : decode cX9_spelled 16 = .ok (.iload_n 2, 1) := by decide +kernel
theorem dX9_spelled_17 : decode cX9_spelled 17 = .ok (.ifCond .eq 15, 3) := by decide +kernel
theorem dX9_spelled_20 : decode cX9_spelled 20 = .ok (.lload 7, 2) := by decide +kernel
theorem dX9_spelled_22 : decode cX9_spelled 22 = .ok (.iconst 5, 1) := by decide +kernel
theorem dX9_spelled_23 : decode cX9_spelled 23 = .ok (.lshl, 1) := by decide +kernel
theorem dX9_spelled_24 : decode cX9_spelled 24 = .ok (.iload_n 2, 1) := by decide +kernel
theorem dX9_spelled_25 : decode cX9_spelled 25 = .ok (.bipush 96, 2) := by decide +kernel
theorem dX9_spelled_27 : decode cX9_spelled 27 = .ok (.isub, 1) := by decide +kernel
theorem dX9_spelled_28 : decode cX9_spelled 28 = .ok (.i2l, 1) := by decide +kernel
theorem dX9_spelled_29 : decode cX9_spelled 29 = .ok (.lor, 1) := by decide +kernel
theorem dX9_spelled_30 : decode cX9_spelled 30 = .ok (.lstore 7, 2) := by decide +kernel
theorem dX9_spelled_32 : decode cX9_spelled 32 = .ok (.iload_n 3, 1) := by decide +kernel
theorem dX9_spelled_33 : decode cX9_spelled 33 = .ok (.ifCond .eq 15, 3) := by decide +kernel
theorem dX9_spelled_36 : decode cX9_spelled 36 = .ok (.lload 7, 2) := by decide +kernel
theorem dX9_spelled_38 : decode cX9_spelled 38 = .ok (.iconst 5, 1) := by decide +kernel
theorem dX9_spelled_39 : decode cX9_spelled 39 = .ok (.lshl, 1) := by decide +kernel
theorem dX9_spelled_40 : decode cX9_spelled 40 = .ok (.iload_n 3, 1) := by decide +kernel
theorem dX9_spelled_41 : decode cX9_spelled 41 = .ok (.bipush 96, 2) := by decide +kernel
theorem dX9_spelled_43 : decode cX9_spelled 43 = .ok (.isub, 1) := by decide +kernel
theorem dX9_spelled_44 : decode cX9_spelled 44 = .ok (.i2l, 1) := by decide +kernel
theorem dX9_spelled_45 : decode cX9_spelled 45 = .ok (.lor, 1) := by decide +kernel
theorem dX9_spelled_46 : decode cX9_spelled 46 = .ok (.lstore 7, 2) := by decide +kernel
theorem dX9_spelled_48 : decode cX9_spelled 48 = .ok (.iload 4, 2) := by decide +kernel
theorem dX9_spelled_50 : decode cX9_spelled 50 = .ok (.ifCond .eq 16, 3) := by decide +kernel
theorem dX9_spelled_53 : decode cX9_spelled 53 = .ok (.lload 7, 2) := by decide +kernel
theorem dX9_spelled_55 : decode cX9_spelled 55 = .ok (.iconst 5, 1) := by decide +kernel
theorem dX9_spelled_56 : decode cX9_spelled 56 = .ok (.lshl, 1) := by decide +kernel
theorem dX9_spelled_57 : decode cX9_spelled 57 = .ok (.iload 4, 2) := by decide +kernel
theorem dX9_spelled_59 : decode cX9_spelled 59 = .ok (.bipush 96, 2) := by decide +kernel
theorem dX9_spelled_61 : decode cX9_spelled 61 = .ok (.isub, 1) := by decide +kernel
theorem dX9_spelled_62 : decode cX9_spelled 62 = .ok (.i2l, 1) := by decide +kernel
theorem dX9_spelled_63 : decode cX9_spelled 63 = .ok (.lor, 1) := by decide +kernel
theorem dX9_spelled_64 : decode cX9_spelled 64 = .ok (.lstore 7, 2) := by decide +kernel
theorem dX9_spelled_66 : decode cX9_spelled 66 = .ok (.iload 5, 2) := by decide +kernel
theorem dX9_spelled_68 : decode cX9_spelled 68 = .ok (.ifCond .eq 16, 3) := by decide +kernel
theorem dX9_spelled_71 : decode cX9_spelled 71 = .ok (.lload 7, 2) := by decide +kernel
theorem dX9_spelled_73 : decode cX9_spelled 73 = .ok (.iconst 5, 1) := by decide +kernel
theorem dX9_spelled_74 : decode cX9_spelled 74 = .ok (.lshl, 1) := by decide +kernel
theorem dX9_spelled_75 : decode cX9_spelled 75 = .ok (.iload 5, 2) := by decide +kernel
theorem dX9_spelled_77 : decode cX9_spelled 77 = .ok (.bipush 96, 2) := by decide +kernel
theorem dX9_spelled_79 : decode cX9_spelled 79 = .ok (.isub, 1) := by decide +kernel
theorem dX9_spelled_80 : decode cX9_spelled 80 = .ok (.i2l, 1) := by decide +kernel
theorem dX9_spelled_81 : decode cX9_spelled 81 = .ok (.lor, 1) := by decide +kernel
theorem dX9_spelled_82 : decode cX9_spelled 82 = .ok (.lstore 7, 2) := by decide +kernel
theorem dX9_spelled_84 : decode cX9_spelled 84 = .ok (.iload 6, 2) := by decide +kernel
theorem dX9_spelled_86 : decode cX9_spelled 86 = .ok (.ifCond .eq 16, 3) := by decide +kernel
theorem dX9_spelled_89 : decode cX9_spelled 89 = .ok (.lload 7, 2) := by decide +kernel
theorem dX9_spelled_91 : decode cX9_spelled 91 = .ok (.iconst 5, 1) := by decide +kernel
theorem dX9_spelled_92 : decode cX9_spelled 92 = .ok (.lshl, 1) := by decide +kernel
theorem dX9_spelled_93 : decode cX9_spelled 93 = .ok (.iload 6, 2) := by decide +kernel
theorem dX9_spelled_95 : decode cX9_spelled 95 = .ok (.bipush 96, 2) := by decide +kernel
theorem dX9_spelled_97 : decode cX9_spelled 97 = .ok (.isub, 1) := by decide +kernel
theorem dX9_spelled_98 : decode cX9_spelled 98 = .ok (.i2l, 1) := by decide +kernel
theorem dX9_spelled_99 : decode cX9_spelled 99 = .ok (.lor, 1) := by decide +kernel
theorem dX9_spelled_100 : decode cX9_spelled 100 = .ok (.lstore 7, 2) := by decide +kernel
theorem dX9_spelled_102 : decode cX9_spelled 102 = .ok (.lload 7, 2) := by decide +kernel
theorem dX9_spelled_104 : decode cX9_spelled 104 = .ok (.lreturn, 1) := by decide +kernel
theorem dX9_letters_0 : decode cX9_letters 0 = .ok (.iload_n 0, 1) := by decide +kernel
theorem dX9_letters_1 : decode cX9_letters 1 = .ok (.tableswitch 442 0 21 #[103, 118, 133, 148, 163, 180, 198, 213, 229, 245, 261, 277, 294, 310, 325, 340, 353, 368, 383, 397, 411, 426], 103) := by decide +kernel
theorem dX9_letters_104 : decode cX9_letters 104 = .ok (.bipush 101, 2) := by decide +kernel
theorem dX9_letters_106 : decode cX9_letters 106 = .ok (.bipush 97, 2) := by decide +kernel
theorem dX9_letters_108 : decode cX9_letters 108 = .ok (.bipush 115, 2) := by decide +kernel
theorem dX9_letters_110 : decode cX9_letters 110 = .ok (.bipush 116, 2) := by decide +kernel
theorem dX9_letters_112 : decode cX9_letters 112 = .ok (.iconst 0, 1) := by decide +kernel
theorem dX9_letters_113 : decode cX9_letters 113 = .ok (.iconst 0, 1) := by decide +kernel
theorem dX9_letters_114 : decode cX9_letters 114 = .ok (.iconst 0, 1) := by decide +kernel
theorem dX9_letters_115 : decode cX9_letters 115 = .ok (.invokestatic 150, 3) := by decide +kernel
theorem dX9_letters_118 : decode cX9_letters 118 = .ok (.lreturn, 1) := by decide +kernel
theorem dX9_letters_119 : decode cX9_letters 119 = .ok (.bipush 119, 2) := by decide +kernel
theorem dX9_letters_121 : decode cX9_letters 121 = .ok (.bipush 101, 2) := by decide +kernel
theorem dX9_letters_123 : decode cX9_letters 123 = .ok (.bipush 115, 2) := by decide +kernel
theorem dX9_letters_125 : decode cX9_letters 125 = .ok (.bipush 116, 2) := by decide +kernel
theorem dX9_letters_127 : decode cX9_letters 127 = .ok (.iconst 0, 1) := by decide +kernel
theorem dX9_letters_128 : decode cX9_letters 128 = .ok (.iconst 0, 1) := by decide +kernel
theorem dX9_letters_129 : decode cX9_letters 129 = .ok (.iconst 0, 1) := by decide +kernel
theorem dX9_letters_130 : decode cX9_letters 130 = .ok (.invokestatic 150, 3) := by decide +kernel
theorem dX9_letters_133 : decode cX9_letters 133 = .ok (.lreturn, 1) := by decide +kernel
theorem dX9_letters_134 : decode cX9_letters 134 = .ok (.bipush 98, 2) := by decide +kernel
theorem dX9_letters_136 : decode cX9_letters 136 = .ok (.bipush 111, 2) := by decide +kernel
theorem dX9_letters_138 : decode cX9_letters 138 = .ok (.bipush 119, 2) := by decide +kernel
theorem dX9_letters_140 : decode cX9_letters 140 = .ok (.bipush 108, 2) := by decide +kernel
theorem dX9_letters_142 : decode cX9_letters 142 = .ok (.iconst 0, 1) := by decide +kernel
theorem dX9_letters_143 : decode cX9_letters 143 = .ok (.iconst 0, 1) := by decide +kernel
theorem dX9_letters_144 : decode cX9_letters 144 = .ok (.iconst 0, 1) := by decide +kernel
theorem dX9_letters_145 : decode cX9_letters 145 = .ok (.invokestatic 150, 3) := by decide +kernel
theorem dX9_letters_148 : decode cX9_letters 148 = .ok (.lreturn, 1) := by decide +kernel
theorem dX9_letters_149 : decode cX9_letters 149 = .ok (.bipush 109, 2) := by decide +kernel
theorem dX9_letters_151 : decode cX9_letters 151 = .ok (.bipush 111, 2) := by decide +kernel
theorem dX9_letters_153 : decode cX9_letters 153 = .ok (.bipush 111, 2) := by decide +kernel
theorem dX9_letters_155 : decode cX9_letters 155 = .ok (.bipush 110, 2) := by decide +kernel
theorem dX9_letters_157 : decode cX9_letters 157 = .ok (.iconst 0, 1) := by decide +kernel
theorem dX9_letters_158 : decode cX9_letters 158 = .ok (.iconst 0, 1) := by decide +kernel
theorem dX9_letters_159 : decode cX9_letters 159 = .ok (.iconst 0, 1) := by decide +kernel
theorem dX9_letters_160 : decode cX9_letters 160 = .ok (.invokestatic 150, 3) := by decide +kernel
theorem dX9_letters_163 : decode cX9_letters 163 = .ok (.lreturn, 1) := by decide +kernel
theorem dX9_letters_164 : decode cX9_letters 164 = .ok (.bipush 99, 2) := by decide +kernel
theorem dX9_letters_166 : decode cX9_letters 166 = .ok (.bipush 97, 2) := by decide +kernel
theorem dX9_letters_168 : decode cX9_letters 168 = .ok (.bipush 110, 2) := by decide +kernel
theorem dX9_letters_170 : decode cX9_letters 170 = .ok (.bipush 110, 2) := by decide +kernel
theorem dX9_letters_172 : decode cX9_letters 172 = .ok (.bipush 111, 2) := by decide +kernel
theorem dX9_letters_174 : decode cX9_letters 174 = .ok (.bipush 110, 2) := by decide +kernel
theorem dX9_letters_176 : decode cX9_letters 176 = .ok (.iconst 0, 1) := by decide +kernel
theorem dX9_letters_177 : decode cX9_letters 177 = .ok (.invokestatic 150, 3) := by decide +kernel
theorem dX9_letters_180 : decode cX9_letters 180 = .ok (.lreturn, 1) := by decide +kernel
theorem dX9_letters_181 : decode cX9_letters 181 = .ok (.bipush 112, 2) := by decide +kernel
theorem dX9_letters_183 : decode cX9_letters 183 = .ok (.bipush 97, 2) := by decide +kernel
theorem dX9_letters_185 : decode cX9_letters 185 = .ok (.bipush 105, 2) := by decide +kernel
theorem dX9_letters_187 : decode cX9_letters 187 = .ok (.bipush 110, 2) := by decide +kernel
theorem dX9_letters_189 : decode cX9_letters 189 = .ok (.bipush 116, 2) := by decide +kernel
theorem dX9_letters_191 : decode cX9_letters 191 = .ok (.bipush 101, 2) := by decide +kernel
theorem dX9_letters_193 : decode cX9_letters 193 = .ok (.bipush 100, 2) := by decide +kernel
theorem dX9_letters_195 : decode cX9_letters 195 = .ok (.invokestatic 150, 3) := by decide +kernel
theorem dX9_letters_198 : decode cX9_letters 198 = .ok (.lreturn, 1) := by decide +kernel
theorem dX9_letters_199 : decode cX9_letters 199 = .ok (.bipush 100, 2) := by decide +kernel
theorem dX9_letters_201 : decode cX9_letters 201 = .ok (.bipush 105, 2) := by decide +kernel
theorem dX9_letters_203 : decode cX9_letters 203 = .ok (.bipush 97, 2) := by decide +kernel
theorem dX9_letters_205 : decode cX9_letters 205 = .ok (.bipush 108, 2) := by decide +kernel
theorem dX9_letters_207 : decode cX9_letters 207 = .ok (.iconst 0, 1) := by decide +kernel
theorem dX9_letters_208 : decode cX9_letters 208 = .ok (.iconst 0, 1) := by decide +kernel
theorem dX9_letters_209 : decode cX9_letters 209 = .ok (.iconst 0, 1) := by decide +kernel
theorem dX9_letters_210 : decode cX9_letters 210 = .ok (.invokestatic 150, 3) := by decide +kernel
theorem dX9_letters_213 : decode cX9_letters 213 = .ok (.lreturn, 1) := by decide +kernel
theorem dX9_letters_214 : decode cX9_letters 214 = .ok (.bipush 103, 2) := by decide +kernel
theorem dX9_letters_216 : decode cX9_letters 216 = .ok (.bipush 114, 2) := by decide +kernel
theorem dX9_letters_218 : decode cX9_letters 218 = .ok (.bipush 111, 2) := by decide +kernel
theorem dX9_letters_220 : decode cX9_letters 220 = .ok (.bipush 119, 2) := by decide +kernel
theorem dX9_letters_222 : decode cX9_letters 222 = .ok (.bipush 110, 2) := by decide +kernel
theorem dX9_letters_224 : decode cX9_letters 224 = .ok (.iconst 0, 1) := by decide +kernel
theorem dX9_letters_225 : decode cX9_letters 225 = .ok (.iconst 0, 1) := by decide +kernel
theorem dX9_letters_226 : decode cX9_letters 226 = .ok (.invokestatic 150, 3) := by decide +kernel
theorem dX9_letters_229 : decode cX9_letters 229 = .ok (.lreturn, 1) := by decide +kernel
theorem dX9_letters_230 : decode cX9_letters 230 = .ok (.bipush 108, 2) := by decide +kernel
theorem dX9_letters_232 : decode cX9_letters 232 = .ok (.bipush 105, 2) := by decide +kernel
theorem dX9_letters_234 : decode cX9_letters 234 = .ok (.bipush 109, 2) := by decide +kernel
theorem dX9_letters_236 : decode cX9_letters 236 = .ok (.bipush 112, 2) := by decide +kernel
theorem dX9_letters_238 : decode cX9_letters 238 = .ok (.bipush 115, 2) := by decide +kernel
theorem dX9_letters_240 : decode cX9_letters 240 = .ok (.iconst 0, 1) := by decide +kernel
theorem dX9_letters_241 : decode cX9_letters 241 = .ok (.iconst 0, 1) := by decide +kernel
theorem dX9_letters_242 : decode cX9_letters 242 = .ok (.invokestatic 150, 3) := by decide +kernel
theorem dX9_letters_245 : decode cX9_letters 245 = .ok (.lreturn, 1) := by decide +kernel
theorem dX9_letters_246 : decode cX9_letters 246 = .ok (.bipush 115, 2) := by decide +kernel
theorem dX9_letters_248 : decode cX9_letters 248 = .ok (.bipush 119, 2) := by decide +kernel
theorem dX9_letters_250 : decode cX9_letters 250 = .ok (.bipush 105, 2) := by decide +kernel
theorem dX9_letters_252 : decode cX9_letters 252 = .ok (.bipush 110, 2) := by decide +kernel
theorem dX9_letters_254 : decode cX9_letters 254 = .ok (.bipush 103, 2) := by decide +kernel
theorem dX9_letters_256 : decode cX9_letters 256 = .ok (.iconst 0, 1) := by decide +kernel
theorem dX9_letters_257 : decode cX9_letters 257 = .ok (.iconst 0, 1) := by decide +kernel
theorem dX9_letters_258 : decode cX9_letters 258 = .ok (.invokestatic 150, 3) := by decide +kernel
theorem dX9_letters_261 : decode cX9_letters 261 = .ok (.lreturn, 1) := by decide +kernel
theorem dX9_letters_262 : decode cX9_letters 262 = .ok (.bipush 99, 2) := by decide +kernel
theorem dX9_letters_264 : decode cX9_letters 264 = .ok (.bipush 108, 2) := by decide +kernel
theorem dX9_letters_266 : decode cX9_letters 266 = .ok (.bipush 111, 2) := by decide +kernel
theorem dX9_letters_268 : decode cX9_letters 268 = .ok (.bipush 117, 2) := by decide +kernel
theorem dX9_letters_270 : decode cX9_letters 270 = .ok (.bipush 100, 2) := by decide +kernel
theorem dX9_letters_272 : decode cX9_letters 272 = .ok (.iconst 0, 1) := by decide +kernel
theorem dX9_letters_273 : decode cX9_letters 273 = .ok (.iconst 0, 1) := by decide +kernel
theorem dX9_letters_274 : decode cX9_letters 274 = .ok (.invokestatic 150, 3) := by decide +kernel
theorem dX9_letters_277 : decode cX9_letters 277 = .ok (.lreturn, 1) := by decide +kernel
theorem dX9_letters_278 : decode cX9_letters 278 = .ok (.bipush 109, 2) := by decide +kernel
theorem dX9_letters_280 : decode cX9_letters 280 = .ok (.bipush 105, 2) := by decide +kernel
theorem dX9_letters_282 : decode cX9_letters 282 = .ok (.bipush 100, 2) := by decide +kernel
theorem dX9_letters_284 : decode cX9_letters 284 = .ok (.bipush 100, 2) := by decide +kernel
theorem dX9_letters_286 : decode cX9_letters 286 = .ok (.bipush 108, 2) := by decide +kernel
theorem dX9_letters_288 : decode cX9_letters 288 = .ok (.bipush 101, 2) := by decide +kernel
theorem dX9_letters_290 : decode cX9_letters 290 = .ok (.iconst 0, 1) := by decide +kernel
theorem dX9_letters_291 : decode cX9_letters 291 = .ok (.invokestatic 150, 3) := by decide +kernel
theorem dX9_letters_294 : decode cX9_letters 294 = .ok (.lreturn, 1) := by decide +kernel
theorem dX9_letters_295 : decode cX9_letters 295 = .ok (.bipush 102, 2) := by decide +kernel
theorem dX9_letters_297 : decode cX9_letters 297 = .ok (.bipush 105, 2) := by decide +kernel
theorem dX9_letters_299 : decode cX9_letters 299 = .ok (.bipush 114, 2) := by decide +kernel
theorem dX9_letters_301 : decode cX9_letters 301 = .ok (.bipush 115, 2) := by decide +kernel
theorem dX9_letters_303 : decode cX9_letters 303 = .ok (.bipush 116, 2) := by decide +kernel
theorem dX9_letters_305 : decode cX9_letters 305 = .ok (.iconst 0, 1) := by decide +kernel
theorem dX9_letters_306 : decode cX9_letters 306 = .ok (.iconst 0, 1) := by decide +kernel
theorem dX9_letters_307 : decode cX9_letters 307 = .ok (.invokestatic 150, 3) := by decide +kernel
theorem dX9_letters_310 : decode cX9_letters 310 = .ok (.lreturn, 1) := by decide +kernel
theorem dX9_letters_311 : decode cX9_letters 311 = .ok (.bipush 109, 2) := by decide +kernel
theorem dX9_letters_313 : decode cX9_letters 313 = .ok (.bipush 101, 2) := by decide +kernel
theorem dX9_letters_315 : decode cX9_letters 315 = .ok (.bipush 97, 2) := by decide +kernel
theorem dX9_letters_317 : decode cX9_letters 317 = .ok (.bipush 110, 2) := by decide +kernel
theorem dX9_letters_319 : decode cX9_letters 319 = .ok (.iconst 0, 1) := by decide +kernel
theorem dX9_letters_320 : decode cX9_letters 320 = .ok (.iconst 0, 1) := by decide +kernel
theorem dX9_letters_321 : decode cX9_letters 321 = .ok (.iconst 0, 1) := by decide +kernel
theorem dX9_letters_322 : decode cX9_letters 322 = .ok (.invokestatic 150, 3) := by decide +kernel
theorem dX9_letters_325 : decode cX9_letters 325 = .ok (.lreturn, 1) := by decide +kernel
theorem dX9_letters_326 : decode cX9_letters 326 = .ok (.bipush 108, 2) := by decide +kernel
theorem dX9_letters_328 : decode cX9_letters 328 = .ok (.bipush 97, 2) := by decide +kernel
theorem dX9_letters_330 : decode cX9_letters 330 = .ok (.bipush 116, 2) := by decide +kernel
theorem dX9_letters_332 : decode cX9_letters 332 = .ok (.bipush 101, 2) := by decide +kernel
theorem dX9_letters_334 : decode cX9_letters 334 = .ok (.iconst 0, 1) := by decide +kernel
theorem dX9_letters_335 : decode cX9_letters 335 = .ok (.iconst 0, 1) := by decide +kernel
theorem dX9_letters_336 : decode cX9_letters 336 = .ok (.iconst 0, 1) := by decide +kernel
theorem dX9_letters_337 : decode cX9_letters 337 = .ok (.invokestatic 150, 3) := by decide +kernel
theorem dX9_letters_340 : decode cX9_letters 340 = .ok (.lreturn, 1) := by decide +kernel
theorem dX9_letters_341 : decode cX9_letters 341 = .ok (.bipush 105, 2) := by decide +kernel
theorem dX9_letters_343 : decode cX9_letters 343 = .ok (.bipush 102, 2) := by decide +kernel
theorem dX9_letters_345 : decode cX9_letters 345 = .ok (.iconst 0, 1) := by decide +kernel
theorem dX9_letters_346 : decode cX9_letters 346 = .ok (.iconst 0, 1) := by decide +kernel
theorem dX9_letters_347 : decode cX9_letters 347 = .ok (.iconst 0, 1) := by decide +kernel
theorem dX9_letters_348 : decode cX9_letters 348 = .ok (.iconst 0, 1) := by decide +kernel
theorem dX9_letters_349 : decode cX9_letters 349 = .ok (.iconst 0, 1) := by decide +kernel
theorem dX9_letters_350 : decode cX9_letters 350 = .ok (.invokestatic 150, 3) := by decide +kernel
theorem dX9_letters_353 : decode cX9_letters 353 = .ok (.lreturn, 1) := by decide +kernel
theorem dX9_letters_354 : decode cX9_letters 354 = .ok (.bipush 116, 2) := by decide +kernel
theorem dX9_letters_356 : decode cX9_letters 356 = .ok (.bipush 104, 2) := by decide +kernel
theorem dX9_letters_358 : decode cX9_letters 358 = .ok (.bipush 101, 2) := by decide +kernel
theorem dX9_letters_360 : decode cX9_letters 360 = .ok (.bipush 110, 2) := by decide +kernel
theorem dX9_letters_362 : decode cX9_letters 362 = .ok (.iconst 0, 1) := by decide +kernel
theorem dX9_letters_363 : decode cX9_letters 363 = .ok (.iconst 0, 1) := by decide +kernel
theorem dX9_letters_364 : decode cX9_letters 364 = .ok (.iconst 0, 1) := by decide +kernel
theorem dX9_letters_365 : decode cX9_letters 365 = .ok (.invokestatic 150, 3) := by decide +kernel
theorem dX9_letters_368 : decode cX9_letters 368 = .ok (.lreturn, 1) := by decide +kernel
theorem dX9_letters_369 : decode cX9_letters 369 = .ok (.bipush 101, 2) := by decide +kernel
theorem dX9_letters_371 : decode cX9_letters 371 = .ok (.bipush 108, 2) := by decide +kernel
theorem dX9_letters_373 : decode cX9_letters 373 = .ok (.bipush 115, 2) := by decide +kernel
theorem dX9_letters_375 : decode cX9_letters 375 = .ok (.bipush 101, 2) := by decide +kernel
theorem dX9_letters_377 : decode cX9_letters 377 = .ok (.iconst 0, 1) := by decide +kernel
theorem dX9_letters_378 : decode cX9_letters 378 = .ok (.iconst 0, 1) := by decide +kernel
theorem dX9_letters_379 : decode cX9_letters 379 = .ok (.iconst 0, 1) := by decide +kernel
theorem dX9_letters_380 : decode cX9_letters 380 = .ok (.invokestatic 150, 3) := by decide +kernel
theorem dX9_letters_383 : decode cX9_letters 383 = .ok (.lreturn, 1) := by decide +kernel
theorem dX9_letters_384 : decode cX9_letters 384 = .ok (.bipush 101, 2) := by decide +kernel
theorem dX9_letters_386 : decode cX9_letters 386 = .ok (.bipush 110, 2) := by decide +kernel
theorem dX9_letters_388 : decode cX9_letters 388 = .ok (.bipush 100, 2) := by decide +kernel
theorem dX9_letters_390 : decode cX9_letters 390 = .ok (.iconst 0, 1) := by decide +kernel
theorem dX9_letters_391 : decode cX9_letters 391 = .ok (.iconst 0, 1) := by decide +kernel
theorem dX9_letters_392 : decode cX9_letters 392 = .ok (.iconst 0, 1) := by decide +kernel
theorem dX9_letters_393 : decode cX9_letters 393 = .ok (.iconst 0, 1) := by decide +kernel
theorem dX9_letters_394 : decode cX9_letters 394 = .ok (.invokestatic 150, 3) := by decide +kernel
theorem dX9_letters_397 : decode cX9_letters 397 = .ok (.lreturn, 1) := by decide +kernel
theorem dX9_letters_398 : decode cX9_letters 398 = .ok (.bipush 110, 2) := by decide +kernel
theorem dX9_letters_400 : decode cX9_letters 400 = .ok (.bipush 111, 2) := by decide +kernel
theorem dX9_letters_402 : decode cX9_letters 402 = .ok (.bipush 116, 2) := by decide +kernel
theorem dX9_letters_404 : decode cX9_letters 404 = .ok (.iconst 0, 1) := by decide +kernel
theorem dX9_letters_405 : decode cX9_letters 405 = .ok (.iconst 0, 1) := by decide +kernel
theorem dX9_letters_406 : decode cX9_letters 406 = .ok (.iconst 0, 1) := by decide +kernel
theorem dX9_letters_407 : decode cX9_letters 407 = .ok (.iconst 0, 1) := by decide +kernel
theorem dX9_letters_408 : decode cX9_letters 408 = .ok (.invokestatic 150, 3) := by decide +kernel
theorem dX9_letters_411 : decode cX9_letters 411 = .ok (.lreturn, 1) := by decide +kernel
theorem dX9_letters_412 : decode cX9_letters 412 = .ok (.bipush 100, 2) := by decide +kernel
theorem dX9_letters_414 : decode cX9_letters 414 = .ok (.bipush 97, 2) := by decide +kernel
theorem dX9_letters_416 : decode cX9_letters 416 = .ok (.bipush 114, 2) := by decide +kernel
theorem dX9_letters_418 : decode cX9_letters 418 = .ok (.bipush 107, 2) := by decide +kernel
theorem dX9_letters_420 : decode cX9_letters 420 = .ok (.iconst 0, 1) := by decide +kernel
theorem dX9_letters_421 : decode cX9_letters 421 = .ok (.iconst 0, 1) := by decide +kernel
theorem dX9_letters_422 : decode cX9_letters 422 = .ok (.iconst 0, 1) := by decide +kernel
theorem dX9_letters_423 : decode cX9_letters 423 = .ok (.invokestatic 150, 3) := by decide +kernel
theorem dX9_letters_426 : decode cX9_letters 426 = .ok (.lreturn, 1) := by decide +kernel
theorem dX9_letters_427 : decode cX9_letters 427 = .ok (.bipush 109, 2) := by decide +kernel
theorem dX9_letters_429 : decode cX9_letters 429 = .ok (.bipush 111, 2) := by decide +kernel
theorem dX9_letters_431 : decode cX9_letters 431 = .ok (.bipush 110, 2) := by decide +kernel
theorem dX9_letters_433 : decode cX9_letters 433 = .ok (.bipush 116, 2) := by decide +kernel
theorem dX9_letters_435 : decode cX9_letters 435 = .ok (.bipush 104, 2) := by decide +kernel
theorem dX9_letters_437 : decode cX9_letters 437 = .ok (.iconst 0, 1) := by decide +kernel
theorem dX9_letters_438 : decode cX9_letters 438 = .ok (.iconst 0, 1) := by decide +kernel
theorem dX9_letters_439 : decode cX9_letters 439 = .ok (.invokestatic 150, 3) := by decide +kernel
theorem dX9_letters_442 : decode cX9_letters 442 = .ok (.lreturn, 1) := by decide +kernel
theorem dX9_letters_443 : decode cX9_letters 443 = .ok (.bipush 98, 2) := by decide +kernel
theorem dX9_letters_445 : decode cX9_letters 445 = .ok (.bipush 101, 2) := by decide +kernel
theorem dX9_letters_447 : decode cX9_letters 447 = .ok (.bipush 102, 2) := by decide +kernel
theorem dX9_letters_449 : decode cX9_letters 449 = .ok (.bipush 111, 2) := by decide +kernel
theorem dX9_letters_451 : decode cX9_letters 451 = .ok (.bipush 114, 2) := by decide +kernel
theorem dX9_letters_453 : decode cX9_letters 453 = .ok (.bipush 101, 2) := by decide +kernel
theorem dX9_letters_455 : decode cX9_letters 455 = .ok (.iconst 0, 1) := by decide +kernel
theorem dX9_letters_456 : decode cX9_letters 456 = .ok (.invokestatic 150, 3) := by decide +kernel
theorem dX9_letters_459 : decode cX9_letters 459 = .ok (.lreturn, 1) := by decide +kernel
theorem dX9_is_0 : decode cX9_is 0 = .ok (.aload_n 0, 1) := by decide +kernel
theorem dX9_is_1 : decode cX9_is 1 = .ok (.getfield 135, 3) := by decide +kernel
theorem dX9_is_4 : decode cX9_is 4 = .ok (.iconst 1, 1) := by decide +kernel
theorem dX9_is_5 : decode cX9_is 5 = .ok (.if_icmp .ne 28, 3) := by decide +kernel
theorem dX9_is_8 : decode cX9_is 8 = .ok (.aload_n 0, 1) := by decide +kernel
theorem dX9_is_9 : decode cX9_is 9 = .ok (.getfield 145, 3) := by decide +kernel
theorem dX9_is_12 : decode cX9_is 12 = .ok (.bipush 8, 2) := by decide +kernel
theorem dX9_is_14 : decode cX9_is 14 = .ok (.if_icmp .ge 19, 3) := by decide +kernel
theorem dX9_is_17 : decode cX9_is 17 = .ok (.aload_n 0, 1) := by decide +kernel
theorem dX9_is_18 : decode cX9_is 18 = .ok (.getfield 125, 3) := by decide +kernel
theorem dX9_is_21 : decode cX9_is 21 = .ok (.iload_n 1, 1) := by decide +kernel
theorem dX9_is_22 : decode cX9_is 22 = .ok (.invokestatic 154, 3) := by decide +kernel
theorem dX9_is_25 : decode cX9_is 25 = .ok (.lcmp, 1) := by decide +kernel
theorem dX9_is_26 : decode cX9_is 26 = .ok (.ifCond .ne 7, 3) := by decide +kernel
theorem dX9_is_29 : decode cX9_is 29 = .ok (.iconst 1, 1) := by decide +kernel
theorem dX9_is_30 : decode cX9_is 30 = .ok (.goto 4, 3) := by decide +kernel
theorem dX9_is_33 : decode cX9_is 33 = .ok (.iconst 0, 1) := by decide +kernel
theorem dX9_is_34 : decode cX9_is 34 = .ok (.ireturn, 1) := by decide +kernel
theorem dX9_wrong_0 : decode cX9_wrong 0 = .ok (.aload_n 0, 1) := by decide +kernel
theorem dX9_wrong_1 : decode cX9_wrong 1 = .ok (.getfield 158, 3) := by decide +kernel
theorem dX9_wrong_4 : decode cX9_wrong 4 = .ok (.ifCond .eq 4, 3) := by decide +kernel
theorem dX9_wrong_7 : decode cX9_wrong 7 = .ok (.return_, 1) := by decide +kernel
theorem dX9_wrong_8 : decode cX9_wrong 8 = .ok (.aload_n 0, 1) := by decide +kernel
theorem dX9_wrong_9 : decode cX9_wrong 9 = .ok (.iload_n 1, 1) := by decide +kernel
theorem dX9_wrong_10 : decode cX9_wrong 10 = .ok (.putfield 158, 3) := by decide +kernel
theorem dX9_wrong_13 : decode cX9_wrong 13 = .ok (.aload_n 0, 1) := by decide +kernel
theorem dX9_wrong_14 : decode cX9_wrong 14 = .ok (.aload_n 0, 1) := by decide +kernel
theorem dX9_wrong_15 : decode cX9_wrong 15 = .ok (.getfield 122, 3) := by decide +kernel
theorem dX9_wrong_18 : decode cX9_wrong 18 = .ok (.putfield 26, 3) := by decide +kernel
theorem dX9_wrong_21 : decode cX9_wrong 21 = .ok (.return_, 1) := by decide +kernel
theorem dX9_isGood_0 : decode cX9_isGood 0 = .ok (.aload_n 0, 1) := by decide +kernel
theorem dX9_isGood_1 : decode cX9_isGood 1 = .ok (.getfield 158, 3) := by decide +kernel
theorem dX9_isGood_4 : decode cX9_isGood 4 = .ok (.ifCond .ne 7, 3) := by decide +kernel
theorem dX9_isGood_7 : decode cX9_isGood 7 = .ok (.iconst 1, 1) := by decide +kernel
theorem dX9_isGood_8 : decode cX9_isGood 8 = .ok (.goto 4, 3) := by decide +kernel
theorem dX9_isGood_11 : decode cX9_isGood 11 = .ok (.iconst 0, 1) := by decide +kernel
theorem dX9_isGood_12 : decode cX9_isGood 12 = .ok (.ireturn, 1) := by decide +kernel
theorem dX9_need_0 : decode cX9_need 0 = .ok (.aload_n 0, 1) := by decide +kernel
theorem dX9_need_1 : decode cX9_need 1 = .ok (.invokevirtual 161, 3) := by decide +kernel
theorem dX9_need_4 : decode cX9_need 4 = .ok (.ifCond .ne 4, 3) := by decide +kernel
theorem dX9_need_7 : decode cX9_need 7 = .ok (.return_, 1) := by decide +kernel
theorem dX9_need_8 : decode cX9_need 8 = .ok (.iload_n 1, 1) := by decide +kernel
theorem dX9_need_9 : decode cX9_need 9 = .ok (.ifCond .eq 10, 3) := by decide +kernel
theorem dX9_need_12 : decode cX9_need 12 = .ok (.aload_n 0, 1) := by decide +kernel
theorem dX9_need_13 : decode cX9_need 13 = .ok (.invokevirtual 165, 3) := by decide +kernel
theorem dX9_need_16 : decode cX9_need 16 = .ok (.goto 8, 3) := by decide +kernel
theorem dX9_need_19 : decode cX9_need 19 = .ok (.aload_n 0, 1) := by decide +kernel
theorem dX9_need_20 : decode cX9_need 20 = .ok (.iconst 1, 1) := by decide +kernel
theorem dX9_need_21 : decode cX9_need 21 = .ok (.invokevirtual 168, 3) := by decide +kernel
theorem dX9_need_24 : decode cX9_need 24 = .ok (.return_, 1) := by decide +kernel
theorem dX9_number_0 : decode cX9_number 0 = .ok (.aload_n 0, 1) := by decide +kernel
theorem dX9_number_1 : decode cX9_number 1 = .ok (.invokevirtual 161, 3) := by decide +kernel
theorem dX9_number_4 : decode cX9_number 4 = .ok (.ifCond .ne 5, 3) := by decide +kernel
theorem dX9_number_7 : decode cX9_number 7 = .ok (.iconst 0, 1) := by decide +kernel
theorem dX9_number_8 : decode cX9_number 8 = .ok (.ireturn, 1) := by decide +kernel
theorem dX9_number_9 : decode cX9_number 9 = .ok (.aload_n 0, 1) := by decide +kernel
theorem dX9_number_10 : decode cX9_number 10 = .ok (.getfield 135, 3) := by decide +kernel
theorem dX9_number_13 : decode cX9_number 13 = .ok (.iconst 2, 1) := by decide +kernel
theorem dX9_number_14 : decode cX9_number 14 = .ok (.if_icmp .eq 11, 3) := by decide +kernel
theorem dX9_number_17 : decode cX9_number 17 = .ok (.aload_n 0, 1) := by decide +kernel
theorem dX9_number_18 : decode cX9_number 18 = .ok (.iconst 1, 1) := by decide +kernel
theorem dX9_number_19 : decode cX9_number 19 = .ok (.invokevirtual 168, 3) := by decide +kernel
theorem dX9_number_22 : decode cX9_number 22 = .ok (.goto 32, 3) := by decide +kernel
theorem dX9_number_25 : decode cX9_number 25 = .ok (.aload_n 0, 1) := by decide +kernel
theorem dX9_number_26 : decode cX9_number 26 = .ok (.getfield 145, 3) := by decide +kernel
theorem dX9_number_29 : decode cX9_number 29 = .ok (.iconst 4, 1) := by decide +kernel
theorem dX9_number_30 : decode cX9_number 30 = .ok (.if_icmp .gt 19, 3) := by decide +kernel
theorem dX9_number_33 : decode cX9_number 33 = .ok (.aload_n 0, 1) := by decide +kernel
theorem dX9_number_34 : decode cX9_number 34 = .ok (.getfield 129, 3) := by decide +kernel
theorem dX9_number_37 : decode cX9_number 37 = .ok (.iload_n 1, 1) := by decide +kernel
theorem dX9_number_38 : decode cX9_number 38 = .ok (.if_icmp .lt 11, 3) := by decide +kernel
theorem dX9_number_41 : decode cX9_number 41 = .ok (.aload_n 0, 1) := by decide +kernel
theorem dX9_number_42 : decode cX9_number 42 = .ok (.getfield 129, 3) := by decide +kernel
theorem dX9_number_45 : decode cX9_number 45 = .ok (.iload_n 2, 1) := by decide +kernel
theorem dX9_number_46 : decode cX9_number 46 = .ok (.if_icmp .le 8, 3) := by decide +kernel
theorem dX9_number_49 : decode cX9_number 49 = .ok (.aload_n 0, 1) := by decide +kernel
theorem dX9_number_50 : decode cX9_number 50 = .ok (.iconst 2, 1) := by decide +kernel
theorem dX9_number_51 : decode cX9_number 51 = .ok (.invokevirtual 168, 3) := by decide +kernel
theorem dX9_number_54 : decode cX9_number 54 = .ok (.aload_n 0, 1) := by decide +kernel
theorem dX9_number_55 : decode cX9_number 55 = .ok (.getfield 129, 3) := by decide +kernel
theorem dX9_number_58 : decode cX9_number 58 = .ok (.istore_n 3, 1) := by decide +kernel
theorem dX9_number_59 : decode cX9_number 59 = .ok (.aload_n 0, 1) := by decide +kernel
theorem dX9_number_60 : decode cX9_number 60 = .ok (.invokevirtual 161, 3) := by decide +kernel
theorem dX9_number_63 : decode cX9_number 63 = .ok (.ifCond .eq 7, 3) := by decide +kernel
theorem dX9_number_66 : decode cX9_number 66 = .ok (.aload_n 0, 1) := by decide +kernel
theorem dX9_number_67 : decode cX9_number 67 = .ok (.invokevirtual 165, 3) := by decide +kernel
theorem dX9_number_70 : decode cX9_number 70 = .ok (.iload_n 3, 1) := by decide +kernel
theorem dX9_number_71 : decode cX9_number 71 = .ok (.ireturn, 1) := by decide +kernel
theorem dX9_signed_0 : decode cX9_signed 0 = .ok (.aload_n 0, 1) := by decide +kernel
theorem dX9_signed_1 : decode cX9_signed 1 = .ok (.invokevirtual 161, 3) := by decide +kernel
theorem dX9_signed_4 : decode cX9_signed 4 = .ok (.ifCond .eq 24, 3) := by decide +kernel
theorem dX9_signed_7 : decode cX9_signed 7 = .ok (.aload_n 0, 1) := by decide +kernel
theorem dX9_signed_8 : decode cX9_signed 8 = .ok (.getfield 135, 3) := by decide +kernel
theorem dX9_signed_11 : decode cX9_signed 11 = .ok (.iconst 3, 1) := by decide +kernel
theorem dX9_signed_12 : decode cX9_signed 12 = .ok (.if_icmp .ne 16, 3) := by decide +kernel
theorem dX9_signed_15 : decode cX9_signed 15 = .ok (.aload_n 0, 1) := by decide +kernel
theorem dX9_signed_16 : decode cX9_signed 16 = .ok (.getfield 132, 3) := by decide +kernel
theorem dX9_signed_19 : decode cX9_signed 19 = .ok (.bipush 45, 2) := by decide +kernel
theorem dX9_signed_21 : decode cX9_signed 21 = .ok (.if_icmp .ne 7, 3) := by decide +kernel
theorem dX9_signed_24 : decode cX9_signed 24 = .ok (.iconst 1, 1) := by decide +kernel
theorem dX9_signed_25 : decode cX9_signed 25 = .ok (.goto 4, 3) := by decide +kernel
theorem dX9_signed_28 : decode cX9_signed 28 = .ok (.iconst 0, 1) := by decide +kernel
theorem dX9_signed_29 : decode cX9_signed 29 = .ok (.istore_n 2, 1) := by decide +kernel
theorem dX9_signed_30 : decode cX9_signed 30 = .ok (.iload_n 2, 1) := by decide +kernel
theorem dX9_signed_31 : decode cX9_signed 31 = .ok (.ifCond .eq 7, 3) := by decide +kernel
theorem dX9_signed_34 : decode cX9_signed 34 = .ok (.aload_n 0, 1) := by decide +kernel
theorem dX9_signed_35 : decode cX9_signed 35 = .ok (.invokevirtual 165, 3) := by decide +kernel
theorem dX9_signed_38 : decode cX9_signed 38 = .ok (.aload_n 0, 1) := by decide +kernel
theorem dX9_signed_39 : decode cX9_signed 39 = .ok (.iconst 0, 1) := by decide +kernel
theorem dX9_signed_40 : decode cX9_signed 40 = .ok (.iload_n 1, 1) := by decide +kernel
theorem dX9_signed_41 : decode cX9_signed 41 = .ok (.invokevirtual 171, 3) := by decide +kernel
theorem dX9_signed_44 : decode cX9_signed 44 = .ok (.istore_n 3, 1) := by decide +kernel
theorem dX9_signed_45 : decode cX9_signed 45 = .ok (.iload_n 2, 1) := by decide +kernel
theorem dX9_signed_46 : decode cX9_signed 46 = .ok (.ifCond .eq 9, 3) := by decide +kernel
theorem dX9_signed_49 : decode cX9_signed 49 = .ok (.iconst 0, 1) := by decide +kernel
theorem dX9_signed_50 : decode cX9_signed 50 = .ok (.iload_n 3, 1) := by decide +kernel
theorem dX9_signed_51 : decode cX9_signed 51 = .ok (.isub, 1) := by decide +kernel
theorem dX9_signed_52 : decode cX9_signed 52 = .ok (.goto 4, 3) := by decide +kernel
theorem dX9_signed_55 : decode cX9_signed 55 = .ok (.iload_n 3, 1) := by decide +kernel
theorem dX9_signed_56 : decode cX9_signed 56 = .ok (.ireturn, 1) := by decide +kernel
theorem dX9_readsDial_0 : decode cX9_readsDial 0 = .ok (.aload_n 0, 1) := by decide +kernel
theorem dX9_readsDial_1 : decode cX9_readsDial 1 = .ok (.getfield 175, 3) := by decide +kernel
theorem dX9_readsDial_4 : decode cX9_readsDial 4 = .ok (.bipush 9, 2) := by decide +kernel
theorem dX9_readsDial_6 : decode cX9_readsDial 6 = .ok (.if_icmp .ne 8, 3) := by decide +kernel
theorem dX9_readsDial_9 : decode cX9_readsDial 9 = .ok (.aload_n 0, 1) := by decide +kernel
theorem dX9_readsDial_10 : decode cX9_readsDial 10 = .ok (.iconst 2, 1) := by decide +kernel
theorem dX9_readsDial_11 : decode cX9_readsDial 11 = .ok (.invokevirtual 168, 3) := by decide +kernel
theorem dX9_readsDial_14 : decode cX9_readsDial 14 = .ok (.aload_n 0, 1) := by decide +kernel
theorem dX9_readsDial_15 : decode cX9_readsDial 15 = .ok (.invokevirtual 161, 3) := by decide +kernel
theorem dX9_readsDial_18 : decode cX9_readsDial 18 = .ok (.ifCond .ne 4, 3) := by decide +kernel
theorem dX9_readsDial_21 : decode cX9_readsDial 21 = .ok (.return_, 1) := by decide +kernel
theorem dX9_readsDial_22 : decode cX9_readsDial 22 = .ok (.aload_n 0, 1) := by decide +kernel
theorem dX9_readsDial_23 : decode cX9_readsDial 23 = .ok (.invokevirtual 165, 3) := by decide +kernel
theorem dX9_readsDial_26 : decode cX9_readsDial 26 = .ok (.iconst 5, 1) := by decide +kernel
theorem dX9_readsDial_27 : decode cX9_readsDial 27 = .ok (.aload_n 0, 1) := by decide +kernel
theorem dX9_readsDial_28 : decode cX9_readsDial 28 = .ok (.getfield 175, 3) := by decide +kernel
theorem dX9_readsDial_31 : decode cX9_readsDial 31 = .ok (.imul, 1) := by decide +kernel
theorem dX9_readsDial_32 : decode cX9_readsDial 32 = .ok (.istore_n 1, 1) := by decide +kernel
theorem dX9_readsDial_33 : decode cX9_readsDial 33 = .ok (.iconst (-1), 1) := by decide +kernel
theorem dX9_readsDial_34 : decode cX9_readsDial 34 = .ok (.istore_n 2, 1) := by decide +kernel
theorem dX9_readsDial_35 : decode cX9_readsDial 35 = .ok (.iconst 0, 1) := by decide +kernel
theorem dX9_readsDial_36 : decode cX9_readsDial 36 = .ok (.istore_n 3, 1) := by decide +kernel
theorem dX9_readsDial_37 : decode cX9_readsDial 37 = .ok (.iload_n 3, 1) := by decide +kernel
theorem dX9_readsDial_38 : decode cX9_readsDial 38 = .ok (.iconst 5, 1) := by decide +kernel
theorem dX9_readsDial_39 : decode cX9_readsDial 39 = .ok (.if_icmp .gt 21, 3) := by decide +kernel
theorem dX9_readsDial_42 : decode cX9_readsDial 42 = .ok (.aload_n 0, 1) := by decide +kernel
theorem dX9_readsDial_43 : decode cX9_readsDial 43 = .ok (.iconst 0, 1) := by decide +kernel
theorem dX9_readsDial_44 : decode cX9_readsDial 44 = .ok (.iload_n 3, 1) := by decide +kernel
theorem dX9_readsDial_45 : decode cX9_readsDial 45 = .ok (.iadd, 1) := by decide +kernel
theorem dX9_readsDial_46 : decode cX9_readsDial 46 = .ok (.invokevirtual 178, 3) := by decide +kernel
theorem dX9_readsDial_49 : decode cX9_readsDial 49 = .ok (.ifCond .eq 5, 3) := by decide +kernel
theorem dX9_readsDial_52 : decode cX9_readsDial 52 = .ok (.iload_n 3, 1) := by decide +kernel
theorem dX9_readsDial_53 : decode cX9_readsDial 53 = .ok (.istore_n 2, 1) := by decide +kernel
theorem dX9_readsDial_54 : decode cX9_readsDial 54 = .ok (.iinc 3 1, 3) := by decide +kernel
theorem dX9_readsDial_57 : decode cX9_readsDial 57 = .ok (.goto (-20), 3) := by decide +kernel
theorem dX9_readsDial_60 : decode cX9_readsDial 60 = .ok (.aload_n 0, 1) := by decide +kernel
theorem dX9_readsDial_61 : decode cX9_readsDial 61 = .ok (.iload_n 2, 1) := by decide +kernel
theorem dX9_readsDial_62 : decode cX9_readsDial 62 = .ok (.iconst (-1), 1) := by decide +kernel
theorem dX9_readsDial_63 : decode cX9_readsDial 63 = .ok (.if_icmp .eq 7, 3) := by decide +kernel
theorem dX9_readsDial_66 : decode cX9_readsDial 66 = .ok (.iconst 1, 1) := by decide +kernel
theorem dX9_readsDial_67 : decode cX9_readsDial 67 = .ok (.goto 4, 3) := by decide +kernel
theorem dX9_readsDial_70 : decode cX9_readsDial 70 = .ok (.iconst 0, 1) := by decide +kernel
theorem dX9_readsDial_71 : decode cX9_readsDial 71 = .ok (.invokevirtual 181, 3) := by decide +kernel
theorem dX9_readsDial_74 : decode cX9_readsDial 74 = .ok (.aload_n 0, 1) := by decide +kernel
theorem dX9_readsDial_75 : decode cX9_readsDial 75 = .ok (.getfield 32, 3) := by decide +kernel
theorem dX9_readsDial_78 : decode cX9_readsDial 78 = .ok (.iload_n 1, 1) := by decide +kernel
theorem dX9_readsDial_79 : decode cX9_readsDial 79 = .ok (.iload_n 2, 1) := by decide +kernel
theorem dX9_readsDial_80 : decode cX9_readsDial 80 = .ok (.iastore, 1) := by decide +kernel
theorem dX9_readsDial_81 : decode cX9_readsDial 81 = .ok (.aload_n 0, 1) := by decide +kernel
theorem dX9_readsDial_82 : decode cX9_readsDial 82 = .ok (.getfield 32, 3) := by decide +kernel
theorem dX9_readsDial_85 : decode cX9_readsDial 85 = .ok (.iload_n 1, 1) := by decide +kernel
theorem dX9_readsDial_86 : decode cX9_readsDial 86 = .ok (.iconst 1, 1) := by decide +kernel
theorem dX9_readsDial_87 : decode cX9_readsDial 87 = .ok (.iadd, 1) := by decide +kernel
theorem dX9_readsDial_88 : decode cX9_readsDial 88 = .ok (.aload_n 0, 1) := by decide +kernel
theorem dX9_readsDial_89 : decode cX9_readsDial 89 = .ok (.bipush 120, 2) := by decide +kernel
theorem dX9_readsDial_91 : decode cX9_readsDial 91 = .ok (.invokevirtual 185, 3) := by decide +kernel
theorem dX9_readsDial_94 : decode cX9_readsDial 94 = .ok (.iastore, 1) := by decide +kernel
theorem dX9_readsDial_95 : decode cX9_readsDial 95 = .ok (.aload_n 0, 1) := by decide +kernel
theorem dX9_readsDial_96 : decode cX9_readsDial 96 = .ok (.getfield 32, 3) := by decide +kernel
theorem dX9_readsDial_99 : decode cX9_readsDial 99 = .ok (.iload_n 1, 1) := by decide +kernel
theorem dX9_readsDial_100 : decode cX9_readsDial 100 = .ok (.iconst 2, 1) := by decide +kernel
theorem dX9_readsDial_101 : decode cX9_readsDial 101 = .ok (.iadd, 1) := by decide +kernel
theorem dX9_readsDial_102 : decode cX9_readsDial 102 = .ok (.aload_n 0, 1) := by decide +kernel
theorem dX9_readsDial_103 : decode cX9_readsDial 103 = .ok (.bipush 50, 2) := by decide +kernel
theorem dX9_readsDial_105 : decode cX9_readsDial 105 = .ok (.invokevirtual 185, 3) := by decide +kernel
theorem dX9_readsDial_108 : decode cX9_readsDial 108 = .ok (.iastore, 1) := by decide +kernel
theorem dX9_readsDial_109 : decode cX9_readsDial 109 = .ok (.aload_n 0, 1) := by decide +kernel
theorem dX9_readsDial_110 : decode cX9_readsDial 110 = .ok (.getfield 32, 3) := by decide +kernel
theorem dX9_readsDial_113 : decode cX9_readsDial 113 = .ok (.iload_n 1, 1) := by decide +kernel
theorem dX9_readsDial_114 : decode cX9_readsDial 114 = .ok (.iconst 3, 1) := by decide +kernel
theorem dX9_readsDial_115 : decode cX9_readsDial 115 = .ok (.iadd, 1) := by decide +kernel
theorem dX9_readsDial_116 : decode cX9_readsDial 116 = .ok (.aload_n 0, 1) := by decide +kernel
theorem dX9_readsDial_117 : decode cX9_readsDial 117 = .ok (.bipush 120, 2) := by decide +kernel
theorem dX9_readsDial_119 : decode cX9_readsDial 119 = .ok (.invokevirtual 185, 3) := by decide +kernel
theorem dX9_readsDial_122 : decode cX9_readsDial 122 = .ok (.iastore, 1) := by decide +kernel
theorem dX9_readsDial_123 : decode cX9_readsDial 123 = .ok (.aload_n 0, 1) := by decide +kernel
theorem dX9_readsDial_124 : decode cX9_readsDial 124 = .ok (.getfield 32, 3) := by decide +kernel
theorem dX9_readsDial_127 : decode cX9_readsDial 127 = .ok (.iload_n 1, 1) := by decide +kernel
theorem dX9_readsDial_128 : decode cX9_readsDial 128 = .ok (.iconst 4, 1) := by decide +kernel
theorem dX9_readsDial_129 : decode cX9_readsDial 129 = .ok (.iadd, 1) := by decide +kernel
theorem dX9_readsDial_130 : decode cX9_readsDial 130 = .ok (.iconst (-1), 1) := by decide +kernel
theorem dX9_readsDial_131 : decode cX9_readsDial 131 = .ok (.iastore, 1) := by decide +kernel
theorem dX9_readsDial_132 : decode cX9_readsDial 132 = .ok (.aload_n 0, 1) := by decide +kernel
theorem dX9_readsDial_133 : decode cX9_readsDial 133 = .ok (.invokevirtual 161, 3) := by decide +kernel
theorem dX9_readsDial_136 : decode cX9_readsDial 136 = .ok (.ifCond .eq 32, 3) := by decide +kernel
theorem dX9_readsDial_139 : decode cX9_readsDial 139 = .ok (.aload_n 0, 1) := by decide +kernel
theorem dX9_readsDial_140 : decode cX9_readsDial 140 = .ok (.bipush 7, 2) := by decide +kernel
theorem dX9_readsDial_142 : decode cX9_readsDial 142 = .ok (.invokevirtual 178, 3) := by decide +kernel
theorem dX9_readsDial_145 : decode cX9_readsDial 145 = .ok (.ifCond .eq 23, 3) := by decide +kernel
theorem dX9_readsDial_148 : decode cX9_readsDial 148 = .ok (.aload_n 0, 1) := by decide +kernel
theorem dX9_readsDial_149 : decode cX9_readsDial 149 = .ok (.invokevirtual 165, 3) := by decide +kernel
theorem dX9_readsDial_152 : decode cX9_readsDial 152 = .ok (.aload_n 0, 1) := by decide +kernel
theorem dX9_readsDial_153 : decode cX9_readsDial 153 = .ok (.getfield 32, 3) := by decide +kernel
theorem dX9_readsDial_156 : decode cX9_readsDial 156 = .ok (.iload_n 1, 1) := by decide +kernel
theorem dX9_readsDial_157 : decode cX9_readsDial 157 = .ok (.iconst 4, 1) := by decide +kernel
theorem dX9_readsDial_158 : decode cX9_readsDial 158 = .ok (.iadd, 1) := by decide +kernel
theorem dX9_readsDial_159 : decode cX9_readsDial 159 = .ok (.aload_n 0, 1) := by decide +kernel
theorem dX9_readsDial_160 : decode cX9_readsDial 160 = .ok (.iconst 0, 1) := by decide +kernel
theorem dX9_readsDial_161 : decode cX9_readsDial 161 = .ok (.sipush 364, 3) := by decide +kernel
theorem dX9_readsDial_164 : decode cX9_readsDial 164 = .ok (.invokevirtual 171, 3) := by decide +kernel
theorem dX9_readsDial_167 : decode cX9_readsDial 167 = .ok (.iastore, 1) := by decide +kernel
theorem dX9_readsDial_168 : decode cX9_readsDial 168 = .ok (.aload_n 0, 1) := by decide +kernel
theorem dX9_readsDial_169 : decode cX9_readsDial 169 = .ok (.invokevirtual 161, 3) := by decide +kernel
theorem dX9_readsDial_172 : decode cX9_readsDial 172 = .ok (.ifCond .eq 13, 3) := by decide +kernel
theorem dX9_readsDial_175 : decode cX9_readsDial 175 = .ok (.aload_n 0, 1) := by decide +kernel
theorem dX9_readsDial_176 : decode cX9_readsDial 176 = .ok (.dup, 1) := by decide +kernel
theorem dX9_readsDial_177 : decode cX9_readsDial 177 = .ok (.getfield 175, 3) := by decide +kernel
theorem dX9_readsDial_180 : decode cX9_readsDial 180 = .ok (.iconst 1, 1) := by decide +kernel
theorem dX9_readsDial_181 : decode cX9_readsDial 181 = .ok (.iadd, 1) := by decide +kernel
theorem dX9_readsDial_182 : decode cX9_readsDial 182 = .ok (.putfield 175, 3) := by decide +kernel
theorem dX9_readsDial_185 : decode cX9_readsDial 185 = .ok (.return_, 1) := by decide +kernel
theorem dX9_readsCloud_0 : decode cX9_readsCloud 0 = .ok (.aload_n 0, 1) := by decide +kernel
theorem dX9_readsCloud_1 : decode cX9_readsCloud 1 = .ok (.getfield 188, 3) := by decide +kernel
theorem dX9_readsCloud_4 : decode cX9_readsCloud 4 = .ok (.bipush 20, 2) := by decide +kernel
theorem dX9_readsCloud_6 : decode cX9_readsCloud 6 = .ok (.if_icmp .ne 8, 3) := by decide +kernel
theorem dX9_readsCloud_9 : decode cX9_readsCloud 9 = .ok (.aload_n 0, 1) := by decide +kernel
theorem dX9_readsCloud_10 : decode cX9_readsCloud 10 = .ok (.iconst 2, 1) := by decide +kernel
theorem dX9_readsCloud_11 : decode cX9_readsCloud 11 = .ok (.invokevirtual 168, 3) := by decide +kernel
theorem dX9_readsCloud_14 : decode cX9_readsCloud 14 = .ok (.aload_n 0, 1) := by decide +kernel
theorem dX9_readsCloud_15 : decode cX9_readsCloud 15 = .ok (.invokevirtual 161, 3) := by decide +kernel
theorem dX9_readsCloud_18 : decode cX9_readsCloud 18 = .ok (.ifCond .ne 4, 3) := by decide +kernel
theorem dX9_readsCloud_21 : decode cX9_readsCloud 21 = .ok (.return_, 1) := by decide +kernel
theorem dX9_readsCloud_22 : decode cX9_readsCloud 22 = .ok (.aload_n 0, 1) := by decide +kernel
theorem dX9_readsCloud_23 : decode cX9_readsCloud 23 = .ok (.invokevirtual 165, 3) := by decide +kernel
theorem dX9_readsCloud_26 : decode cX9_readsCloud 26 = .ok (.iconst 3, 1) := by decide +kernel
theorem dX9_readsCloud_27 : decode cX9_readsCloud 27 = .ok (.aload_n 0, 1) := by decide +kernel
theorem dX9_readsCloud_28 : decode cX9_readsCloud 28 = .ok (.getfield 188, 3) := by decide +kernel
theorem dX9_readsCloud_31 : decode cX9_readsCloud 31 = .ok (.imul, 1) := by decide +kernel
theorem dX9_readsCloud_32 : decode cX9_readsCloud 32 = .ok (.istore_n 1, 1) := by decide +kernel
theorem dX9_readsCloud_33 : decode cX9_readsCloud 33 = .ok (.aload_n 0, 1) := by decide +kernel
theorem dX9_readsCloud_34 : decode cX9_readsCloud 34 = .ok (.getfield 35, 3) := by decide +kernel
theorem dX9_readsCloud_37 : decode cX9_readsCloud 37 = .ok (.iload_n 1, 1) := by decide +kernel
theorem dX9_readsCloud_38 : decode cX9_readsCloud 38 = .ok (.aload_n 0, 1) := by decide +kernel
theorem dX9_readsCloud_39 : decode cX9_readsCloud 39 = .ok (.iconst 0, 1) := by decide +kernel
theorem dX9_readsCloud_40 : decode cX9_readsCloud 40 = .ok (.sipush 364, 3) := by decide +kernel
theorem dX9_readsCloud_43 : decode cX9_readsCloud 43 = .ok (.invokevirtual 171, 3) := by decide +kernel
theorem dX9_readsCloud_46 : decode cX9_readsCloud 46 = .ok (.iastore, 1) := by decide +kernel
theorem dX9_readsCloud_47 : decode cX9_readsCloud 47 = .ok (.aload_n 0, 1) := by decide +kernel
theorem dX9_readsCloud_48 : decode cX9_readsCloud 48 = .ok (.getfield 35, 3) := by decide +kernel
theorem dX9_readsCloud_51 : decode cX9_readsCloud 51 = .ok (.iload_n 1, 1) := by decide +kernel
theorem dX9_readsCloud_52 : decode cX9_readsCloud 52 = .ok (.iconst 1, 1) := by decide +kernel
theorem dX9_readsCloud_53 : decode cX9_readsCloud 53 = .ok (.iadd, 1) := by decide +kernel
theorem dX9_readsCloud_54 : decode cX9_readsCloud 54 = .ok (.aload_n 0, 1) := by decide +kernel
theorem dX9_readsCloud_55 : decode cX9_readsCloud 55 = .ok (.iconst 0, 1) := by decide +kernel
theorem dX9_readsCloud_56 : decode cX9_readsCloud 56 = .ok (.sipush 1439, 3) := by decide +kernel
theorem dX9_readsCloud_59 : decode cX9_readsCloud 59 = .ok (.invokevirtual 171, 3) := by decide +kernel
theorem dX9_readsCloud_62 : decode cX9_readsCloud 62 = .ok (.iastore, 1) := by decide +kernel
theorem dX9_readsCloud_63 : decode cX9_readsCloud 63 = .ok (.aload_n 0, 1) := by decide +kernel
theorem dX9_readsCloud_64 : decode cX9_readsCloud 64 = .ok (.getfield 35, 3) := by decide +kernel
theorem dX9_readsCloud_67 : decode cX9_readsCloud 67 = .ok (.iload_n 1, 1) := by decide +kernel
theorem dX9_readsCloud_68 : decode cX9_readsCloud 68 = .ok (.iconst 2, 1) := by decide +kernel
theorem dX9_readsCloud_69 : decode cX9_readsCloud 69 = .ok (.iadd, 1) := by decide +kernel
theorem dX9_readsCloud_70 : decode cX9_readsCloud 70 = .ok (.aload_n 0, 1) := by decide +kernel
theorem dX9_readsCloud_71 : decode cX9_readsCloud 71 = .ok (.aload_n 0, 1) := by decide +kernel
theorem dX9_readsCloud_72 : decode cX9_readsCloud 72 = .ok (.getfield 35, 3) := by decide +kernel
theorem dX9_readsCloud_75 : decode cX9_readsCloud 75 = .ok (.iload_n 1, 1) := by decide +kernel
theorem dX9_readsCloud_76 : decode cX9_readsCloud 76 = .ok (.iconst 1, 1) := by decide +kernel
theorem dX9_readsCloud_77 : decode cX9_readsCloud 77 = .ok (.iadd, 1) := by decide +kernel
theorem dX9_readsCloud_78 : decode cX9_readsCloud 78 = .ok (.iaload, 1) := by decide +kernel
theorem dX9_readsCloud_79 : decode cX9_readsCloud 79 = .ok (.sipush 1439, 3) := by decide +kernel
theorem dX9_readsCloud_82 : decode cX9_readsCloud 82 = .ok (.invokevirtual 171, 3) := by decide +kernel
theorem dX9_readsCloud_85 : decode cX9_readsCloud 85 = .ok (.iastore, 1) := by decide +kernel
theorem dX9_readsCloud_86 : decode cX9_readsCloud 86 = .ok (.aload_n 0, 1) := by decide +kernel
theorem dX9_readsCloud_87 : decode cX9_readsCloud 87 = .ok (.invokevirtual 161, 3) := by decide +kernel
theorem dX9_readsCloud_90 : decode cX9_readsCloud 90 = .ok (.ifCond .eq 13, 3) := by decide +kernel
theorem dX9_readsCloud_93 : decode cX9_readsCloud 93 = .ok (.aload_n 0, 1) := by decide +kernel
theorem dX9_readsCloud_94 : decode cX9_readsCloud 94 = .ok (.dup, 1) := by decide +kernel
theorem dX9_readsCloud_95 : decode cX9_readsCloud 95 = .ok (.getfield 188, 3) := by decide +kernel
theorem dX9_readsCloud_98 : decode cX9_readsCloud 98 = .ok (.iconst 1, 1) := by decide +kernel
theorem dX9_readsCloud_99 : decode cX9_readsCloud 99 = .ok (.iadd, 1) := by decide +kernel
theorem dX9_readsCloud_100 : decode cX9_readsCloud 100 = .ok (.putfield 188, 3) := by decide +kernel
theorem dX9_readsCloud_103 : decode cX9_readsCloud 103 = .ok (.return_, 1) := by decide +kernel
theorem dX9_line_0 : decode cX9_line 0 = .ok (.aload_n 0, 1) := by decide +kernel
theorem dX9_line_1 : decode cX9_line 1 = .ok (.bipush 6, 2) := by decide +kernel
theorem dX9_line_3 : decode cX9_line 3 = .ok (.invokevirtual 178, 3) := by decide +kernel
theorem dX9_line_6 : decode cX9_line 6 = .ok (.ifCond .eq 10, 3) := by decide +kernel
theorem dX9_line_9 : decode cX9_line 9 = .ok (.aload_n 0, 1) := by decide +kernel
theorem dX9_line_10 : decode cX9_line 10 = .ok (.invokevirtual 191, 3) := by decide +kernel
theorem dX9_line_13 : decode cX9_line 13 = .ok (.goto 144, 3) := by decide +kernel
theorem dX9_line_16 : decode cX9_line 16 = .ok (.aload_n 0, 1) := by decide +kernel
theorem dX9_line_17 : decode cX9_line 17 = .ok (.bipush 10, 2) := by decide +kernel
theorem dX9_line_19 : decode cX9_line 19 = .ok (.invokevirtual 178, 3) := by decide +kernel
theorem dX9_line_22 : decode cX9_line 22 = .ok (.ifCond .eq 10, 3) := by decide +kernel
theorem dX9_line_25 : decode cX9_line 25 = .ok (.aload_n 0, 1) := by decide +kernel
theorem dX9_line_26 : decode cX9_line 26 = .ok (.invokevirtual 194, 3) := by decide +kernel
theorem dX9_line_29 : decode cX9_line 29 = .ok (.goto 128, 3) := by decide +kernel
theorem dX9_line_32 : decode cX9_line 32 = .ok (.aload_n 0, 1) := by decide +kernel
theorem dX9_line_33 : decode cX9_line 33 = .ok (.bipush 8, 2) := by decide +kernel
theorem dX9_line_35 : decode cX9_line 35 = .ok (.invokevirtual 178, 3) := by decide +kernel
theorem dX9_line_38 : decode cX9_line 38 = .ok (.ifCond .eq 61, 3) := by decide +kernel
theorem dX9_line_41 : decode cX9_line 41 = .ok (.aload_n 0, 1) := by decide +kernel
theorem dX9_line_42 : decode cX9_line 42 = .ok (.getfield 197, 3) := by decide +kernel
theorem dX9_line_45 : decode cX9_line 45 = .ok (.ifCond .eq 8, 3) := by decide +kernel
theorem dX9_line_48 : decode cX9_line 48 = .ok (.aload_n 0, 1) := by decide +kernel
theorem dX9_line_49 : decode cX9_line 49 = .ok (.iconst 3, 1) := by decide +kernel
theorem dX9_line_50 : decode cX9_line 50 = .ok (.invokevirtual 168, 3) := by decide +kernel
theorem dX9_line_53 : decode cX9_line 53 = .ok (.aload_n 0, 1) := by decide +kernel
theorem dX9_line_54 : decode cX9_line 54 = .ok (.invokevirtual 161, 3) := by decide +kernel
theorem dX9_line_57 : decode cX9_line 57 = .ok (.ifCond .ne 4, 3) := by decide +kernel
theorem dX9_line_60 : decode cX9_line 60 = .ok (.return_, 1) := by decide +kernel
theorem dX9_line_61 : decode cX9_line 61 = .ok (.aload_n 0, 1) := by decide +kernel
theorem dX9_line_62 : decode cX9_line 62 = .ok (.iconst 1, 1) := by decide +kernel
theorem dX9_line_63 : decode cX9_line 63 = .ok (.putfield 197, 3) := by decide +kernel
theorem dX9_line_66 : decode cX9_line 66 = .ok (.aload_n 0, 1) := by decide +kernel
theorem dX9_line_67 : decode cX9_line 67 = .ok (.invokevirtual 165, 3) := by decide +kernel
theorem dX9_line_70 : decode cX9_line 70 = .ok (.iconst 0, 1) := by decide +kernel
theorem dX9_line_71 : decode cX9_line 71 = .ok (.istore_n 1, 1) := by decide +kernel
theorem dX9_line_72 : decode cX9_line 72 = .ok (.iload_n 1, 1) := by decide +kernel
theorem dX9_line_73 : decode cX9_line 73 = .ok (.bipush 12, 2) := by decide +kernel
theorem dX9_line_75 : decode cX9_line 75 = .ok (.if_icmp .ge 21, 3) := by decide +kernel
theorem dX9_line_78 : decode cX9_line 78 = .ok (.aload_n 0, 1) := by decide +kernel
theorem dX9_line_79 : decode cX9_line 79 = .ok (.getfield 38, 3) := by decide +kernel
theorem dX9_line_82 : decode cX9_line 82 = .ok (.iload_n 1, 1) := by decide +kernel
theorem dX9_line_83 : decode cX9_line 83 = .ok (.aload_n 0, 1) := by decide +kernel
theorem dX9_line_84 : decode cX9_line 84 = .ok (.bipush 30, 2) := by decide +kernel
theorem dX9_line_86 : decode cX9_line 86 = .ok (.invokevirtual 185, 3) := by decide +kernel
theorem dX9_line_89 : decode cX9_line 89 = .ok (.iastore, 1) := by decide +kernel
theorem dX9_line_90 : decode cX9_line 90 = .ok (.iinc 1 1, 3) := by decide +kernel
theorem dX9_line_93 : decode cX9_line 93 = .ok (.goto (-21), 3) := by decide +kernel
theorem dX9_line_96 : decode cX9_line 96 = .ok (.goto 61, 3) := by decide +kernel
theorem dX9_line_99 : decode cX9_line 99 = .ok (.aload_n 0, 1) := by decide +kernel
theorem dX9_line_100 : decode cX9_line 100 = .ok (.bipush 9, 2) := by decide +kernel
theorem dX9_line_102 : decode cX9_line 102 = .ok (.invokevirtual 178, 3) := by decide +kernel
theorem dX9_line_105 : decode cX9_line 105 = .ok (.ifCond .eq 47, 3) := by decide +kernel
theorem dX9_line_108 : decode cX9_line 108 = .ok (.aload_n 0, 1) := by decide +kernel
theorem dX9_line_109 : decode cX9_line 109 = .ok (.getfield 201, 3) := by decide +kernel
theorem dX9_line_112 : decode cX9_line 112 = .ok (.ifCond .eq 8, 3) := by decide +kernel
theorem dX9_line_115 : decode cX9_line 115 = .ok (.aload_n 0, 1) := by decide +kernel
theorem dX9_line_116 : decode cX9_line 116 = .ok (.iconst 3, 1) := by decide +kernel
theorem dX9_line_117 : decode cX9_line 117 = .ok (.invokevirtual 168, 3) := by decide +kernel
theorem dX9_line_120 : decode cX9_line 120 = .ok (.aload_n 0, 1) := by decide +kernel
theorem dX9_line_121 : decode cX9_line 121 = .ok (.invokevirtual 161, 3) := by decide +kernel
theorem dX9_line_124 : decode cX9_line 124 = .ok (.ifCond .ne 4, 3) := by decide +kernel
theorem dX9_line_127 : decode cX9_line 127 = .ok (.return_, 1) := by decide +kernel
theorem dX9_line_128 : decode cX9_line 128 = .ok (.aload_n 0, 1) := by decide +kernel
theorem dX9_line_129 : decode cX9_line 129 = .ok (.iconst 1, 1) := by decide +kernel
theorem dX9_line_130 : decode cX9_line 130 = .ok (.putfield 201, 3) := by decide +kernel
theorem dX9_line_133 : decode cX9_line 133 = .ok (.aload_n 0, 1) := by decide +kernel
theorem dX9_line_134 : decode cX9_line 134 = .ok (.invokevirtual 165, 3) := by decide +kernel
theorem dX9_line_137 : decode cX9_line 137 = .ok (.aload_n 0, 1) := by decide +kernel
theorem dX9_line_138 : decode cX9_line 138 = .ok (.aload_n 0, 1) := by decide +kernel
theorem dX9_line_139 : decode cX9_line 139 = .ok (.iconst 0, 1) := by decide +kernel
theorem dX9_line_140 : decode cX9_line 140 = .ok (.sipush 240, 3) := by decide +kernel
theorem dX9_line_143 : decode cX9_line 143 = .ok (.invokevirtual 171, 3) := by decide +kernel
theorem dX9_line_146 : decode cX9_line 146 = .ok (.putfield 204, 3) := by decide +kernel
theorem dX9_line_149 : decode cX9_line 149 = .ok (.goto 8, 3) := by decide +kernel
theorem dX9_line_152 : decode cX9_line 152 = .ok (.aload_n 0, 1) := by decide +kernel
theorem dX9_line_153 : decode cX9_line 153 = .ok (.iconst 1, 1) := by decide +kernel
theorem dX9_line_154 : decode cX9_line 154 = .ok (.invokevirtual 168, 3) := by decide +kernel
theorem dX9_line_157 : decode cX9_line 157 = .ok (.aload_n 0, 1) := by decide +kernel
theorem dX9_line_158 : decode cX9_line 158 = .ok (.aload_n 0, 1) := by decide +kernel
theorem dX9_line_159 : decode cX9_line 159 = .ok (.getfield 135, 3) := by decide +kernel
theorem dX9_line_162 : decode cX9_line 162 = .ok (.iconst 3, 1) := by decide +kernel
theorem dX9_line_163 : decode cX9_line 163 = .ok (.if_icmp .ne 16, 3) := by decide +kernel
theorem dX9_line_166 : decode cX9_line 166 = .ok (.aload_n 0, 1) := by decide +kernel
theorem dX9_line_167 : decode cX9_line 167 = .ok (.getfield 132, 3) := by decide +kernel
theorem dX9_line_170 : decode cX9_line 170 = .ok (.bipush 59, 2) := by decide +kernel
theorem dX9_line_172 : decode cX9_line 172 = .ok (.if_icmp .ne 7, 3) := by decide +kernel
theorem dX9_line_175 : decode cX9_line 175 = .ok (.iconst 1, 1) := by decide +kernel
theorem dX9_line_176 : decode cX9_line 176 = .ok (.goto 4, 3) := by decide +kernel
theorem dX9_line_179 : decode cX9_line 179 = .ok (.iconst 0, 1) := by decide +kernel
theorem dX9_line_180 : decode cX9_line 180 = .ok (.invokevirtual 181, 3) := by decide +kernel
theorem dX9_line_183 : decode cX9_line 183 = .ok (.return_, 1) := by decide +kernel
theorem dX9_port_0 : decode cX9_port 0 = .ok (.aload_n 0, 1) := by decide +kernel
theorem dX9_port_1 : decode cX9_port 1 = .ok (.iconst 0, 1) := by decide +kernel
theorem dX9_port_2 : decode cX9_port 2 = .ok (.putfield 102, 3) := by decide +kernel
theorem dX9_port_5 : decode cX9_port 5 = .ok (.aload_n 0, 1) := by decide +kernel
theorem dX9_port_6 : decode cX9_port 6 = .ok (.iload_n 1, 1) := by decide +kernel
theorem dX9_port_7 : decode cX9_port 7 = .ok (.ifCond .lt 15, 3) := by decide +kernel
theorem dX9_port_10 : decode cX9_port 10 = .ok (.iload_n 1, 1) := by decide +kernel
theorem dX9_port_11 : decode cX9_port 11 = .ok (.aload_n 0, 1) := by decide +kernel
theorem dX9_port_12 : decode cX9_port 12 = .ok (.getfield 105, 3) := by decide +kernel
theorem dX9_port_15 : decode cX9_port 15 = .ok (.if_icmp .gt 7, 3) := by decide +kernel
theorem dX9_port_18 : decode cX9_port 18 = .ok (.iconst 1, 1) := by decide +kernel
theorem dX9_port_19 : decode cX9_port 19 = .ok (.goto 4, 3) := by decide +kernel
theorem dX9_port_22 : decode cX9_port 22 = .ok (.iconst 0, 1) := by decide +kernel
theorem dX9_port_23 : decode cX9_port 23 = .ok (.iconst 1, 1) := by decide +kernel
theorem dX9_port_24 : decode cX9_port 24 = .ok (.invokevirtual 207, 3) := by decide +kernel
theorem dX9_port_27 : decode cX9_port 27 = .ok (.ifCond .ne 5, 3) := by decide +kernel
theorem dX9_port_30 : decode cX9_port 30 = .ok (.iconst 0, 1) := by decide +kernel
theorem dX9_port_31 : decode cX9_port 31 = .ok (.ireturn, 1) := by decide +kernel
theorem dX9_port_32 : decode cX9_port 32 = .ok (.aload_n 0, 1) := by decide +kernel
theorem dX9_port_33 : decode cX9_port 33 = .ok (.iconst 0, 1) := by decide +kernel
theorem dX9_port_34 : decode cX9_port 34 = .ok (.putfield 105, 3) := by decide +kernel
theorem dX9_port_37 : decode cX9_port 37 = .ok (.aload_n 0, 1) := by decide +kernel
theorem dX9_port_38 : decode cX9_port 38 = .ok (.iconst (-1), 1) := by decide +kernel
theorem dX9_port_39 : decode cX9_port 39 = .ok (.putfield 26, 3) := by decide +kernel
theorem dX9_port_42 : decode cX9_port 42 = .ok (.aload_n 0, 1) := by decide +kernel
theorem dX9_port_43 : decode cX9_port 43 = .ok (.iconst 0, 1) := by decide +kernel
theorem dX9_port_44 : decode cX9_port 44 = .ok (.putfield 158, 3) := by decide +kernel
theorem dX9_port_47 : decode cX9_port 47 = .ok (.aload_n 0, 1) := by decide +kernel
theorem dX9_port_48 : decode cX9_port 48 = .ok (.iload_n 1, 1) := by decide +kernel
theorem dX9_port_49 : decode cX9_port 49 = .ok (.putfield 112, 3) := by decide +kernel
theorem dX9_port_52 : decode cX9_port 52 = .ok (.aload_n 0, 1) := by decide +kernel
theorem dX9_port_53 : decode cX9_port 53 = .ok (.iconst 0, 1) := by decide +kernel
theorem dX9_port_54 : decode cX9_port 54 = .ok (.putfield 115, 3) := by decide +kernel
theorem dX9_port_57 : decode cX9_port 57 = .ok (.aload_n 0, 1) := by decide +kernel
theorem dX9_port_58 : decode cX9_port 58 = .ok (.iconst 0, 1) := by decide +kernel
theorem dX9_port_59 : decode cX9_port 59 = .ok (.putfield 175, 3) := by decide +kernel
theorem dX9_port_62 : decode cX9_port 62 = .ok (.aload_n 0, 1) := by decide +kernel
theorem dX9_port_63 : decode cX9_port 63 = .ok (.iconst 0, 1) := by decide +kernel
theorem dX9_port_64 : decode cX9_port 64 = .ok (.putfield 188, 3) := by decide +kernel
theorem dX9_port_67 : decode cX9_port 67 = .ok (.aload_n 0, 1) := by decide +kernel
theorem dX9_port_68 : decode cX9_port 68 = .ok (.bipush 120, 2) := by decide +kernel
theorem dX9_port_70 : decode cX9_port 70 = .ok (.putfield 204, 3) := by decide +kernel
theorem dX9_port_73 : decode cX9_port 73 = .ok (.aload_n 0, 1) := by decide +kernel
theorem dX9_port_74 : decode cX9_port 74 = .ok (.iconst 0, 1) := by decide +kernel
theorem dX9_port_75 : decode cX9_port 75 = .ok (.putfield 197, 3) := by decide +kernel
theorem dX9_port_78 : decode cX9_port 78 = .ok (.aload_n 0, 1) := by decide +kernel
theorem dX9_port_79 : decode cX9_port 79 = .ok (.iconst 0, 1) := by decide +kernel
theorem dX9_port_80 : decode cX9_port 80 = .ok (.putfield 201, 3) := by decide +kernel
theorem dX9_port_83 : decode cX9_port 83 = .ok (.iconst 0, 1) := by decide +kernel
theorem dX9_port_84 : decode cX9_port 84 = .ok (.istore_n 2, 1) := by decide +kernel
theorem dX9_port_85 : decode cX9_port 85 = .ok (.iload_n 2, 1) := by decide +kernel
theorem dX9_port_86 : decode cX9_port 86 = .ok (.bipush 12, 2) := by decide +kernel
theorem dX9_port_88 : decode cX9_port 88 = .ok (.if_icmp .ge 16, 3) := by decide +kernel
theorem dX9_port_91 : decode cX9_port 91 = .ok (.aload_n 0, 1) := by decide +kernel
theorem dX9_port_92 : decode cX9_port 92 = .ok (.getfield 38, 3) := by decide +kernel
theorem dX9_port_95 : decode cX9_port 95 = .ok (.iload_n 2, 1) := by decide +kernel
theorem dX9_port_96 : decode cX9_port 96 = .ok (.iconst 0, 1) := by decide +kernel
theorem dX9_port_97 : decode cX9_port 97 = .ok (.iastore, 1) := by decide +kernel
theorem dX9_port_98 : decode cX9_port 98 = .ok (.iinc 2 1, 3) := by decide +kernel
theorem dX9_port_101 : decode cX9_port 101 = .ok (.goto (-16), 3) := by decide +kernel
theorem dX9_port_104 : decode cX9_port 104 = .ok (.aload_n 0, 1) := by decide +kernel
theorem dX9_port_105 : decode cX9_port 105 = .ok (.invokevirtual 165, 3) := by decide +kernel
theorem dX9_port_108 : decode cX9_port 108 = .ok (.aload_n 0, 1) := by decide +kernel
theorem dX9_port_109 : decode cX9_port 109 = .ok (.invokevirtual 161, 3) := by decide +kernel
theorem dX9_port_112 : decode cX9_port 112 = .ok (.ifCond .eq 17, 3) := by decide +kernel
theorem dX9_port_115 : decode cX9_port 115 = .ok (.aload_n 0, 1) := by decide +kernel
theorem dX9_port_116 : decode cX9_port 116 = .ok (.getfield 135, 3) := by decide +kernel
theorem dX9_port_119 : decode cX9_port 119 = .ok (.ifCond .eq 10, 3) := by decide +kernel
theorem dX9_port_122 : decode cX9_port 122 = .ok (.aload_n 0, 1) := by decide +kernel
theorem dX9_port_123 : decode cX9_port 123 = .ok (.invokevirtual 211, 3) := by decide +kernel
theorem dX9_port_126 : decode cX9_port 126 = .ok (.goto (-18), 3) := by decide +kernel
theorem dX9_port_129 : decode cX9_port 129 = .ok (.aload_n 0, 1) := by decide +kernel
theorem dX9_port_130 : decode cX9_port 130 = .ok (.invokevirtual 161, 3) := by decide +kernel
theorem dX9_port_133 : decode cX9_port 133 = .ok (.ifCond .ne 18, 3) := by decide +kernel
theorem dX9_port_136 : decode cX9_port 136 = .ok (.aload_n 0, 1) := by decide +kernel
theorem dX9_port_137 : decode cX9_port 137 = .ok (.getfield 29, 3) := by decide +kernel
theorem dX9_port_140 : decode cX9_port 140 = .ok (.iconst 0, 1) := by decide +kernel
theorem dX9_port_141 : decode cX9_port 141 = .ok (.dup2, 1) := by decide +kernel
theorem dX9_port_142 : decode cX9_port 142 = .ok (.iaload, 1) := by decide +kernel
theorem dX9_port_143 : decode cX9_port 143 = .ok (.iconst 1, 1) := by decide +kernel
theorem dX9_port_144 : decode cX9_port 144 = .ok (.iadd, 1) := by decide +kernel
theorem dX9_port_145 : decode cX9_port 145 = .ok (.iastore, 1) := by decide +kernel
theorem dX9_port_146 : decode cX9_port 146 = .ok (.aload_n 0, 1) := by decide +kernel
theorem dX9_port_147 : decode cX9_port 147 = .ok (.getfield 158, 3) := by decide +kernel
theorem dX9_port_150 : decode cX9_port 150 = .ok (.ireturn, 1) := by decide +kernel
theorem dX9_port_151 : decode cX9_port 151 = .ok (.aload_n 0, 1) := by decide +kernel
theorem dX9_port_152 : decode cX9_port 152 = .ok (.aload_n 0, 1) := by decide +kernel
theorem dX9_port_153 : decode cX9_port 153 = .ok (.getfield 175, 3) := by decide +kernel
theorem dX9_port_156 : decode cX9_port 156 = .ok (.putfield 214, 3) := by decide +kernel
theorem dX9_port_159 : decode cX9_port 159 = .ok (.aload_n 0, 1) := by decide +kernel
theorem dX9_port_160 : decode cX9_port 160 = .ok (.aload_n 0, 1) := by decide +kernel
theorem dX9_port_161 : decode cX9_port 161 = .ok (.getfield 188, 3) := by decide +kernel
theorem dX9_port_164 : decode cX9_port 164 = .ok (.putfield 217, 3) := by decide +kernel
theorem dX9_port_167 : decode cX9_port 167 = .ok (.aload_n 0, 1) := by decide +kernel
theorem dX9_port_168 : decode cX9_port 168 = .ok (.aload_n 0, 1) := by decide +kernel
theorem dX9_port_169 : decode cX9_port 169 = .ok (.getfield 204, 3) := by decide +kernel
theorem dX9_port_172 : decode cX9_port 172 = .ok (.putfield 7, 3) := by decide +kernel
theorem dX9_port_175 : decode cX9_port 175 = .ok (.aload_n 0, 1) := by decide +kernel
theorem dX9_port_176 : decode cX9_port 176 = .ok (.aload_n 0, 1) := by decide +kernel
theorem dX9_port_177 : decode cX9_port 177 = .ok (.getfield 32, 3) := by decide +kernel
theorem dX9_port_180 : decode cX9_port 180 = .ok (.aload_n 0, 1) := by decide +kernel
theorem dX9_port_181 : decode cX9_port 181 = .ok (.getfield 13, 3) := by decide +kernel
theorem dX9_port_184 : decode cX9_port 184 = .ok (.invokevirtual 220, 3) := by decide +kernel
theorem dX9_port_187 : decode cX9_port 187 = .ok (.aload_n 0, 1) := by decide +kernel
theorem dX9_port_188 : decode cX9_port 188 = .ok (.aload_n 0, 1) := by decide +kernel
theorem dX9_port_189 : decode cX9_port 189 = .ok (.getfield 35, 3) := by decide +kernel
theorem dX9_port_192 : decode cX9_port 192 = .ok (.aload_n 0, 1) := by decide +kernel
theorem dX9_port_193 : decode cX9_port 193 = .ok (.getfield 17, 3) := by decide +kernel
theorem dX9_port_196 : decode cX9_port 196 = .ok (.invokevirtual 220, 3) := by decide +kernel
theorem dX9_port_199 : decode cX9_port 199 = .ok (.aload_n 0, 1) := by decide +kernel
theorem dX9_port_200 : decode cX9_port 200 = .ok (.aload_n 0, 1) := by decide +kernel
theorem dX9_port_201 : decode cX9_port 201 = .ok (.getfield 38, 3) := by decide +kernel
theorem dX9_port_204 : decode cX9_port 204 = .ok (.aload_n 0, 1) := by decide +kernel
theorem dX9_port_205 : decode cX9_port 205 = .ok (.getfield 20, 3) := by decide +kernel
theorem dX9_port_208 : decode cX9_port 208 = .ok (.invokevirtual 220, 3) := by decide +kernel
theorem dX9_port_211 : decode cX9_port 211 = .ok (.aload_n 0, 1) := by decide +kernel
theorem dX9_port_212 : decode cX9_port 212 = .ok (.iconst 0, 1) := by decide +kernel
theorem dX9_port_213 : decode cX9_port 213 = .ok (.putfield 224, 3) := by decide +kernel
theorem dX9_port_216 : decode cX9_port 216 = .ok (.aload_n 0, 1) := by decide +kernel
theorem dX9_port_217 : decode cX9_port 217 = .ok (.iconst 0, 1) := by decide +kernel
theorem dX9_port_218 : decode cX9_port 218 = .ok (.putfield 227, 3) := by decide +kernel
theorem dX9_port_221 : decode cX9_port 221 = .ok (.aload_n 0, 1) := by decide +kernel
theorem dX9_port_222 : decode cX9_port 222 = .ok (.iconst 0, 1) := by decide +kernel
theorem dX9_port_223 : decode cX9_port 223 = .ok (.putfield 230, 3) := by decide +kernel
theorem dX9_port_226 : decode cX9_port 226 = .ok (.aload_n 0, 1) := by decide +kernel
theorem dX9_port_227 : decode cX9_port 227 = .ok (.iconst (-1), 1) := by decide +kernel
theorem dX9_port_228 : decode cX9_port 228 = .ok (.putfield 48, 3) := by decide +kernel
theorem dX9_port_231 : decode cX9_port 231 = .ok (.aload_n 0, 1) := by decide +kernel
theorem dX9_port_232 : decode cX9_port 232 = .ok (.iconst 0, 1) := by decide +kernel
theorem dX9_port_233 : decode cX9_port 233 = .ok (.putfield 233, 3) := by decide +kernel
theorem dX9_port_236 : decode cX9_port 236 = .ok (.aload_n 0, 1) := by decide +kernel
theorem dX9_port_237 : decode cX9_port 237 = .ok (.iconst 0, 1) := by decide +kernel
theorem dX9_port_238 : decode cX9_port 238 = .ok (.putfield 236, 3) := by decide +kernel
theorem dX9_port_241 : decode cX9_port 241 = .ok (.iconst 0, 1) := by decide +kernel
theorem dX9_port_242 : decode cX9_port 242 = .ok (.ireturn, 1) := by decide +kernel
theorem dX9_fault_0 : decode cX9_fault 0 = .ok (.aload_n 0, 1) := by decide +kernel
theorem dX9_fault_1 : decode cX9_fault 1 = .ok (.iconst 0, 1) := by decide +kernel
theorem dX9_fault_2 : decode cX9_fault 2 = .ok (.putfield 102, 3) := by decide +kernel
theorem dX9_fault_5 : decode cX9_fault 5 = .ok (.aload_n 0, 1) := by decide +kernel
theorem dX9_fault_6 : decode cX9_fault 6 = .ok (.getfield 26, 3) := by decide +kernel
theorem dX9_fault_9 : decode cX9_fault 9 = .ok (.ireturn, 1) := by decide +kernel
theorem dX9_count_0 : decode cX9_count 0 = .ok (.aload_n 0, 1) := by decide +kernel
theorem dX9_count_1 : decode cX9_count 1 = .ok (.iconst 0, 1) := by decide +kernel
theorem dX9_count_2 : decode cX9_count 2 = .ok (.putfield 102, 3) := by decide +kernel
theorem dX9_count_5 : decode cX9_count 5 = .ok (.aload_n 0, 1) := by decide +kernel
theorem dX9_count_6 : decode cX9_count 6 = .ok (.iload_n 1, 1) := by decide +kernel
theorem dX9_count_7 : decode cX9_count 7 = .ok (.iconst 0, 1) := by decide +kernel
theorem dX9_count_8 : decode cX9_count 8 = .ok (.bipush 10, 2) := by decide +kernel
theorem dX9_count_10 : decode cX9_count 10 = .ok (.invokestatic 239, 3) := by decide +kernel
theorem dX9_count_13 : decode cX9_count 13 = .ok (.ifCond .ne 14, 3) := by decide +kernel
theorem dX9_count_16 : decode cX9_count 16 = .ok (.iload_n 1, 1) := by decide +kernel
theorem dX9_count_17 : decode cX9_count 17 = .ok (.bipush 20, 2) := by decide +kernel
theorem dX9_count_19 : decode cX9_count 19 = .ok (.bipush 31, 2) := by decide +kernel
theorem dX9_count_21 : decode cX9_count 21 = .ok (.invokestatic 239, 3) := by decide +kernel
theorem dX9_count_24 : decode cX9_count 24 = .ok (.ifCond .eq 7, 3) := by decide +kernel
theorem dX9_count_27 : decode cX9_count 27 = .ok (.iconst 1, 1) := by decide +kernel
theorem dX9_count_28 : decode cX9_count 28 = .ok (.goto 4, 3) := by decide +kernel
theorem dX9_count_31 : decode cX9_count 31 = .ok (.iconst 0, 1) := by decide +kernel
theorem dX9_count_32 : decode cX9_count 32 = .ok (.iconst 1, 1) := by decide +kernel
theorem dX9_count_33 : decode cX9_count 33 = .ok (.invokevirtual 207, 3) := by decide +kernel
theorem dX9_count_36 : decode cX9_count 36 = .ok (.ifCond .ne 5, 3) := by decide +kernel
theorem dX9_count_39 : decode cX9_count 39 = .ok (.iconst 0, 1) := by decide +kernel
theorem dX9_count_40 : decode cX9_count 40 = .ok (.ireturn, 1) := by decide +kernel
theorem dX9_count_41 : decode cX9_count 41 = .ok (.iload_n 1, 1) := by decide +kernel
theorem dX9_count_42 : decode cX9_count 42 = .ok (.tableswitch 77 0 6 #[42, 47, 52, 57, 62, 67, 72], 42) := by decide +kernel
theorem dX9_count_84 : decode cX9_count 84 = .ok (.aload_n 0, 1) := by decide +kernel
theorem dX9_count_85 : decode cX9_count 85 = .ok (.getfield 214, 3) := by decide +kernel
theorem dX9_count_88 : decode cX9_count 88 = .ok (.ireturn, 1) := by decide +kernel
theorem dX9_count_89 : decode cX9_count 89 = .ok (.aload_n 0, 1) := by decide +kernel
theorem dX9_count_90 : decode cX9_count 90 = .ok (.getfield 7, 3) := by decide +kernel
theorem dX9_count_93 : decode cX9_count 93 = .ok (.ireturn, 1) := by decide +kernel
theorem dX9_count_94 : decode cX9_count 94 = .ok (.aload_n 0, 1) := by decide +kernel
theorem dX9_count_95 : decode cX9_count 95 = .ok (.getfield 217, 3) := by decide +kernel
theorem dX9_count_98 : decode cX9_count 98 = .ok (.ireturn, 1) := by decide +kernel
theorem dX9_count_99 : decode cX9_count 99 = .ok (.aload_n 0, 1) := by decide +kernel
theorem dX9_count_100 : decode cX9_count 100 = .ok (.getfield 224, 3) := by decide +kernel
theorem dX9_count_103 : decode cX9_count 103 = .ok (.ireturn, 1) := by decide +kernel
theorem dX9_count_104 : decode cX9_count 104 = .ok (.aload_n 0, 1) := by decide +kernel
theorem dX9_count_105 : decode cX9_count 105 = .ok (.getfield 227, 3) := by decide +kernel
theorem dX9_count_108 : decode cX9_count 108 = .ok (.ireturn, 1) := by decide +kernel
theorem dX9_count_109 : decode cX9_count 109 = .ok (.aload_n 0, 1) := by decide +kernel
theorem dX9_count_110 : decode cX9_count 110 = .ok (.getfield 230, 3) := by decide +kernel
theorem dX9_count_113 : decode cX9_count 113 = .ok (.ireturn, 1) := by decide +kernel
theorem dX9_count_114 : decode cX9_count 114 = .ok (.aload_n 0, 1) := by decide +kernel
theorem dX9_count_115 : decode cX9_count 115 = .ok (.getfield 105, 3) := by decide +kernel
theorem dX9_count_118 : decode cX9_count 118 = .ok (.ireturn, 1) := by decide +kernel
theorem dX9_count_119 : decode cX9_count 119 = .ok (.iload_n 1, 1) := by decide +kernel
theorem dX9_count_120 : decode cX9_count 120 = .ok (.bipush 20, 2) := by decide +kernel
theorem dX9_count_122 : decode cX9_count 122 = .ok (.if_icmp .ge 15, 3) := by decide +kernel
theorem dX9_count_125 : decode cX9_count 125 = .ok (.aload_n 0, 1) := by decide +kernel
theorem dX9_count_126 : decode cX9_count 126 = .ok (.getfield 29, 3) := by decide +kernel
theorem dX9_count_129 : decode cX9_count 129 = .ok (.iload_n 1, 1) := by decide +kernel
theorem dX9_count_130 : decode cX9_count 130 = .ok (.bipush 7, 2) := by decide +kernel
theorem dX9_count_132 : decode cX9_count 132 = .ok (.isub, 1) := by decide +kernel
theorem dX9_count_133 : decode cX9_count 133 = .ok (.iaload, 1) := by decide +kernel
theorem dX9_count_134 : decode cX9_count 134 = .ok (.goto 12, 3) := by decide +kernel
theorem dX9_count_137 : decode cX9_count 137 = .ok (.aload_n 0, 1) := by decide +kernel
theorem dX9_count_138 : decode cX9_count 138 = .ok (.getfield 20, 3) := by decide +kernel
theorem dX9_count_141 : decode cX9_count 141 = .ok (.iload_n 1, 1) := by decide +kernel
theorem dX9_count_142 : decode cX9_count 142 = .ok (.bipush 20, 2) := by decide +kernel
theorem dX9_count_144 : decode cX9_count 144 = .ok (.isub, 1) := by decide +kernel
theorem dX9_count_145 : decode cX9_count 145 = .ok (.iaload, 1) := by decide +kernel
theorem dX9_count_146 : decode cX9_count 146 = .ok (.ireturn, 1) := by decide +kernel
theorem dX9_isDial_0 : decode cX9_isDial 0 = .ok (.aload_n 0, 1) := by decide +kernel
theorem dX9_isDial_1 : decode cX9_isDial 1 = .ok (.iload_n 1, 1) := by decide +kernel
theorem dX9_isDial_2 : decode cX9_isDial 2 = .ok (.ifCond .lt 15, 3) := by decide +kernel
theorem dX9_isDial_5 : decode cX9_isDial 5 = .ok (.iload_n 1, 1) := by decide +kernel
theorem dX9_isDial_6 : decode cX9_isDial 6 = .ok (.aload_n 0, 1) := by decide +kernel
theorem dX9_isDial_7 : decode cX9_isDial 7 = .ok (.getfield 214, 3) := by decide +kernel
theorem dX9_isDial_10 : decode cX9_isDial 10 = .ok (.if_icmp .ge 7, 3) := by decide +kernel
theorem dX9_isDial_13 : decode cX9_isDial 13 = .ok (.iconst 1, 1) := by decide +kernel
theorem dX9_isDial_14 : decode cX9_isDial 14 = .ok (.goto 4, 3) := by decide +kernel
theorem dX9_isDial_17 : decode cX9_isDial 17 = .ok (.iconst 0, 1) := by decide +kernel
theorem dX9_isDial_18 : decode cX9_isDial 18 = .ok (.iconst 1, 1) := by decide +kernel
theorem dX9_isDial_19 : decode cX9_isDial 19 = .ok (.invokevirtual 207, 3) := by decide +kernel
theorem dX9_isDial_22 : decode cX9_isDial 22 = .ok (.ireturn, 1) := by decide +kernel
theorem dX9_isDay_0 : decode cX9_isDay 0 = .ok (.aload_n 0, 1) := by decide +kernel
theorem dX9_isDay_1 : decode cX9_isDay 1 = .ok (.iload_n 1, 1) := by decide +kernel
theorem dX9_isDay_2 : decode cX9_isDay 2 = .ok (.iconst 0, 1) := by decide +kernel
theorem dX9_isDay_3 : decode cX9_isDay 3 = .ok (.sipush 364, 3) := by decide +kernel
theorem dX9_isDay_6 : decode cX9_isDay 6 = .ok (.invokestatic 239, 3) := by decide +kernel
theorem dX9_isDay_9 : decode cX9_isDay 9 = .ok (.iconst 1, 1) := by decide +kernel
theorem dX9_isDay_10 : decode cX9_isDay 10 = .ok (.invokevirtual 207, 3) := by decide +kernel
theorem dX9_isDay_13 : decode cX9_isDay 13 = .ok (.ireturn, 1) := by decide +kernel
theorem dX9_isMinute_0 : decode cX9_isMinute 0 = .ok (.aload_n 0, 1) := by decide +kernel
theorem dX9_isMinute_1 : decode cX9_isMinute 1 = .ok (.iload_n 1, 1) := by decide +kernel
theorem dX9_isMinute_2 : decode cX9_isMinute 2 = .ok (.iconst 0, 1) := by decide +kernel
theorem dX9_isMinute_3 : decode cX9_isMinute 3 = .ok (.sipush 1439, 3) := by decide +kernel
theorem dX9_isMinute_6 : decode cX9_isMinute 6 = .ok (.invokestatic 239, 3) := by decide +kernel
theorem dX9_isMinute_9 : decode cX9_isMinute 9 = .ok (.iconst 1, 1) := by decide +kernel
theorem dX9_isMinute_10 : decode cX9_isMinute 10 = .ok (.invokevirtual 207, 3) := by decide +kernel
theorem dX9_isMinute_13 : decode cX9_isMinute 13 = .ok (.ireturn, 1) := by decide +kernel
theorem dX9_isWhat_0 : decode cX9_isWhat 0 = .ok (.aload_n 0, 1) := by decide +kernel
theorem dX9_isWhat_1 : decode cX9_isWhat 1 = .ok (.iload_n 1, 1) := by decide +kernel
theorem dX9_isWhat_2 : decode cX9_isWhat 2 = .ok (.iconst 0, 1) := by decide +kernel
theorem dX9_isWhat_3 : decode cX9_isWhat 3 = .ok (.iload_n 2, 1) := by decide +kernel
theorem dX9_isWhat_4 : decode cX9_isWhat 4 = .ok (.invokestatic 239, 3) := by decide +kernel
theorem dX9_isWhat_7 : decode cX9_isWhat 7 = .ok (.iconst 1, 1) := by decide +kernel
theorem dX9_isWhat_8 : decode cX9_isWhat 8 = .ok (.invokevirtual 207, 3) := by decide +kernel
theorem dX9_isWhat_11 : decode cX9_isWhat 11 = .ok (.ireturn, 1) := by decide +kernel
theorem dX9_dial_0 : decode cX9_dial 0 = .ok (.aload_n 0, 1) := by decide +kernel
theorem dX9_dial_1 : decode cX9_dial 1 = .ok (.iconst 0, 1) := by decide +kernel
theorem dX9_dial_2 : decode cX9_dial 2 = .ok (.putfield 102, 3) := by decide +kernel
theorem dX9_dial_5 : decode cX9_dial 5 = .ok (.aload_n 0, 1) := by decide +kernel
theorem dX9_dial_6 : decode cX9_dial 6 = .ok (.iload_n 1, 1) := by decide +kernel
theorem dX9_dial_7 : decode cX9_dial 7 = .ok (.invokevirtual 243, 3) := by decide +kernel
theorem dX9_dial_10 : decode cX9_dial 10 = .ok (.ifCond .eq 25, 3) := by decide +kernel
theorem dX9_dial_13 : decode cX9_dial 13 = .ok (.aload_n 0, 1) := by decide +kernel
theorem dX9_dial_14 : decode cX9_dial 14 = .ok (.iload_n 2, 1) := by decide +kernel
theorem dX9_dial_15 : decode cX9_dial 15 = .ok (.iconst 4, 1) := by decide +kernel
theorem dX9_dial_16 : decode cX9_dial 16 = .ok (.invokevirtual 246, 3) := by decide +kernel
theorem dX9_dial_19 : decode cX9_dial 19 = .ok (.ifCond .eq 16, 3) := by decide +kernel
theorem dX9_dial_22 : decode cX9_dial 22 = .ok (.aload_n 0, 1) := by decide +kernel
theorem dX9_dial_23 : decode cX9_dial 23 = .ok (.getfield 13, 3) := by decide +kernel
theorem dX9_dial_26 : decode cX9_dial 26 = .ok (.iconst 5, 1) := by decide +kernel
theorem dX9_dial_27 : decode cX9_dial 27 = .ok (.iload_n 1, 1) := by decide +kernel
theorem dX9_dial_28 : decode cX9_dial 28 = .ok (.imul, 1) := by decide +kernel
theorem dX9_dial_29 : decode cX9_dial 29 = .ok (.iload_n 2, 1) := by decide +kernel
theorem dX9_dial_30 : decode cX9_dial 30 = .ok (.iadd, 1) := by decide +kernel
theorem dX9_dial_31 : decode cX9_dial 31 = .ok (.iaload, 1) := by decide +kernel
theorem dX9_dial_32 : decode cX9_dial 32 = .ok (.goto 4, 3) := by decide +kernel
theorem dX9_dial_35 : decode cX9_dial 35 = .ok (.iconst 0, 1) := by decide +kernel
theorem dX9_dial_36 : decode cX9_dial 36 = .ok (.ireturn, 1) := by decide +kernel
theorem dX9_noon_0 : decode cX9_noon 0 = .ok (.sipush 720, 3) := by decide +kernel
theorem dX9_noon_3 : decode cX9_noon 3 = .ok (.aload_n 0, 1) := by decide +kernel
theorem dX9_noon_4 : decode cX9_noon 4 = .ok (.getfield 20, 3) := by decide +kernel
theorem dX9_noon_7 : decode cX9_noon 7 = .ok (.iload_n 1, 1) := by decide +kernel
theorem dX9_noon_8 : decode cX9_noon 8 = .ok (.bipush 31, 2) := by decide +kernel
theorem dX9_noon_10 : decode cX9_noon 10 = .ok (.idiv, 1) := by decide +kernel
theorem dX9_noon_11 : decode cX9_noon 11 = .ok (.iaload, 1) := by decide +kernel
theorem dX9_noon_12 : decode cX9_noon 12 = .ok (.iadd, 1) := by decide +kernel
theorem dX9_noon_13 : decode cX9_noon 13 = .ok (.ireturn, 1) := by decide +kernel
theorem dX9_half_0 : decode cX9_half 0 = .ok (.iload_n 1, 1) := by decide +kernel
theorem dX9_half_1 : decode cX9_half 1 = .ok (.sipush 172, 3) := by decide +kernel
theorem dX9_half_4 : decode cX9_half 4 = .ok (.invokestatic 250, 3) := by decide +kernel
theorem dX9_half_7 : decode cX9_half 7 = .ok (.istore_n 2, 1) := by decide +kernel
theorem dX9_half_8 : decode cX9_half 8 = .ok (.iload_n 2, 1) := by decide +kernel
theorem dX9_half_9 : decode cX9_half 9 = .ok (.sipush 182, 3) := by decide +kernel
theorem dX9_half_12 : decode cX9_half 12 = .ok (.if_icmp .gt 7, 3) := by decide +kernel
theorem dX9_half_15 : decode cX9_half 15 = .ok (.iload_n 2, 1) := by decide +kernel
theorem dX9_half_16 : decode cX9_half 16 = .ok (.goto 8, 3) := by decide +kernel
theorem dX9_half_19 : decode cX9_half 19 = .ok (.sipush 365, 3) := by decide +kernel
theorem dX9_half_22 : decode cX9_half 22 = .ok (.iload_n 2, 1) := by decide +kernel
theorem dX9_half_23 : decode cX9_half 23 = .ok (.isub, 1) := by decide +kernel
theorem dX9_half_24 : decode cX9_half 24 = .ok (.istore_n 2, 1) := by decide +kernel
theorem dX9_half_25 : decode cX9_half 25 = .ok (.sipush 360, 3) := by decide +kernel
theorem dX9_half_28 : decode cX9_half 28 = .ok (.aload_n 0, 1) := by decide +kernel
theorem dX9_half_29 : decode cX9_half 29 = .ok (.getfield 7, 3) := by decide +kernel
theorem dX9_half_32 : decode cX9_half 32 = .ok (.bipush 91, 2) := by decide +kernel
theorem dX9_half_34 : decode cX9_half 34 = .ok (.iload_n 2, 1) := by decide +kernel
theorem dX9_half_35 : decode cX9_half 35 = .ok (.isub, 1) := by decide +kernel
theorem dX9_half_36 : decode cX9_half 36 = .ok (.imul, 1) := by decide +kernel
theorem dX9_half_37 : decode cX9_half 37 = .ok (.bipush 91, 2) := by decide +kernel
theorem dX9_half_39 : decode cX9_half 39 = .ok (.idiv, 1) := by decide +kernel
theorem dX9_half_40 : decode cX9_half 40 = .ok (.iadd, 1) := by decide +kernel
theorem dX9_half_41 : decode cX9_half 41 = .ok (.ireturn, 1) := by decide +kernel
theorem dX9_lights_0 : decode cX9_lights 0 = .ok (.aload_n 0, 1) := by decide +kernel
theorem dX9_lights_1 : decode cX9_lights 1 = .ok (.getfield 48, 3) := by decide +kernel
theorem dX9_lights_4 : decode cX9_lights 4 = .ok (.iload_n 1, 1) := by decide +kernel
theorem dX9_lights_5 : decode cX9_lights 5 = .ok (.if_icmp .ne 4, 3) := by decide +kernel
theorem dX9_lights_8 : decode cX9_lights 8 = .ok (.return_, 1) := by decide +kernel
theorem dX9_lights_9 : decode cX9_lights 9 = .ok (.aload_n 0, 1) := by decide +kernel
theorem dX9_lights_10 : decode cX9_lights 10 = .ok (.iload_n 1, 1) := by decide +kernel
theorem dX9_lights_11 : decode cX9_lights 11 = .ok (.putfield 48, 3) := by decide +kernel
theorem dX9_lights_14 : decode cX9_lights 14 = .ok (.iconst 0, 1) := by decide +kernel
theorem dX9_lights_15 : decode cX9_lights 15 = .ok (.istore_n 2, 1) := by decide +kernel
theorem dX9_lights_16 : decode cX9_lights 16 = .ok (.iload_n 2, 1) := by decide +kernel
theorem dX9_lights_17 : decode cX9_lights 17 = .ok (.sipush 1440, 3) := by decide +kernel
theorem dX9_lights_20 : decode cX9_lights 20 = .ok (.if_icmp .ge 49, 3) := by decide +kernel
theorem dX9_lights_23 : decode cX9_lights 23 = .ok (.aload_n 0, 1) := by decide +kernel
theorem dX9_lights_24 : decode cX9_lights 24 = .ok (.getfield 45, 3) := by decide +kernel
theorem dX9_lights_27 : decode cX9_lights 27 = .ok (.iload_n 2, 1) := by decide +kernel
theorem dX9_lights_28 : decode cX9_lights 28 = .ok (.iload_n 2, 1) := by decide +kernel
theorem dX9_lights_29 : decode cX9_lights 29 = .ok (.aload_n 0, 1) := by decide +kernel
theorem dX9_lights_30 : decode cX9_lights 30 = .ok (.iload_n 1, 1) := by decide +kernel
theorem dX9_lights_31 : decode cX9_lights 31 = .ok (.invokevirtual 253, 3) := by decide +kernel
theorem dX9_lights_34 : decode cX9_lights 34 = .ok (.invokestatic 250, 3) := by decide +kernel
theorem dX9_lights_37 : decode cX9_lights 37 = .ok (.aload_n 0, 1) := by decide +kernel
theorem dX9_lights_38 : decode cX9_lights 38 = .ok (.iload_n 1, 1) := by decide +kernel
theorem dX9_lights_39 : decode cX9_lights 39 = .ok (.invokevirtual 256, 3) := by decide +kernel
theorem dX9_lights_42 : decode cX9_lights 42 = .ok (.if_icmp .gt 7, 3) := by decide +kernel
theorem dX9_lights_45 : decode cX9_lights 45 = .ok (.iconst 1, 1) := by decide +kernel
theorem dX9_lights_46 : decode cX9_lights 46 = .ok (.goto 4, 3) := by decide +kernel
theorem dX9_lights_49 : decode cX9_lights 49 = .ok (.iconst 0, 1) := by decide +kernel
theorem dX9_lights_50 : decode cX9_lights 50 = .ok (.bastore, 1) := by decide +kernel
theorem dX9_lights_51 : decode cX9_lights 51 = .ok (.aload_n 0, 1) := by decide +kernel
theorem dX9_lights_52 : decode cX9_lights 52 = .ok (.getfield 41, 3) := by decide +kernel
theorem dX9_lights_55 : decode cX9_lights 55 = .ok (.iload_n 2, 1) := by decide +kernel
theorem dX9_lights_56 : decode cX9_lights 56 = .ok (.aload_n 0, 1) := by decide +kernel
theorem dX9_lights_57 : decode cX9_lights 57 = .ok (.getfield 45, 3) := by decide +kernel
theorem dX9_lights_60 : decode cX9_lights 60 = .ok (.iload_n 2, 1) := by decide +kernel
theorem dX9_lights_61 : decode cX9_lights 61 = .ok (.baload, 1) := by decide +kernel
theorem dX9_lights_62 : decode cX9_lights 62 = .ok (.bastore, 1) := by decide +kernel
theorem dX9_lights_63 : decode cX9_lights 63 = .ok (.iinc 2 1, 3) := by decide +kernel
theorem dX9_lights_66 : decode cX9_lights 66 = .ok (.goto (-50), 3) := by decide +kernel
theorem dX9_lights_69 : decode cX9_lights 69 = .ok (.iconst 0, 1) := by decide +kernel
theorem dX9_lights_70 : decode cX9_lights 70 = .ok (.istore_n 2, 1) := by decide +kernel
theorem dX9_lights_71 : decode cX9_lights 71 = .ok (.iload_n 2, 1) := by decide +kernel
theorem dX9_lights_72 : decode cX9_lights 72 = .ok (.aload_n 0, 1) := by decide +kernel
theorem dX9_lights_73 : decode cX9_lights 73 = .ok (.getfield 217, 3) := by decide +kernel
theorem dX9_lights_76 : decode cX9_lights 76 = .ok (.if_icmp .ge 62, 3) := by decide +kernel
theorem dX9_lights_79 : decode cX9_lights 79 = .ok (.aload_n 0, 1) := by decide +kernel
theorem dX9_lights_80 : decode cX9_lights 80 = .ok (.getfield 17, 3) := by decide +kernel
theorem dX9_lights_83 : decode cX9_lights 83 = .ok (.iconst 3, 1) := by decide +kernel
theorem dX9_lights_84 : decode cX9_lights 84 = .ok (.iload_n 2, 1) := by decide +kernel
theorem dX9_lights_85 : decode cX9_lights 85 = .ok (.imul, 1) := by decide +kernel
theorem dX9_lights_86 : decode cX9_lights 86 = .ok (.iaload, 1) := by decide +kernel
theorem dX9_lights_87 : decode cX9_lights 87 = .ok (.iload_n 1, 1) := by decide +kernel
theorem dX9_lights_88 : decode cX9_lights 88 = .ok (.if_icmp .eq 6, 3) := by decide +kernel
theorem dX9_lights_91 : decode cX9_lights 91 = .ok (.goto 41, 3) := by decide +kernel
theorem dX9_lights_94 : decode cX9_lights 94 = .ok (.aload_n 0, 1) := by decide +kernel
theorem dX9_lights_95 : decode cX9_lights 95 = .ok (.getfield 17, 3) := by decide +kernel
theorem dX9_lights_98 : decode cX9_lights 98 = .ok (.iconst 3, 1) := by decide +kernel
theorem dX9_lights_99 : decode cX9_lights 99 = .ok (.iload_n 2, 1) := by decide +kernel
theorem dX9_lights_100 : decode cX9_lights 100 = .ok (.imul, 1) := by decide +kernel
theorem dX9_lights_101 : decode cX9_lights 101 = .ok (.iconst 1, 1) := by decide +kernel
theorem dX9_lights_102 : decode cX9_lights 102 = .ok (.iadd, 1) := by decide +kernel
theorem dX9_lights_103 : decode cX9_lights 103 = .ok (.iaload, 1) := by decide +kernel
theorem dX9_lights_104 : decode cX9_lights 104 = .ok (.istore_n 3, 1) := by decide +kernel
theorem dX9_lights_105 : decode cX9_lights 105 = .ok (.iload_n 3, 1) := by decide +kernel
theorem dX9_lights_106 : decode cX9_lights 106 = .ok (.aload_n 0, 1) := by decide +kernel
theorem dX9_lights_107 : decode cX9_lights 107 = .ok (.getfield 17, 3) := by decide +kernel
theorem dX9_lights_110 : decode cX9_lights 110 = .ok (.iconst 3, 1) := by decide +kernel
theorem dX9_lights_111 : decode cX9_lights 111 = .ok (.iload_n 2, 1) := by decide +kernel
theorem dX9_lights_112 : decode cX9_lights 112 = .ok (.imul, 1) := by decide +kernel
theorem dX9_lights_113 : decode cX9_lights 113 = .ok (.iconst 2, 1) := by decide +kernel
theorem dX9_lights_114 : decode cX9_lights 114 = .ok (.iadd, 1) := by decide +kernel
theorem dX9_lights_115 : decode cX9_lights 115 = .ok (.iaload, 1) := by decide +kernel
theorem dX9_lights_116 : decode cX9_lights 116 = .ok (.if_icmp .gt 16, 3) := by decide +kernel
theorem dX9_lights_119 : decode cX9_lights 119 = .ok (.aload_n 0, 1) := by decide +kernel
theorem dX9_lights_120 : decode cX9_lights 120 = .ok (.getfield 41, 3) := by decide +kernel
theorem dX9_lights_123 : decode cX9_lights 123 = .ok (.iload_n 3, 1) := by decide +kernel
theorem dX9_lights_124 : decode cX9_lights 124 = .ok (.iconst 0, 1) := by decide +kernel
theorem dX9_lights_125 : decode cX9_lights 125 = .ok (.bastore, 1) := by decide +kernel
theorem dX9_lights_126 : decode cX9_lights 126 = .ok (.iinc 3 1, 3) := by decide +kernel
theorem dX9_lights_129 : decode cX9_lights 129 = .ok (.goto (-24), 3) := by decide +kernel
theorem dX9_lights_132 : decode cX9_lights 132 = .ok (.iinc 2 1, 3) := by decide +kernel
theorem dX9_lights_135 : decode cX9_lights 135 = .ok (.goto (-64), 3) := by decide +kernel
theorem dX9_lights_138 : decode cX9_lights 138 = .ok (.return_, 1) := by decide +kernel
theorem dX9_day_0 : decode cX9_day 0 = .ok (.aload_n 0, 1) := by decide +kernel
theorem dX9_day_1 : decode cX9_day 1 = .ok (.iconst 0, 1) := by decide +kernel
theorem dX9_day_2 : decode cX9_day 2 = .ok (.putfield 102, 3) := by decide +kernel
theorem dX9_day_5 : decode cX9_day 5 = .ok (.aload_n 0, 1) := by decide +kernel
theorem dX9_day_6 : decode cX9_day 6 = .ok (.iload_n 1, 1) := by decide +kernel
theorem dX9_day_7 : decode cX9_day 7 = .ok (.invokevirtual 259, 3) := by decide +kernel
theorem dX9_day_10 : decode cX9_day 10 = .ok (.ifCond .eq 12, 3) := by decide +kernel
theorem dX9_day_13 : decode cX9_day 13 = .ok (.aload_n 0, 1) := by decide +kernel
theorem dX9_day_14 : decode cX9_day 14 = .ok (.iload_n 2, 1) := by decide +kernel
theorem dX9_day_15 : decode cX9_day 15 = .ok (.iconst 1, 1) := by decide +kernel
theorem dX9_day_16 : decode cX9_day 16 = .ok (.invokevirtual 246, 3) := by decide +kernel
theorem dX9_day_19 : decode cX9_day 19 = .ok (.ifCond .ne 5, 3) := by decide +kernel
theorem dX9_day_22 : decode cX9_day 22 = .ok (.iconst 0, 1) := by decide +kernel
theorem dX9_day_23 : decode cX9_day 23 = .ok (.ireturn, 1) := by decide +kernel
theorem dX9_day_24 : decode cX9_day 24 = .ok (.iload_n 2, 1) := by decide +kernel
theorem dX9_day_25 : decode cX9_day 25 = .ok (.ifCond .ne 11, 3) := by decide +kernel
theorem dX9_day_28 : decode cX9_day 28 = .ok (.aload_n 0, 1) := by decide +kernel
theorem dX9_day_29 : decode cX9_day 29 = .ok (.iload_n 1, 1) := by decide +kernel
theorem dX9_day_30 : decode cX9_day 30 = .ok (.invokevirtual 253, 3) := by decide +kernel
theorem dX9_day_33 : decode cX9_day 33 = .ok (.goto 8, 3) := by decide +kernel
theorem dX9_day_36 : decode cX9_day 36 = .ok (.aload_n 0, 1) := by decide +kernel
theorem dX9_day_37 : decode cX9_day 37 = .ok (.iload_n 1, 1) := by decide +kernel
theorem dX9_day_38 : decode cX9_day 38 = .ok (.invokevirtual 256, 3) := by decide +kernel
theorem dX9_day_41 : decode cX9_day 41 = .ok (.ireturn, 1) := by decide +kernel
theorem dX9_round_0 : decode cX9_round 0 = .ok (.iload_n 0, 1) := by decide +kernel
theorem dX9_round_1 : decode cX9_round 1 = .ok (.sipush 1440, 3) := by decide +kernel
theorem dX9_round_4 : decode cX9_round 4 = .ok (.irem, 1) := by decide +kernel
theorem dX9_round_5 : decode cX9_round 5 = .ok (.istore_n 1, 1) := by decide +kernel
theorem dX9_round_6 : decode cX9_round 6 = .ok (.iload_n 1, 1) := by decide +kernel
theorem dX9_round_7 : decode cX9_round 7 = .ok (.ifCond .ge 11, 3) := by decide +kernel
theorem dX9_round_10 : decode cX9_round 10 = .ok (.iload_n 1, 1) := by decide +kernel
theorem dX9_round_11 : decode cX9_round 11 = .ok (.sipush 1440, 3) := by decide +kernel
theorem dX9_round_14 : decode cX9_round 14 = .ok (.iadd, 1) := by decide +kernel
theorem dX9_round_15 : decode cX9_round 15 = .ok (.goto 4, 3) := by decide +kernel
theorem dX9_round_18 : decode cX9_round 18 = .ok (.iload_n 1, 1) := by decide +kernel
theorem dX9_round_19 : decode cX9_round 19 = .ok (.ireturn, 1) := by decide +kernel
theorem dX9_tellsBy_0 : decode cX9_tellsBy 0 = .ok (.iload_n 1, 1) := by decide +kernel
theorem dX9_tellsBy_1 : decode cX9_tellsBy 1 = .ok (.iconst 5, 1) := by decide +kernel
theorem dX9_tellsBy_2 : decode cX9_tellsBy 2 = .ok (.if_icmp .ne 15, 3) := by decide +kernel
theorem dX9_tellsBy_5 : decode cX9_tellsBy 5 = .ok (.sipush 720, 3) := by decide +kernel
theorem dX9_tellsBy_8 : decode cX9_tellsBy 8 = .ok (.iload_n 2, 1) := by decide +kernel
theorem dX9_tellsBy_9 : decode cX9_tellsBy 9 = .ok (.iadd, 1) := by decide +kernel
theorem dX9_tellsBy_10 : decode cX9_tellsBy 10 = .ok (.iload 4, 2) := by decide +kernel
theorem dX9_tellsBy_12 : decode cX9_tellsBy 12 = .ok (.iadd, 1) := by decide +kernel
theorem dX9_tellsBy_13 : decode cX9_tellsBy 13 = .ok (.invokestatic 262, 3) := by decide +kernel
theorem dX9_tellsBy_16 : decode cX9_tellsBy 16 = .ok (.ireturn, 1) := by decide +kernel
theorem dX9_tellsBy_17 : decode cX9_tellsBy 17 = .ok (.iload 5, 2) := by decide +kernel
theorem dX9_tellsBy_19 : decode cX9_tellsBy 19 = .ok (.iconst (-1), 1) := by decide +kernel
theorem dX9_tellsBy_20 : decode cX9_tellsBy 20 = .ok (.if_icmp .eq 12, 3) := by decide +kernel
theorem dX9_tellsBy_23 : decode cX9_tellsBy 23 = .ok (.iload 6, 2) := by decide +kernel
theorem dX9_tellsBy_25 : decode cX9_tellsBy 25 = .ok (.iload 5, 2) := by decide +kernel
theorem dX9_tellsBy_27 : decode cX9_tellsBy 27 = .ok (.if_icmp .lt 5, 3) := by decide +kernel
theorem dX9_tellsBy_30 : decode cX9_tellsBy 30 = .ok (.iconst (-1), 1) := by decide +kernel
theorem dX9_tellsBy_31 : decode cX9_tellsBy 31 = .ok (.ireturn, 1) := by decide +kernel
theorem dX9_tellsBy_32 : decode cX9_tellsBy 32 = .ok (.aload_n 0, 1) := by decide +kernel
theorem dX9_tellsBy_33 : decode cX9_tellsBy 33 = .ok (.iload 6, 2) := by decide +kernel
theorem dX9_tellsBy_35 : decode cX9_tellsBy 35 = .ok (.invokevirtual 265, 3) := by decide +kernel
theorem dX9_tellsBy_38 : decode cX9_tellsBy 38 = .ok (.iload 7, 2) := by decide +kernel
theorem dX9_tellsBy_40 : decode cX9_tellsBy 40 = .ok (.aload_n 0, 1) := by decide +kernel
theorem dX9_tellsBy_41 : decode cX9_tellsBy 41 = .ok (.iload 6, 2) := by decide +kernel
theorem dX9_tellsBy_43 : decode cX9_tellsBy 43 = .ok (.invokevirtual 253, 3) := by decide +kernel
theorem dX9_tellsBy_46 : decode cX9_tellsBy 46 = .ok (.isub, 1) := by decide +kernel
theorem dX9_tellsBy_47 : decode cX9_tellsBy 47 = .ok (.istore 8, 2) := by decide +kernel
theorem dX9_tellsBy_49 : decode cX9_tellsBy 49 = .ok (.iload_n 1, 1) := by decide +kernel
theorem dX9_tellsBy_50 : decode cX9_tellsBy 50 = .ok (.iconst 3, 1) := by decide +kernel
theorem dX9_tellsBy_51 : decode cX9_tellsBy 51 = .ok (.if_icmp .ne 93, 3) := by decide +kernel
theorem dX9_tellsBy_54 : decode cX9_tellsBy 54 = .ok (.iload 6, 2) := by decide +kernel
theorem dX9_tellsBy_56 : decode cX9_tellsBy 56 = .ok (.bipush 30, 2) := by decide +kernel
theorem dX9_tellsBy_58 : decode cX9_tellsBy 58 = .ok (.irem, 1) := by decide +kernel
theorem dX9_tellsBy_59 : decode cX9_tellsBy 59 = .ok (.istore 9, 2) := by decide +kernel
theorem dX9_tellsBy_61 : decode cX9_tellsBy 61 = .ok (.iload 7, 2) := by decide +kernel
theorem dX9_tellsBy_63 : decode cX9_tellsBy 63 = .ok (.sipush 720, 3) := by decide +kernel
theorem dX9_tellsBy_66 : decode cX9_tellsBy 66 = .ok (.isub, 1) := by decide +kernel
theorem dX9_tellsBy_67 : decode cX9_tellsBy 67 = .ok (.bipush 48, 2) := by decide +kernel
theorem dX9_tellsBy_69 : decode cX9_tellsBy 69 = .ok (.iload 9, 2) := by decide +kernel
theorem dX9_tellsBy_71 : decode cX9_tellsBy 71 = .ok (.imul, 1) := by decide +kernel
theorem dX9_tellsBy_72 : decode cX9_tellsBy 72 = .ok (.isub, 1) := by decide +kernel
theorem dX9_tellsBy_73 : decode cX9_tellsBy 73 = .ok (.invokestatic 262, 3) := by decide +kernel
theorem dX9_tellsBy_76 : decode cX9_tellsBy 76 = .ok (.istore 8, 2) := by decide +kernel
theorem dX9_tellsBy_78 : decode cX9_tellsBy 78 = .ok (.iload 8, 2) := by decide +kernel
theorem dX9_tellsBy_80 : decode cX9_tellsBy 80 = .ok (.sipush 720, 3) := by decide +kernel
theorem dX9_tellsBy_83 : decode cX9_tellsBy 83 = .ok (.if_icmp .lt 12, 3) := by decide +kernel
theorem dX9_tellsBy_86 : decode cX9_tellsBy 86 = .ok (.iload 8, 2) := by decide +kernel
theorem dX9_tellsBy_88 : decode cX9_tellsBy 88 = .ok (.sipush 1440, 3) := by decide +kernel
theorem dX9_tellsBy_91 : decode cX9_tellsBy 91 = .ok (.isub, 1) := by decide +kernel
theorem dX9_tellsBy_92 : decode cX9_tellsBy 92 = .ok (.goto 5, 3) := by decide +kernel
theorem dX9_tellsBy_95 : decode cX9_tellsBy 95 = .ok (.iload 8, 2) := by decide +kernel
theorem dX9_tellsBy_97 : decode cX9_tellsBy 97 = .ok (.istore 8, 2) := by decide +kernel
theorem dX9_tellsBy_99 : decode cX9_tellsBy 99 = .ok (.iload 9, 2) := by decide +kernel
theorem dX9_tellsBy_101 : decode cX9_tellsBy 101 = .ok (.bipush 8, 2) := by decide +kernel
theorem dX9_tellsBy_103 : decode cX9_tellsBy 103 = .ok (.if_icmp .lt 36, 3) := by decide +kernel
theorem dX9_tellsBy_106 : decode cX9_tellsBy 106 = .ok (.iload 9, 2) := by decide +kernel
theorem dX9_tellsBy_108 : decode cX9_tellsBy 108 = .ok (.bipush 22, 2) := by decide +kernel
theorem dX9_tellsBy_110 : decode cX9_tellsBy 110 = .ok (.if_icmp .gt 29, 3) := by decide +kernel
theorem dX9_tellsBy_113 : decode cX9_tellsBy 113 = .ok (.aload_n 0, 1) := by decide +kernel
theorem dX9_tellsBy_114 : decode cX9_tellsBy 114 = .ok (.getfield 45, 3) := by decide +kernel
theorem dX9_tellsBy_117 : decode cX9_tellsBy 117 = .ok (.iload 7, 2) := by decide +kernel
theorem dX9_tellsBy_119 : decode cX9_tellsBy 119 = .ok (.baload, 1) := by decide +kernel
theorem dX9_tellsBy_120 : decode cX9_tellsBy 120 = .ok (.ifCond .ne 19, 3) := by decide +kernel
theorem dX9_tellsBy_123 : decode cX9_tellsBy 123 = .ok (.iload 8, 2) := by decide +kernel
theorem dX9_tellsBy_125 : decode cX9_tellsBy 125 = .ok (.sipush 360, 3) := by decide +kernel
theorem dX9_tellsBy_128 : decode cX9_tellsBy 128 = .ok (.if_icmp .gt 11, 3) := by decide +kernel
theorem dX9_tellsBy_131 : decode cX9_tellsBy 131 = .ok (.iload 8, 2) := by decide +kernel
theorem dX9_tellsBy_133 : decode cX9_tellsBy 133 = .ok (.sipush (-360), 3) := by decide +kernel
theorem dX9_tellsBy_136 : decode cX9_tellsBy 136 = .ok (.if_icmp .ge 5, 3) := by decide +kernel
theorem dX9_tellsBy_139 : decode cX9_tellsBy 139 = .ok (.iconst (-1), 1) := by decide +kernel
theorem dX9_tellsBy_140 : decode cX9_tellsBy 140 = .ok (.ireturn, 1) := by decide +kernel
theorem dX9_tellsBy_141 : decode cX9_tellsBy 141 = .ok (.goto 34, 3) := by decide +kernel
theorem dX9_tellsBy_144 : decode cX9_tellsBy 144 = .ok (.aload_n 0, 1) := by decide +kernel
theorem dX9_tellsBy_145 : decode cX9_tellsBy 145 = .ok (.getfield 41, 3) := by decide +kernel
theorem dX9_tellsBy_148 : decode cX9_tellsBy 148 = .ok (.iload 7, 2) := by decide +kernel
theorem dX9_tellsBy_150 : decode cX9_tellsBy 150 = .ok (.baload, 1) := by decide +kernel
theorem dX9_tellsBy_151 : decode cX9_tellsBy 151 = .ok (.ifCond .eq 22, 3) := by decide +kernel
theorem dX9_tellsBy_154 : decode cX9_tellsBy 154 = .ok (.iload_n 1, 1) := by decide +kernel
theorem dX9_tellsBy_155 : decode cX9_tellsBy 155 = .ok (.ifCond .ne 8, 3) := by decide +kernel
theorem dX9_tellsBy_158 : decode cX9_tellsBy 158 = .ok (.iload 8, 2) := by decide +kernel
theorem dX9_tellsBy_160 : decode cX9_tellsBy 160 = .ok (.ifCond .gt 13, 3) := by decide +kernel
theorem dX9_tellsBy_163 : decode cX9_tellsBy 163 = .ok (.iload_n 1, 1) := by decide +kernel
theorem dX9_tellsBy_164 : decode cX9_tellsBy 164 = .ok (.iconst 1, 1) := by decide +kernel
theorem dX9_tellsBy_165 : decode cX9_tellsBy 165 = .ok (.if_icmp .ne 10, 3) := by decide +kernel
theorem dX9_tellsBy_168 : decode cX9_tellsBy 168 = .ok (.iload 8, 2) := by decide +kernel
theorem dX9_tellsBy_170 : decode cX9_tellsBy 170 = .ok (.ifCond .ge 5, 3) := by decide +kernel
theorem dX9_tellsBy_173 : decode cX9_tellsBy 173 = .ok (.iconst (-1), 1) := by decide +kernel
theorem dX9_tellsBy_174 : decode cX9_tellsBy 174 = .ok (.ireturn, 1) := by decide +kernel
theorem dX9_tellsBy_175 : decode cX9_tellsBy 175 = .ok (.iload_n 1, 1) := by decide +kernel
theorem dX9_tellsBy_176 : decode cX9_tellsBy 176 = .ok (.iconst 2, 1) := by decide +kernel
theorem dX9_tellsBy_177 : decode cX9_tellsBy 177 = .ok (.if_icmp .eq 8, 3) := by decide +kernel
theorem dX9_tellsBy_180 : decode cX9_tellsBy 180 = .ok (.iload_n 1, 1) := by decide +kernel
theorem dX9_tellsBy_181 : decode cX9_tellsBy 181 = .ok (.iconst 4, 1) := by decide +kernel
theorem dX9_tellsBy_182 : decode cX9_tellsBy 182 = .ok (.if_icmp .ne 7, 3) := by decide +kernel
theorem dX9_tellsBy_185 : decode cX9_tellsBy 185 = .ok (.iconst 0, 1) := by decide +kernel
theorem dX9_tellsBy_186 : decode cX9_tellsBy 186 = .ok (.goto 4, 3) := by decide +kernel
theorem dX9_tellsBy_189 : decode cX9_tellsBy 189 = .ok (.iload_n 3, 1) := by decide +kernel
theorem dX9_tellsBy_190 : decode cX9_tellsBy 190 = .ok (.istore 9, 2) := by decide +kernel
theorem dX9_tellsBy_192 : decode cX9_tellsBy 192 = .ok (.sipush 720, 3) := by decide +kernel
theorem dX9_tellsBy_195 : decode cX9_tellsBy 195 = .ok (.iload 8, 2) := by decide +kernel
theorem dX9_tellsBy_197 : decode cX9_tellsBy 197 = .ok (.bipush 100, 2) := by decide +kernel
theorem dX9_tellsBy_199 : decode cX9_tellsBy 199 = .ok (.iload 9, 2) := by decide +kernel
theorem dX9_tellsBy_201 : decode cX9_tellsBy 201 = .ok (.iadd, 1) := by decide +kernel
theorem dX9_tellsBy_202 : decode cX9_tellsBy 202 = .ok (.imul, 1) := by decide +kernel
theorem dX9_tellsBy_203 : decode cX9_tellsBy 203 = .ok (.bipush 100, 2) := by decide +kernel
theorem dX9_tellsBy_205 : decode cX9_tellsBy 205 = .ok (.idiv, 1) := by decide +kernel
theorem dX9_tellsBy_206 : decode cX9_tellsBy 206 = .ok (.iadd, 1) := by decide +kernel
theorem dX9_tellsBy_207 : decode cX9_tellsBy 207 = .ok (.iload_n 2, 1) := by decide +kernel
theorem dX9_tellsBy_208 : decode cX9_tellsBy 208 = .ok (.iadd, 1) := by decide +kernel
theorem dX9_tellsBy_209 : decode cX9_tellsBy 209 = .ok (.iload 4, 2) := by decide +kernel
theorem dX9_tellsBy_211 : decode cX9_tellsBy 211 = .ok (.iadd, 1) := by decide +kernel
theorem dX9_tellsBy_212 : decode cX9_tellsBy 212 = .ok (.invokestatic 262, 3) := by decide +kernel
theorem dX9_tellsBy_215 : decode cX9_tellsBy 215 = .ok (.istore 10, 2) := by decide +kernel
theorem dX9_tellsBy_217 : decode cX9_tellsBy 217 = .ok (.iload_n 1, 1) := by decide +kernel
theorem dX9_tellsBy_218 : decode cX9_tellsBy 218 = .ok (.iconst 4, 1) := by decide +kernel
theorem dX9_tellsBy_219 : decode cX9_tellsBy 219 = .ok (.if_icmp .ne 15, 3) := by decide +kernel
theorem dX9_tellsBy_222 : decode cX9_tellsBy 222 = .ok (.iload 10, 2) := by decide +kernel
theorem dX9_tellsBy_224 : decode cX9_tellsBy 224 = .ok (.sipush 720, 3) := by decide +kernel
theorem dX9_tellsBy_227 : decode cX9_tellsBy 227 = .ok (.if_icmp .eq 7, 3) := by decide +kernel
theorem dX9_tellsBy_230 : decode cX9_tellsBy 230 = .ok (.iconst (-1), 1) := by decide +kernel
theorem dX9_tellsBy_231 : decode cX9_tellsBy 231 = .ok (.goto 5, 3) := by decide +kernel
theorem dX9_tellsBy_234 : decode cX9_tellsBy 234 = .ok (.iload 10, 2) := by decide +kernel
theorem dX9_tellsBy_236 : decode cX9_tellsBy 236 = .ok (.ireturn, 1) := by decide +kernel
theorem dX9_turnOf_0 : decode cX9_turnOf 0 = .ok (.aload_n 0, 1) := by decide +kernel
theorem dX9_turnOf_1 : decode cX9_turnOf 1 = .ok (.getfield 230, 3) := by decide +kernel
theorem dX9_turnOf_4 : decode cX9_turnOf 4 = .ok (.iconst 1, 1) := by decide +kernel
theorem dX9_turnOf_5 : decode cX9_turnOf 5 = .ok (.isub, 1) := by decide +kernel
theorem dX9_turnOf_6 : decode cX9_turnOf 6 = .ok (.istore_n 3, 1) := by decide +kernel
theorem dX9_turnOf_7 : decode cX9_turnOf 7 = .ok (.iload_n 3, 1) := by decide +kernel
theorem dX9_turnOf_8 : decode cX9_turnOf 8 = .ok (.ifCond .lt 46, 3) := by decide +kernel
theorem dX9_turnOf_11 : decode cX9_turnOf 11 = .ok (.aload_n 0, 1) := by decide +kernel
theorem dX9_turnOf_12 : decode cX9_turnOf 12 = .ok (.getfield 51, 3) := by decide +kernel
theorem dX9_turnOf_15 : decode cX9_turnOf 15 = .ok (.iconst 3, 1) := by decide +kernel
theorem dX9_turnOf_16 : decode cX9_turnOf 16 = .ok (.iload_n 3, 1) := by decide +kernel
theorem dX9_turnOf_17 : decode cX9_turnOf 17 = .ok (.imul, 1) := by decide +kernel
theorem dX9_turnOf_18 : decode cX9_turnOf 18 = .ok (.iaload, 1) := by decide +kernel
theorem dX9_turnOf_19 : decode cX9_turnOf 19 = .ok (.iload_n 1, 1) := by decide +kernel
theorem dX9_turnOf_20 : decode cX9_turnOf 20 = .ok (.if_icmp .ne 28, 3) := by decide +kernel
theorem dX9_turnOf_23 : decode cX9_turnOf 23 = .ok (.aload_n 0, 1) := by decide +kernel
theorem dX9_turnOf_24 : decode cX9_turnOf 24 = .ok (.getfield 51, 3) := by decide +kernel
theorem dX9_turnOf_27 : decode cX9_turnOf 27 = .ok (.iconst 3, 1) := by decide +kernel
theorem dX9_turnOf_28 : decode cX9_turnOf 28 = .ok (.iload_n 3, 1) := by decide +kernel
theorem dX9_turnOf_29 : decode cX9_turnOf 29 = .ok (.imul, 1) := by decide +kernel
theorem dX9_turnOf_30 : decode cX9_turnOf 30 = .ok (.iconst 1, 1) := by decide +kernel
theorem dX9_turnOf_31 : decode cX9_turnOf 31 = .ok (.iadd, 1) := by decide +kernel
theorem dX9_turnOf_32 : decode cX9_turnOf 32 = .ok (.iaload, 1) := by decide +kernel
theorem dX9_turnOf_33 : decode cX9_turnOf 33 = .ok (.iload_n 2, 1) := by decide +kernel
theorem dX9_turnOf_34 : decode cX9_turnOf 34 = .ok (.if_icmp .gt 14, 3) := by decide +kernel
theorem dX9_turnOf_37 : decode cX9_turnOf 37 = .ok (.aload_n 0, 1) := by decide +kernel
theorem dX9_turnOf_38 : decode cX9_turnOf 38 = .ok (.getfield 51, 3) := by decide +kernel
theorem dX9_turnOf_41 : decode cX9_turnOf 41 = .ok (.iconst 3, 1) := by decide +kernel
theorem dX9_turnOf_42 : decode cX9_turnOf 42 = .ok (.iload_n 3, 1) := by decide +kernel
theorem dX9_turnOf_43 : decode cX9_turnOf 43 = .ok (.imul, 1) := by decide +kernel
theorem dX9_turnOf_44 : decode cX9_turnOf 44 = .ok (.iconst 2, 1) := by decide +kernel
theorem dX9_turnOf_45 : decode cX9_turnOf 45 = .ok (.iadd, 1) := by decide +kernel
theorem dX9_turnOf_46 : decode cX9_turnOf 46 = .ok (.iaload, 1) := by decide +kernel
theorem dX9_turnOf_47 : decode cX9_turnOf 47 = .ok (.ireturn, 1) := by decide +kernel
theorem dX9_turnOf_48 : decode cX9_turnOf 48 = .ok (.iinc 3 (-1), 3) := by decide +kernel
theorem dX9_turnOf_51 : decode cX9_turnOf 51 = .ok (.goto (-44), 3) := by decide +kernel
theorem dX9_turnOf_54 : decode cX9_turnOf 54 = .ok (.aload_n 0, 1) := by decide +kernel
theorem dX9_turnOf_55 : decode cX9_turnOf 55 = .ok (.getfield 13, 3) := by decide +kernel
theorem dX9_turnOf_58 : decode cX9_turnOf 58 = .ok (.iconst 5, 1) := by decide +kernel
theorem dX9_turnOf_59 : decode cX9_turnOf 59 = .ok (.iload_n 1, 1) := by decide +kernel
theorem dX9_turnOf_60 : decode cX9_turnOf 60 = .ok (.imul, 1) := by decide +kernel
theorem dX9_turnOf_61 : decode cX9_turnOf 61 = .ok (.iconst 1, 1) := by decide +kernel
theorem dX9_turnOf_62 : decode cX9_turnOf 62 = .ok (.iadd, 1) := by decide +kernel
theorem dX9_turnOf_63 : decode cX9_turnOf 63 = .ok (.iaload, 1) := by decide +kernel
theorem dX9_turnOf_64 : decode cX9_turnOf 64 = .ok (.ireturn, 1) := by decide +kernel
theorem dX9_tellsNow_0 : decode cX9_tellsNow 0 = .ok (.aload_n 0, 1) := by decide +kernel
theorem dX9_tellsNow_1 : decode cX9_tellsNow 1 = .ok (.aload_n 0, 1) := by decide +kernel
theorem dX9_tellsNow_2 : decode cX9_tellsNow 2 = .ok (.getfield 13, 3) := by decide +kernel
theorem dX9_tellsNow_5 : decode cX9_tellsNow 5 = .ok (.iconst 5, 1) := by decide +kernel
theorem dX9_tellsNow_6 : decode cX9_tellsNow 6 = .ok (.iload_n 1, 1) := by decide +kernel
theorem dX9_tellsNow_7 : decode cX9_tellsNow 7 = .ok (.imul, 1) := by decide +kernel
theorem dX9_tellsNow_8 : decode cX9_tellsNow 8 = .ok (.iaload, 1) := by decide +kernel
theorem dX9_tellsNow_9 : decode cX9_tellsNow 9 = .ok (.aload_n 0, 1) := by decide +kernel
theorem dX9_tellsNow_10 : decode cX9_tellsNow 10 = .ok (.iload_n 1, 1) := by decide +kernel
theorem dX9_tellsNow_11 : decode cX9_tellsNow 11 = .ok (.iload_n 2, 1) := by decide +kernel
theorem dX9_tellsNow_12 : decode cX9_tellsNow 12 = .ok (.invokevirtual 268, 3) := by decide +kernel
theorem dX9_tellsNow_15 : decode cX9_tellsNow 15 = .ok (.aload_n 0, 1) := by decide +kernel
theorem dX9_tellsNow_16 : decode cX9_tellsNow 16 = .ok (.getfield 13, 3) := by decide +kernel
theorem dX9_tellsNow_19 : decode cX9_tellsNow 19 = .ok (.iconst 5, 1) := by decide +kernel
theorem dX9_tellsNow_20 : decode cX9_tellsNow 20 = .ok (.iload_n 1, 1) := by decide +kernel
theorem dX9_tellsNow_21 : decode cX9_tellsNow 21 = .ok (.imul, 1) := by decide +kernel
theorem dX9_tellsNow_22 : decode cX9_tellsNow 22 = .ok (.iconst 2, 1) := by decide +kernel
theorem dX9_tellsNow_23 : decode cX9_tellsNow 23 = .ok (.iadd, 1) := by decide +kernel
theorem dX9_tellsNow_24 : decode cX9_tellsNow 24 = .ok (.iaload, 1) := by decide +kernel
theorem dX9_tellsNow_25 : decode cX9_tellsNow 25 = .ok (.aload_n 0, 1) := by decide +kernel
theorem dX9_tellsNow_26 : decode cX9_tellsNow 26 = .ok (.getfield 13, 3) := by decide +kernel
theorem dX9_tellsNow_29 : decode cX9_tellsNow 29 = .ok (.iconst 5, 1) := by decide +kernel
theorem dX9_tellsNow_30 : decode cX9_tellsNow 30 = .ok (.iload_n 1, 1) := by decide +kernel
theorem dX9_tellsNow_31 : decode cX9_tellsNow 31 = .ok (.imul, 1) := by decide +kernel
theorem dX9_tellsNow_32 : decode cX9_tellsNow 32 = .ok (.iconst 3, 1) := by decide +kernel
theorem dX9_tellsNow_33 : decode cX9_tellsNow 33 = .ok (.iadd, 1) := by decide +kernel
theorem dX9_tellsNow_34 : decode cX9_tellsNow 34 = .ok (.iaload, 1) := by decide +kernel
theorem dX9_tellsNow_35 : decode cX9_tellsNow 35 = .ok (.aload_n 0, 1) := by decide +kernel
theorem dX9_tellsNow_36 : decode cX9_tellsNow 36 = .ok (.getfield 13, 3) := by decide +kernel
theorem dX9_tellsNow_39 : decode cX9_tellsNow 39 = .ok (.iconst 5, 1) := by decide +kernel
theorem dX9_tellsNow_40 : decode cX9_tellsNow 40 = .ok (.iload_n 1, 1) := by decide +kernel
theorem dX9_tellsNow_41 : decode cX9_tellsNow 41 = .ok (.imul, 1) := by decide +kernel
theorem dX9_tellsNow_42 : decode cX9_tellsNow 42 = .ok (.iconst 4, 1) := by decide +kernel
theorem dX9_tellsNow_43 : decode cX9_tellsNow 43 = .ok (.iadd, 1) := by decide +kernel
theorem dX9_tellsNow_44 : decode cX9_tellsNow 44 = .ok (.iaload, 1) := by decide +kernel
theorem dX9_tellsNow_45 : decode cX9_tellsNow 45 = .ok (.iload_n 2, 1) := by decide +kernel
theorem dX9_tellsNow_46 : decode cX9_tellsNow 46 = .ok (.iload_n 3, 1) := by decide +kernel
theorem dX9_tellsNow_47 : decode cX9_tellsNow 47 = .ok (.invokevirtual 271, 3) := by decide +kernel
theorem dX9_tellsNow_50 : decode cX9_tellsNow 50 = .ok (.ireturn, 1) := by decide +kernel
theorem dX9_tells_0 : decode cX9_tells 0 = .ok (.aload_n 0, 1) := by decide +kernel
theorem dX9_tells_1 : decode cX9_tells 1 = .ok (.iconst 0, 1) := by decide +kernel
theorem dX9_tells_2 : decode cX9_tells 2 = .ok (.putfield 102, 3) := by decide +kernel
theorem dX9_tells_5 : decode cX9_tells 5 = .ok (.aload_n 0, 1) := by decide +kernel
theorem dX9_tells_6 : decode cX9_tells 6 = .ok (.iload_n 1, 1) := by decide +kernel
theorem dX9_tells_7 : decode cX9_tells 7 = .ok (.invokevirtual 243, 3) := by decide +kernel
theorem dX9_tells_10 : decode cX9_tells 10 = .ok (.ifCond .eq 29, 3) := by decide +kernel
theorem dX9_tells_13 : decode cX9_tells 13 = .ok (.aload_n 0, 1) := by decide +kernel
theorem dX9_tells_14 : decode cX9_tells 14 = .ok (.iload_n 2, 1) := by decide +kernel
theorem dX9_tells_15 : decode cX9_tells 15 = .ok (.invokevirtual 259, 3) := by decide +kernel
theorem dX9_tells_18 : decode cX9_tells 18 = .ok (.ifCond .eq 21, 3) := by decide +kernel
theorem dX9_tells_21 : decode cX9_tells 21 = .ok (.aload_n 0, 1) := by decide +kernel
theorem dX9_tells_22 : decode cX9_tells 22 = .ok (.iload_n 3, 1) := by decide +kernel
theorem dX9_tells_23 : decode cX9_tells 23 = .ok (.invokevirtual 275, 3) := by decide +kernel
theorem dX9_tells_26 : decode cX9_tells 26 = .ok (.ifCond .eq 13, 3) := by decide +kernel
theorem dX9_tells_29 : decode cX9_tells 29 = .ok (.aload_n 0, 1) := by decide +kernel
theorem dX9_tells_30 : decode cX9_tells 30 = .ok (.iload_n 1, 1) := by decide +kernel
theorem dX9_tells_31 : decode cX9_tells 31 = .ok (.iload_n 2, 1) := by decide +kernel
theorem dX9_tells_32 : decode cX9_tells 32 = .ok (.iload_n 3, 1) := by decide +kernel
theorem dX9_tells_33 : decode cX9_tells 33 = .ok (.invokevirtual 278, 3) := by decide +kernel
theorem dX9_tells_36 : decode cX9_tells 36 = .ok (.goto 4, 3) := by decide +kernel
theorem dX9_tells_39 : decode cX9_tells 39 = .ok (.iconst 0, 1) := by decide +kernel
theorem dX9_tells_40 : decode cX9_tells 40 = .ok (.ireturn, 1) := by decide +kernel
theorem dX9_turn_0 : decode cX9_turn 0 = .ok (.aload_n 0, 1) := by decide +kernel
theorem dX9_turn_1 : decode cX9_turn 1 = .ok (.iconst 0, 1) := by decide +kernel
theorem dX9_turn_2 : decode cX9_turn 2 = .ok (.putfield 102, 3) := by decide +kernel
theorem dX9_turn_5 : decode cX9_turn 5 = .ok (.aload_n 0, 1) := by decide +kernel
theorem dX9_turn_6 : decode cX9_turn 6 = .ok (.iload_n 1, 1) := by decide +kernel
theorem dX9_turn_7 : decode cX9_turn 7 = .ok (.invokevirtual 243, 3) := by decide +kernel
theorem dX9_turn_10 : decode cX9_turn 10 = .ok (.ifCond .eq 20, 3) := by decide +kernel
theorem dX9_turn_13 : decode cX9_turn 13 = .ok (.aload_n 0, 1) := by decide +kernel
theorem dX9_turn_14 : decode cX9_turn 14 = .ok (.iload_n 2, 1) := by decide +kernel
theorem dX9_turn_15 : decode cX9_turn 15 = .ok (.invokevirtual 259, 3) := by decide +kernel
theorem dX9_turn_18 : decode cX9_turn 18 = .ok (.ifCond .eq 12, 3) := by decide +kernel
theorem dX9_turn_21 : decode cX9_turn 21 = .ok (.aload_n 0, 1) := by decide +kernel
theorem dX9_turn_22 : decode cX9_turn 22 = .ok (.iload_n 1, 1) := by decide +kernel
theorem dX9_turn_23 : decode cX9_turn 23 = .ok (.iload_n 2, 1) := by decide +kernel
theorem dX9_turn_24 : decode cX9_turn 24 = .ok (.invokevirtual 268, 3) := by decide +kernel
theorem dX9_turn_27 : decode cX9_turn 27 = .ok (.goto 4, 3) := by decide +kernel
theorem dX9_turn_30 : decode cX9_turn 30 = .ok (.iconst 0, 1) := by decide +kernel
theorem dX9_turn_31 : decode cX9_turn 31 = .ok (.ireturn, 1) := by decide +kernel
theorem dX9_refuses_0 : decode cX9_refuses 0 = .ok (.aload_n 0, 1) := by decide +kernel
theorem dX9_refuses_1 : decode cX9_refuses 1 = .ok (.getfield 29, 3) := by decide +kernel
theorem dX9_refuses_4 : decode cX9_refuses 4 = .ok (.iload_n 1, 1) := by decide +kernel
theorem dX9_refuses_5 : decode cX9_refuses 5 = .ok (.dup2, 1) := by decide +kernel
theorem dX9_refuses_6 : decode cX9_refuses 6 = .ok (.iaload, 1) := by decide +kernel
theorem dX9_refuses_7 : decode cX9_refuses 7 = .ok (.iconst 1, 1) := by decide +kernel
theorem dX9_refuses_8 : decode cX9_refuses 8 = .ok (.iadd, 1) := by decide +kernel
theorem dX9_refuses_9 : decode cX9_refuses 9 = .ok (.iastore, 1) := by decide +kernel
theorem dX9_refuses_10 : decode cX9_refuses 10 = .ok (.iconst (-1), 1) := by decide +kernel
theorem dX9_refuses_11 : decode cX9_refuses 11 = .ok (.ireturn, 1) := by decide +kernel
theorem dX9_read_0 : decode cX9_read 0 = .ok (.aload_n 0, 1) := by decide +kernel
theorem dX9_read_1 : decode cX9_read 1 = .ok (.iconst 0, 1) := by decide +kernel
theorem dX9_read_2 : decode cX9_read 2 = .ok (.putfield 102, 3) := by decide +kernel
theorem dX9_read_5 : decode cX9_read 5 = .ok (.aload_n 0, 1) := by decide +kernel
theorem dX9_read_6 : decode cX9_read 6 = .ok (.iload_n 1, 1) := by decide +kernel
theorem dX9_read_7 : decode cX9_read 7 = .ok (.invokevirtual 243, 3) := by decide +kernel
theorem dX9_read_10 : decode cX9_read 10 = .ok (.ifCond .eq 28, 3) := by decide +kernel
theorem dX9_read_13 : decode cX9_read 13 = .ok (.aload_n 0, 1) := by decide +kernel
theorem dX9_read_14 : decode cX9_read 14 = .ok (.iload_n 2, 1) := by decide +kernel
theorem dX9_read_15 : decode cX9_read 15 = .ok (.invokevirtual 259, 3) := by decide +kernel
theorem dX9_read_18 : decode cX9_read 18 = .ok (.ifCond .eq 20, 3) := by decide +kernel
theorem dX9_read_21 : decode cX9_read 21 = .ok (.aload_n 0, 1) := by decide +kernel
theorem dX9_read_22 : decode cX9_read 22 = .ok (.iload_n 3, 1) := by decide +kernel
theorem dX9_read_23 : decode cX9_read 23 = .ok (.invokevirtual 275, 3) := by decide +kernel
theorem dX9_read_26 : decode cX9_read 26 = .ok (.ifCond .eq 12, 3) := by decide +kernel
theorem dX9_read_29 : decode cX9_read 29 = .ok (.aload_n 0, 1) := by decide +kernel
theorem dX9_read_30 : decode cX9_read 30 = .ok (.iload 4, 2) := by decide +kernel
theorem dX9_read_32 : decode cX9_read 32 = .ok (.invokevirtual 275, 3) := by decide +kernel
theorem dX9_read_35 : decode cX9_read 35 = .ok (.ifCond .ne 5, 3) := by decide +kernel
theorem dX9_read_38 : decode cX9_read 38 = .ok (.iconst 0, 1) := by decide +kernel
theorem dX9_read_39 : decode cX9_read 39 = .ok (.ireturn, 1) := by decide +kernel
theorem dX9_read_40 : decode cX9_read 40 = .ok (.aload_n 0, 1) := by decide +kernel
theorem dX9_read_41 : decode cX9_read 41 = .ok (.getfield 224, 3) := by decide +kernel
theorem dX9_read_44 : decode cX9_read 44 = .ok (.bipush 12, 2) := by decide +kernel
theorem dX9_read_46 : decode cX9_read 46 = .ok (.if_icmp .ne 9, 3) := by decide +kernel
theorem dX9_read_49 : decode cX9_read 49 = .ok (.aload_n 0, 1) := by decide +kernel
theorem dX9_read_50 : decode cX9_read 50 = .ok (.iconst 1, 1) := by decide +kernel
theorem dX9_read_51 : decode cX9_read 51 = .ok (.invokevirtual 282, 3) := by decide +kernel
theorem dX9_read_54 : decode cX9_read 54 = .ok (.ireturn, 1) := by decide +kernel
theorem dX9_read_55 : decode cX9_read 55 = .ok (.iconst 4, 1) := by decide +kernel
theorem dX9_read_56 : decode cX9_read 56 = .ok (.aload_n 0, 1) := by decide +kernel
theorem dX9_read_57 : decode cX9_read 57 = .ok (.getfield 224, 3) := by decide +kernel
theorem dX9_read_60 : decode cX9_read 60 = .ok (.imul, 1) := by decide +kernel
theorem dX9_read_61 : decode cX9_read 61 = .ok (.istore 5, 2) := by decide +kernel
theorem dX9_read_63 : decode cX9_read 63 = .ok (.aload_n 0, 1) := by decide +kernel
theorem dX9_read_64 : decode cX9_read 64 = .ok (.getfield 54, 3) := by decide +kernel
theorem dX9_read_67 : decode cX9_read 67 = .ok (.iload 5, 2) := by decide +kernel
theorem dX9_read_69 : decode cX9_read 69 = .ok (.iload_n 1, 1) := by decide +kernel
theorem dX9_read_70 : decode cX9_read 70 = .ok (.iastore, 1) := by decide +kernel
theorem dX9_read_71 : decode cX9_read 71 = .ok (.aload_n 0, 1) := by decide +kernel
theorem dX9_read_72 : decode cX9_read 72 = .ok (.getfield 54, 3) := by decide +kernel
theorem dX9_read_75 : decode cX9_read 75 = .ok (.iload 5, 2) := by decide +kernel
theorem dX9_read_77 : decode cX9_read 77 = .ok (.iconst 1, 1) := by decide +kernel
theorem dX9_read_78 : decode cX9_read 78 = .ok (.iadd, 1) := by decide +kernel
theorem dX9_read_79 : decode cX9_read 79 = .ok (.iload_n 2, 1) := by decide +kernel
theorem dX9_read_80 : decode cX9_read 80 = .ok (.iastore, 1) := by decide +kernel
theorem dX9_read_81 : decode cX9_read 81 = .ok (.aload_n 0, 1) := by decide +kernel
theorem dX9_read_82 : decode cX9_read 82 = .ok (.getfield 54, 3) := by decide +kernel
theorem dX9_read_85 : decode cX9_read 85 = .ok (.iload 5, 2) := by decide +kernel
theorem dX9_read_87 : decode cX9_read 87 = .ok (.iconst 2, 1) := by decide +kernel
theorem dX9_read_88 : decode cX9_read 88 = .ok (.iadd, 1) := by decide +kernel
theorem dX9_read_89 : decode cX9_read 89 = .ok (.iload_n 3, 1) := by decide +kernel
theorem dX9_read_90 : decode cX9_read 90 = .ok (.iastore, 1) := by decide +kernel
theorem dX9_read_91 : decode cX9_read 91 = .ok (.aload_n 0, 1) := by decide +kernel
theorem dX9_read_92 : decode cX9_read 92 = .ok (.getfield 54, 3) := by decide +kernel
theorem dX9_read_95 : decode cX9_read 95 = .ok (.iload 5, 2) := by decide +kernel
theorem dX9_read_97 : decode cX9_read 97 = .ok (.iconst 3, 1) := by decide +kernel
theorem dX9_read_98 : decode cX9_read 98 = .ok (.iadd, 1) := by decide +kernel
theorem dX9_read_99 : decode cX9_read 99 = .ok (.iload 4, 2) := by decide +kernel
theorem dX9_read_101 : decode cX9_read 101 = .ok (.iastore, 1) := by decide +kernel
theorem dX9_read_102 : decode cX9_read 102 = .ok (.aload_n 0, 1) := by decide +kernel
theorem dX9_read_103 : decode cX9_read 103 = .ok (.dup, 1) := by decide +kernel
theorem dX9_read_104 : decode cX9_read 104 = .ok (.getfield 224, 3) := by decide +kernel
theorem dX9_read_107 : decode cX9_read 107 = .ok (.iconst 1, 1) := by decide +kernel
theorem dX9_read_108 : decode cX9_read 108 = .ok (.iadd, 1) := by decide +kernel
theorem dX9_read_109 : decode cX9_read 109 = .ok (.putfield 224, 3) := by decide +kernel
theorem dX9_read_112 : decode cX9_read 112 = .ok (.aload_n 0, 1) := by decide +kernel
theorem dX9_read_113 : decode cX9_read 113 = .ok (.getfield 224, 3) := by decide +kernel
theorem dX9_read_116 : decode cX9_read 116 = .ok (.ireturn, 1) := by decide +kernel
theorem dX9_unread_0 : decode cX9_unread 0 = .ok (.aload_n 0, 1) := by decide +kernel
theorem dX9_unread_1 : decode cX9_unread 1 = .ok (.iconst 0, 1) := by decide +kernel
theorem dX9_unread_2 : decode cX9_unread 2 = .ok (.putfield 102, 3) := by decide +kernel
theorem dX9_unread_5 : decode cX9_unread 5 = .ok (.aload_n 0, 1) := by decide +kernel
theorem dX9_unread_6 : decode cX9_unread 6 = .ok (.getfield 224, 3) := by decide +kernel
theorem dX9_unread_9 : decode cX9_unread 9 = .ok (.ifCond .ne 5, 3) := by decide +kernel
theorem dX9_unread_12 : decode cX9_unread 12 = .ok (.iconst (-1), 1) := by decide +kernel
theorem dX9_unread_13 : decode cX9_unread 13 = .ok (.ireturn, 1) := by decide +kernel
theorem dX9_unread_14 : decode cX9_unread 14 = .ok (.aload_n 0, 1) := by decide +kernel
theorem dX9_unread_15 : decode cX9_unread 15 = .ok (.dup, 1) := by decide +kernel
theorem dX9_unread_16 : decode cX9_unread 16 = .ok (.getfield 224, 3) := by decide +kernel
theorem dX9_unread_19 : decode cX9_unread 19 = .ok (.iconst 1, 1) := by decide +kernel
theorem dX9_unread_20 : decode cX9_unread 20 = .ok (.isub, 1) := by decide +kernel
theorem dX9_unread_21 : decode cX9_unread 21 = .ok (.putfield 224, 3) := by decide +kernel
theorem dX9_unread_24 : decode cX9_unread 24 = .ok (.aload_n 0, 1) := by decide +kernel
theorem dX9_unread_25 : decode cX9_unread 25 = .ok (.getfield 224, 3) := by decide +kernel
theorem dX9_unread_28 : decode cX9_unread 28 = .ok (.ireturn, 1) := by decide +kernel
theorem dX9_fits_0 : decode cX9_fits 0 = .ok (.iconst 0, 1) := by decide +kernel
theorem dX9_fits_1 : decode cX9_fits 1 = .ok (.istore 4, 2) := by decide +kernel
theorem dX9_fits_3 : decode cX9_fits 3 = .ok (.iload 4, 2) := by decide +kernel
theorem dX9_fits_5 : decode cX9_fits 5 = .ok (.aload_n 0, 1) := by decide +kernel
theorem dX9_fits_6 : decode cX9_fits 6 = .ok (.getfield 224, 3) := by decide +kernel
theorem dX9_fits_9 : decode cX9_fits 9 = .ok (.if_icmp .ge 97, 3) := by decide +kernel
theorem dX9_fits_12 : decode cX9_fits 12 = .ok (.aload_n 0, 1) := by decide +kernel
theorem dX9_fits_13 : decode cX9_fits 13 = .ok (.getfield 54, 3) := by decide +kernel
theorem dX9_fits_16 : decode cX9_fits 16 = .ok (.iconst 4, 1) := by decide +kernel
theorem dX9_fits_17 : decode cX9_fits 17 = .ok (.iload 4, 2) := by decide +kernel
theorem dX9_fits_19 : decode cX9_fits 19 = .ok (.imul, 1) := by decide +kernel
theorem dX9_fits_20 : decode cX9_fits 20 = .ok (.iaload, 1) := by decide +kernel
theorem dX9_fits_21 : decode cX9_fits 21 = .ok (.iload_n 1, 1) := by decide +kernel
theorem dX9_fits_22 : decode cX9_fits 22 = .ok (.if_icmp .eq 6, 3) := by decide +kernel
theorem dX9_fits_25 : decode cX9_fits 25 = .ok (.goto 75, 3) := by decide +kernel
theorem dX9_fits_28 : decode cX9_fits 28 = .ok (.aload_n 0, 1) := by decide +kernel
theorem dX9_fits_29 : decode cX9_fits 29 = .ok (.aload_n 0, 1) := by decide +kernel
theorem dX9_fits_30 : decode cX9_fits 30 = .ok (.getfield 13, 3) := by decide +kernel
theorem dX9_fits_33 : decode cX9_fits 33 = .ok (.iconst 5, 1) := by decide +kernel
theorem dX9_fits_34 : decode cX9_fits 34 = .ok (.iload_n 1, 1) := by decide +kernel
theorem dX9_fits_35 : decode cX9_fits 35 = .ok (.imul, 1) := by decide +kernel
theorem dX9_fits_36 : decode cX9_fits 36 = .ok (.iaload, 1) := by decide +kernel
theorem dX9_fits_37 : decode cX9_fits 37 = .ok (.iload_n 2, 1) := by decide +kernel
theorem dX9_fits_38 : decode cX9_fits 38 = .ok (.iload_n 3, 1) := by decide +kernel
theorem dX9_fits_39 : decode cX9_fits 39 = .ok (.aload_n 0, 1) := by decide +kernel
theorem dX9_fits_40 : decode cX9_fits 40 = .ok (.getfield 13, 3) := by decide +kernel
theorem dX9_fits_43 : decode cX9_fits 43 = .ok (.iconst 5, 1) := by decide +kernel
theorem dX9_fits_44 : decode cX9_fits 44 = .ok (.iload_n 1, 1) := by decide +kernel
theorem dX9_fits_45 : decode cX9_fits 45 = .ok (.imul, 1) := by decide +kernel
theorem dX9_fits_46 : decode cX9_fits 46 = .ok (.iconst 3, 1) := by decide +kernel
theorem dX9_fits_47 : decode cX9_fits 47 = .ok (.iadd, 1) := by decide +kernel
theorem dX9_fits_48 : decode cX9_fits 48 = .ok (.iaload, 1) := by decide +kernel
theorem dX9_fits_49 : decode cX9_fits 49 = .ok (.aload_n 0, 1) := by decide +kernel
theorem dX9_fits_50 : decode cX9_fits 50 = .ok (.getfield 13, 3) := by decide +kernel
theorem dX9_fits_53 : decode cX9_fits 53 = .ok (.iconst 5, 1) := by decide +kernel
theorem dX9_fits_54 : decode cX9_fits 54 = .ok (.iload_n 1, 1) := by decide +kernel
theorem dX9_fits_55 : decode cX9_fits 55 = .ok (.imul, 1) := by decide +kernel
theorem dX9_fits_56 : decode cX9_fits 56 = .ok (.iconst 4, 1) := by decide +kernel
theorem dX9_fits_57 : decode cX9_fits 57 = .ok (.iadd, 1) := by decide +kernel
theorem dX9_fits_58 : decode cX9_fits 58 = .ok (.iaload, 1) := by decide +kernel
theorem dX9_fits_59 : decode cX9_fits 59 = .ok (.aload_n 0, 1) := by decide +kernel
theorem dX9_fits_60 : decode cX9_fits 60 = .ok (.getfield 54, 3) := by decide +kernel
theorem dX9_fits_63 : decode cX9_fits 63 = .ok (.iconst 4, 1) := by decide +kernel
theorem dX9_fits_64 : decode cX9_fits 64 = .ok (.iload 4, 2) := by decide +kernel
theorem dX9_fits_66 : decode cX9_fits 66 = .ok (.imul, 1) := by decide +kernel
theorem dX9_fits_67 : decode cX9_fits 67 = .ok (.iconst 1, 1) := by decide +kernel
theorem dX9_fits_68 : decode cX9_fits 68 = .ok (.iadd, 1) := by decide +kernel
theorem dX9_fits_69 : decode cX9_fits 69 = .ok (.iaload, 1) := by decide +kernel
theorem dX9_fits_70 : decode cX9_fits 70 = .ok (.aload_n 0, 1) := by decide +kernel
theorem dX9_fits_71 : decode cX9_fits 71 = .ok (.getfield 54, 3) := by decide +kernel
theorem dX9_fits_74 : decode cX9_fits 74 = .ok (.iconst 4, 1) := by decide +kernel
theorem dX9_fits_75 : decode cX9_fits 75 = .ok (.iload 4, 2) := by decide +kernel
theorem dX9_fits_77 : decode cX9_fits 77 = .ok (.imul, 1) := by decide +kernel
theorem dX9_fits_78 : decode cX9_fits 78 = .ok (.iconst 2, 1) := by decide +kernel
theorem dX9_fits_79 : decode cX9_fits 79 = .ok (.iadd, 1) := by decide +kernel
theorem dX9_fits_80 : decode cX9_fits 80 = .ok (.iaload, 1) := by decide +kernel
theorem dX9_fits_81 : decode cX9_fits 81 = .ok (.invokevirtual 271, 3) := by decide +kernel
theorem dX9_fits_84 : decode cX9_fits 84 = .ok (.aload_n 0, 1) := by decide +kernel
theorem dX9_fits_85 : decode cX9_fits 85 = .ok (.getfield 54, 3) := by decide +kernel
theorem dX9_fits_88 : decode cX9_fits 88 = .ok (.iconst 4, 1) := by decide +kernel
theorem dX9_fits_89 : decode cX9_fits 89 = .ok (.iload 4, 2) := by decide +kernel
theorem dX9_fits_91 : decode cX9_fits 91 = .ok (.imul, 1) := by decide +kernel
theorem dX9_fits_92 : decode cX9_fits 92 = .ok (.iconst 3, 1) := by decide +kernel
theorem dX9_fits_93 : decode cX9_fits 93 = .ok (.iadd, 1) := by decide +kernel
theorem dX9_fits_94 : decode cX9_fits 94 = .ok (.iaload, 1) := by decide +kernel
theorem dX9_fits_95 : decode cX9_fits 95 = .ok (.if_icmp .eq 5, 3) := by decide +kernel
theorem dX9_fits_98 : decode cX9_fits 98 = .ok (.iconst 0, 1) := by decide +kernel
theorem dX9_fits_99 : decode cX9_fits 99 = .ok (.ireturn, 1) := by decide +kernel
theorem dX9_fits_100 : decode cX9_fits 100 = .ok (.iinc 4 1, 3) := by decide +kernel
theorem dX9_fits_103 : decode cX9_fits 103 = .ok (.goto (-100), 3) := by decide +kernel
theorem dX9_fits_106 : decode cX9_fits 106 = .ok (.iconst 1, 1) := by decide +kernel
theorem dX9_fits_107 : decode cX9_fits 107 = .ok (.ireturn, 1) := by decide +kernel
theorem dX9_seeks_0 : decode cX9_seeks 0 = .ok (.aload_n 0, 1) := by decide +kernel
theorem dX9_seeks_1 : decode cX9_seeks 1 = .ok (.iconst 0, 1) := by decide +kernel
theorem dX9_seeks_2 : decode cX9_seeks 2 = .ok (.putfield 285, 3) := by decide +kernel
theorem dX9_seeks_5 : decode cX9_seeks 5 = .ok (.iconst 0, 1) := by decide +kernel
theorem dX9_seeks_6 : decode cX9_seeks 6 = .ok (.istore_n 2, 1) := by decide +kernel
theorem dX9_seeks_7 : decode cX9_seeks 7 = .ok (.iload_n 2, 1) := by decide +kernel
theorem dX9_seeks_8 : decode cX9_seeks 8 = .ok (.sipush 4961, 3) := by decide +kernel
theorem dX9_seeks_11 : decode cX9_seeks 11 = .ok (.if_icmp .ge 54, 3) := by decide +kernel
theorem dX9_seeks_14 : decode cX9_seeks 14 = .ok (.aload_n 0, 1) := by decide +kernel
theorem dX9_seeks_15 : decode cX9_seeks 15 = .ok (.iload_n 1, 1) := by decide +kernel
theorem dX9_seeks_16 : decode cX9_seeks 16 = .ok (.iload_n 2, 1) := by decide +kernel
theorem dX9_seeks_17 : decode cX9_seeks 17 = .ok (.bipush 41, 2) := by decide +kernel
theorem dX9_seeks_19 : decode cX9_seeks 19 = .ok (.idiv, 1) := by decide +kernel
theorem dX9_seeks_20 : decode cX9_seeks 20 = .ok (.bipush 60, 2) := by decide +kernel
theorem dX9_seeks_22 : decode cX9_seeks 22 = .ok (.isub, 1) := by decide +kernel
theorem dX9_seeks_23 : decode cX9_seeks 23 = .ok (.iload_n 2, 1) := by decide +kernel
theorem dX9_seeks_24 : decode cX9_seeks 24 = .ok (.bipush 41, 2) := by decide +kernel
theorem dX9_seeks_26 : decode cX9_seeks 26 = .ok (.irem, 1) := by decide +kernel
theorem dX9_seeks_27 : decode cX9_seeks 27 = .ok (.bipush 20, 2) := by decide +kernel
theorem dX9_seeks_29 : decode cX9_seeks 29 = .ok (.isub, 1) := by decide +kernel
theorem dX9_seeks_30 : decode cX9_seeks 30 = .ok (.invokevirtual 288, 3) := by decide +kernel
theorem dX9_seeks_33 : decode cX9_seeks 33 = .ok (.ifCond .ne 6, 3) := by decide +kernel
theorem dX9_seeks_36 : decode cX9_seeks 36 = .ok (.goto 23, 3) := by decide +kernel
theorem dX9_seeks_39 : decode cX9_seeks 39 = .ok (.aload_n 0, 1) := by decide +kernel
theorem dX9_seeks_40 : decode cX9_seeks 40 = .ok (.getfield 57, 3) := by decide +kernel
theorem dX9_seeks_43 : decode cX9_seeks 43 = .ok (.aload_n 0, 1) := by decide +kernel
theorem dX9_seeks_44 : decode cX9_seeks 44 = .ok (.getfield 285, 3) := by decide +kernel
theorem dX9_seeks_47 : decode cX9_seeks 47 = .ok (.iload_n 2, 1) := by decide +kernel
theorem dX9_seeks_48 : decode cX9_seeks 48 = .ok (.iastore, 1) := by decide +kernel
theorem dX9_seeks_49 : decode cX9_seeks 49 = .ok (.aload_n 0, 1) := by decide +kernel
theorem dX9_seeks_50 : decode cX9_seeks 50 = .ok (.dup, 1) := by decide +kernel
theorem dX9_seeks_51 : decode cX9_seeks 51 = .ok (.getfield 285, 3) := by decide +kernel
theorem dX9_seeks_54 : decode cX9_seeks 54 = .ok (.iconst 1, 1) := by decide +kernel
theorem dX9_seeks_55 : decode cX9_seeks 55 = .ok (.iadd, 1) := by decide +kernel
theorem dX9_seeks_56 : decode cX9_seeks 56 = .ok (.putfield 285, 3) := by decide +kernel
theorem dX9_seeks_59 : decode cX9_seeks 59 = .ok (.iinc 2 1, 3) := by decide +kernel
theorem dX9_seeks_62 : decode cX9_seeks 62 = .ok (.goto (-55), 3) := by decide +kernel
theorem dX9_seeks_65 : decode cX9_seeks 65 = .ok (.return_, 1) := by decide +kernel
theorem dX9_faults_0 : decode cX9_faults 0 = .ok (.aload_n 0, 1) := by decide +kernel
theorem dX9_faults_1 : decode cX9_faults 1 = .ok (.iconst 0, 1) := by decide +kernel
theorem dX9_faults_2 : decode cX9_faults 2 = .ok (.putfield 102, 3) := by decide +kernel
theorem dX9_faults_5 : decode cX9_faults 5 = .ok (.aload_n 0, 1) := by decide +kernel
theorem dX9_faults_6 : decode cX9_faults 6 = .ok (.iload_n 1, 1) := by decide +kernel
theorem dX9_faults_7 : decode cX9_faults 7 = .ok (.invokevirtual 243, 3) := by decide +kernel
theorem dX9_faults_10 : decode cX9_faults 10 = .ok (.ifCond .eq 12, 3) := by decide +kernel
theorem dX9_faults_13 : decode cX9_faults 13 = .ok (.aload_n 0, 1) := by decide +kernel
theorem dX9_faults_14 : decode cX9_faults 14 = .ok (.iload_n 2, 1) := by decide +kernel
theorem dX9_faults_15 : decode cX9_faults 15 = .ok (.iconst 4, 1) := by decide +kernel
theorem dX9_faults_16 : decode cX9_faults 16 = .ok (.invokevirtual 246, 3) := by decide +kernel
theorem dX9_faults_19 : decode cX9_faults 19 = .ok (.ifCond .ne 5, 3) := by decide +kernel
theorem dX9_faults_22 : decode cX9_faults 22 = .ok (.iconst 0, 1) := by decide +kernel
theorem dX9_faults_23 : decode cX9_faults 23 = .ok (.ireturn, 1) := by decide +kernel
theorem dX9_faults_24 : decode cX9_faults 24 = .ok (.aload_n 0, 1) := by decide +kernel
theorem dX9_faults_25 : decode cX9_faults 25 = .ok (.iload_n 1, 1) := by decide +kernel
theorem dX9_faults_26 : decode cX9_faults 26 = .ok (.invokevirtual 291, 3) := by decide +kernel
theorem dX9_faults_29 : decode cX9_faults 29 = .ok (.iload_n 2, 1) := by decide +kernel
theorem dX9_faults_30 : decode cX9_faults 30 = .ok (.ifCond .ne 8, 3) := by decide +kernel
theorem dX9_faults_33 : decode cX9_faults 33 = .ok (.aload_n 0, 1) := by decide +kernel
theorem dX9_faults_34 : decode cX9_faults 34 = .ok (.getfield 285, 3) := by decide +kernel
theorem dX9_faults_37 : decode cX9_faults 37 = .ok (.ireturn, 1) := by decide +kernel
theorem dX9_faults_38 : decode cX9_faults 38 = .ok (.aload_n 0, 1) := by decide +kernel
theorem dX9_faults_39 : decode cX9_faults 39 = .ok (.aload_n 0, 1) := by decide +kernel
theorem dX9_faults_40 : decode cX9_faults 40 = .ok (.getfield 285, 3) := by decide +kernel
theorem dX9_faults_43 : decode cX9_faults 43 = .ok (.ifCond .le 7, 3) := by decide +kernel
theorem dX9_faults_46 : decode cX9_faults 46 = .ok (.iconst 1, 1) := by decide +kernel
theorem dX9_faults_47 : decode cX9_faults 47 = .ok (.goto 4, 3) := by decide +kernel
theorem dX9_faults_50 : decode cX9_faults 50 = .ok (.iconst 0, 1) := by decide +kernel
theorem dX9_faults_51 : decode cX9_faults 51 = .ok (.iconst 2, 1) := by decide +kernel
theorem dX9_faults_52 : decode cX9_faults 52 = .ok (.invokevirtual 207, 3) := by decide +kernel
theorem dX9_faults_55 : decode cX9_faults 55 = .ok (.ifCond .ne 5, 3) := by decide +kernel
theorem dX9_faults_58 : decode cX9_faults 58 = .ok (.iconst 0, 1) := by decide +kernel
theorem dX9_faults_59 : decode cX9_faults 59 = .ok (.ireturn, 1) := by decide +kernel
theorem dX9_faults_60 : decode cX9_faults 60 = .ok (.iload_n 2, 1) := by decide +kernel
theorem dX9_faults_61 : decode cX9_faults 61 = .ok (.iconst 3, 1) := by decide +kernel
theorem dX9_faults_62 : decode cX9_faults 62 = .ok (.if_icmp .ge 30, 3) := by decide +kernel
theorem dX9_faults_65 : decode cX9_faults 65 = .ok (.aload_n 0, 1) := by decide +kernel
theorem dX9_faults_66 : decode cX9_faults 66 = .ok (.getfield 57, 3) := by decide +kernel
theorem dX9_faults_69 : decode cX9_faults 69 = .ok (.iload_n 2, 1) := by decide +kernel
theorem dX9_faults_70 : decode cX9_faults 70 = .ok (.iconst 1, 1) := by decide +kernel
theorem dX9_faults_71 : decode cX9_faults 71 = .ok (.if_icmp .ne 7, 3) := by decide +kernel
theorem dX9_faults_74 : decode cX9_faults 74 = .ok (.iconst 0, 1) := by decide +kernel
theorem dX9_faults_75 : decode cX9_faults 75 = .ok (.goto 9, 3) := by decide +kernel
theorem dX9_faults_78 : decode cX9_faults 78 = .ok (.aload_n 0, 1) := by decide +kernel
theorem dX9_faults_79 : decode cX9_faults 79 = .ok (.getfield 285, 3) := by decide +kernel
theorem dX9_faults_82 : decode cX9_faults 82 = .ok (.iconst 1, 1) := by decide +kernel
theorem dX9_faults_83 : decode cX9_faults 83 = .ok (.isub, 1) := by decide +kernel
theorem dX9_faults_84 : decode cX9_faults 84 = .ok (.iaload, 1) := by decide +kernel
theorem dX9_faults_85 : decode cX9_faults 85 = .ok (.bipush 41, 2) := by decide +kernel
theorem dX9_faults_87 : decode cX9_faults 87 = .ok (.idiv, 1) := by decide +kernel
theorem dX9_faults_88 : decode cX9_faults 88 = .ok (.bipush 60, 2) := by decide +kernel
theorem dX9_faults_90 : decode cX9_faults 90 = .ok (.isub, 1) := by decide +kernel
theorem dX9_faults_91 : decode cX9_faults 91 = .ok (.ireturn, 1) := by decide +kernel
theorem dX9_faults_92 : decode cX9_faults 92 = .ok (.bipush 40, 2) := by decide +kernel
theorem dX9_faults_94 : decode cX9_faults 94 = .ok (.istore_n 3, 1) := by decide +kernel
theorem dX9_faults_95 : decode cX9_faults 95 = .ok (.iconst 0, 1) := by decide +kernel
theorem dX9_faults_96 : decode cX9_faults 96 = .ok (.istore 4, 2) := by decide +kernel
theorem dX9_faults_98 : decode cX9_faults 98 = .ok (.iconst 0, 1) := by decide +kernel
theorem dX9_faults_99 : decode cX9_faults 99 = .ok (.istore 5, 2) := by decide +kernel
theorem dX9_faults_101 : decode cX9_faults 101 = .ok (.iload 5, 2) := by decide +kernel
theorem dX9_faults_103 : decode cX9_faults 103 = .ok (.aload_n 0, 1) := by decide +kernel
theorem dX9_faults_104 : decode cX9_faults 104 = .ok (.getfield 285, 3) := by decide +kernel
theorem dX9_faults_107 : decode cX9_faults 107 = .ok (.if_icmp .ge 50, 3) := by decide +kernel
theorem dX9_faults_110 : decode cX9_faults 110 = .ok (.aload_n 0, 1) := by decide +kernel
theorem dX9_faults_111 : decode cX9_faults 111 = .ok (.getfield 57, 3) := by decide +kernel
theorem dX9_faults_114 : decode cX9_faults 114 = .ok (.iload 5, 2) := by decide +kernel
theorem dX9_faults_116 : decode cX9_faults 116 = .ok (.iaload, 1) := by decide +kernel
theorem dX9_faults_117 : decode cX9_faults 117 = .ok (.bipush 41, 2) := by decide +kernel
theorem dX9_faults_119 : decode cX9_faults 119 = .ok (.irem, 1) := by decide +kernel
theorem dX9_faults_120 : decode cX9_faults 120 = .ok (.istore 6, 2) := by decide +kernel
theorem dX9_faults_122 : decode cX9_faults 122 = .ok (.iload 6, 2) := by decide +kernel
theorem dX9_faults_124 : decode cX9_faults 124 = .ok (.iload_n 3, 1) := by decide +kernel
theorem dX9_faults_125 : decode cX9_faults 125 = .ok (.if_icmp .ge 8, 3) := by decide +kernel
theorem dX9_faults_128 : decode cX9_faults 128 = .ok (.iload 6, 2) := by decide +kernel
theorem dX9_faults_130 : decode cX9_faults 130 = .ok (.goto 4, 3) := by decide +kernel
theorem dX9_faults_133 : decode cX9_faults 133 = .ok (.iload_n 3, 1) := by decide +kernel
theorem dX9_faults_134 : decode cX9_faults 134 = .ok (.istore_n 3, 1) := by decide +kernel
theorem dX9_faults_135 : decode cX9_faults 135 = .ok (.iload 6, 2) := by decide +kernel
theorem dX9_faults_137 : decode cX9_faults 137 = .ok (.iload 4, 2) := by decide +kernel
theorem dX9_faults_139 : decode cX9_faults 139 = .ok (.if_icmp .le 8, 3) := by decide +kernel
theorem dX9_faults_142 : decode cX9_faults 142 = .ok (.iload 6, 2) := by decide +kernel
theorem dX9_faults_144 : decode cX9_faults 144 = .ok (.goto 5, 3) := by decide +kernel
theorem dX9_faults_147 : decode cX9_faults 147 = .ok (.iload 4, 2) := by decide +kernel
theorem dX9_faults_149 : decode cX9_faults 149 = .ok (.istore 4, 2) := by decide +kernel
theorem dX9_faults_151 : decode cX9_faults 151 = .ok (.iinc 5 1, 3) := by decide +kernel
theorem dX9_faults_154 : decode cX9_faults 154 = .ok (.goto (-53), 3) := by decide +kernel
theorem dX9_faults_157 : decode cX9_faults 157 = .ok (.iload_n 2, 1) := by decide +kernel
theorem dX9_faults_158 : decode cX9_faults 158 = .ok (.iconst 3, 1) := by decide +kernel
theorem dX9_faults_159 : decode cX9_faults 159 = .ok (.if_icmp .ne 7, 3) := by decide +kernel
theorem dX9_faults_162 : decode cX9_faults 162 = .ok (.iload_n 3, 1) := by decide +kernel
theorem dX9_faults_163 : decode cX9_faults 163 = .ok (.goto 5, 3) := by decide +kernel
theorem dX9_faults_166 : decode cX9_faults 166 = .ok (.iload 4, 2) := by decide +kernel
theorem dX9_faults_168 : decode cX9_faults 168 = .ok (.bipush 20, 2) := by decide +kernel
theorem dX9_faults_170 : decode cX9_faults 170 = .ok (.isub, 1) := by decide +kernel
theorem dX9_faults_171 : decode cX9_faults 171 = .ok (.ireturn, 1) := by decide +kernel
theorem dX9_greatest_0 : decode cX9_greatest 0 = .ok (.iconst 0, 1) := by decide +kernel
theorem dX9_greatest_1 : decode cX9_greatest 1 = .ok (.istore 4, 2) := by decide +kernel
theorem dX9_greatest_3 : decode cX9_greatest 3 = .ok (.iload 4, 2) := by decide +kernel
theorem dX9_greatest_5 : decode cX9_greatest 5 = .ok (.sipush 1440, 3) := by decide +kernel
theorem dX9_greatest_8 : decode cX9_greatest 8 = .ok (.if_icmp .gt 17, 3) := by decide +kernel
theorem dX9_greatest_11 : decode cX9_greatest 11 = .ok (.aload_n 0, 1) := by decide +kernel
theorem dX9_greatest_12 : decode cX9_greatest 12 = .ok (.getfield 60, 3) := by decide +kernel
theorem dX9_greatest_15 : decode cX9_greatest 15 = .ok (.iload 4, 2) := by decide +kernel
theorem dX9_greatest_17 : decode cX9_greatest 17 = .ok (.iconst 0, 1) := by decide +kernel
theorem dX9_greatest_18 : decode cX9_greatest 18 = .ok (.iastore, 1) := by decide +kernel
theorem dX9_greatest_19 : decode cX9_greatest 19 = .ok (.iinc 4 1, 3) := by decide +kernel
theorem dX9_greatest_22 : decode cX9_greatest 22 = .ok (.goto (-19), 3) := by decide +kernel
theorem dX9_greatest_25 : decode cX9_greatest 25 = .ok (.iconst 0, 1) := by decide +kernel
theorem dX9_greatest_26 : decode cX9_greatest 26 = .ok (.istore 4, 2) := by decide +kernel
theorem dX9_greatest_28 : decode cX9_greatest 28 = .ok (.iconst 0, 1) := by decide +kernel
theorem dX9_greatest_29 : decode cX9_greatest 29 = .ok (.istore 5, 2) := by decide +kernel
theorem dX9_greatest_31 : decode cX9_greatest 31 = .ok (.iload 5, 2) := by decide +kernel
theorem dX9_greatest_33 : decode cX9_greatest 33 = .ok (.aload_n 0, 1) := by decide +kernel
theorem dX9_greatest_34 : decode cX9_greatest 34 = .ok (.getfield 285, 3) := by decide +kernel
theorem dX9_greatest_37 : decode cX9_greatest 37 = .ok (.if_icmp .ge 124, 3) := by decide +kernel
theorem dX9_greatest_40 : decode cX9_greatest 40 = .ok (.aload_n 0, 1) := by decide +kernel
theorem dX9_greatest_41 : decode cX9_greatest 41 = .ok (.aload_n 0, 1) := by decide +kernel
theorem dX9_greatest_42 : decode cX9_greatest 42 = .ok (.getfield 13, 3) := by decide +kernel
theorem dX9_greatest_45 : decode cX9_greatest 45 = .ok (.iconst 5, 1) := by decide +kernel
theorem dX9_greatest_46 : decode cX9_greatest 46 = .ok (.iload_n 1, 1) := by decide +kernel
theorem dX9_greatest_47 : decode cX9_greatest 47 = .ok (.imul, 1) := by decide +kernel
theorem dX9_greatest_48 : decode cX9_greatest 48 = .ok (.iaload, 1) := by decide +kernel
theorem dX9_greatest_49 : decode cX9_greatest 49 = .ok (.aload_n 0, 1) := by decide +kernel
theorem dX9_greatest_50 : decode cX9_greatest 50 = .ok (.getfield 57, 3) := by decide +kernel
theorem dX9_greatest_53 : decode cX9_greatest 53 = .ok (.iload 5, 2) := by decide +kernel
theorem dX9_greatest_55 : decode cX9_greatest 55 = .ok (.iaload, 1) := by decide +kernel
theorem dX9_greatest_56 : decode cX9_greatest 56 = .ok (.bipush 41, 2) := by decide +kernel
theorem dX9_greatest_58 : decode cX9_greatest 58 = .ok (.idiv, 1) := by decide +kernel
theorem dX9_greatest_59 : decode cX9_greatest 59 = .ok (.bipush 60, 2) := by decide +kernel
theorem dX9_greatest_61 : decode cX9_greatest 61 = .ok (.isub, 1) := by decide +kernel
theorem dX9_greatest_62 : decode cX9_greatest 62 = .ok (.aload_n 0, 1) := by decide +kernel
theorem dX9_greatest_63 : decode cX9_greatest 63 = .ok (.getfield 57, 3) := by decide +kernel
theorem dX9_greatest_66 : decode cX9_greatest 66 = .ok (.iload 5, 2) := by decide +kernel
theorem dX9_greatest_68 : decode cX9_greatest 68 = .ok (.iaload, 1) := by decide +kernel
theorem dX9_greatest_69 : decode cX9_greatest 69 = .ok (.bipush 41, 2) := by decide +kernel
theorem dX9_greatest_71 : decode cX9_greatest 71 = .ok (.irem, 1) := by decide +kernel
theorem dX9_greatest_72 : decode cX9_greatest 72 = .ok (.bipush 20, 2) := by decide +kernel
theorem dX9_greatest_74 : decode cX9_greatest 74 = .ok (.isub, 1) := by decide +kernel
theorem dX9_greatest_75 : decode cX9_greatest 75 = .ok (.aload_n 0, 1) := by decide +kernel
theorem dX9_greatest_76 : decode cX9_greatest 76 = .ok (.getfield 13, 3) := by decide +kernel
theorem dX9_greatest_79 : decode cX9_greatest 79 = .ok (.iconst 5, 1) := by decide +kernel
theorem dX9_greatest_80 : decode cX9_greatest 80 = .ok (.iload_n 1, 1) := by decide +kernel
theorem dX9_greatest_81 : decode cX9_greatest 81 = .ok (.imul, 1) := by decide +kernel
theorem dX9_greatest_82 : decode cX9_greatest 82 = .ok (.iconst 3, 1) := by decide +kernel
theorem dX9_greatest_83 : decode cX9_greatest 83 = .ok (.iadd, 1) := by decide +kernel
theorem dX9_greatest_84 : decode cX9_greatest 84 = .ok (.iaload, 1) := by decide +kernel
theorem dX9_greatest_85 : decode cX9_greatest 85 = .ok (.aload_n 0, 1) := by decide +kernel
theorem dX9_greatest_86 : decode cX9_greatest 86 = .ok (.getfield 13, 3) := by decide +kernel
theorem dX9_greatest_89 : decode cX9_greatest 89 = .ok (.iconst 5, 1) := by decide +kernel
theorem dX9_greatest_90 : decode cX9_greatest 90 = .ok (.iload_n 1, 1) := by decide +kernel
theorem dX9_greatest_91 : decode cX9_greatest 91 = .ok (.imul, 1) := by decide +kernel
theorem dX9_greatest_92 : decode cX9_greatest 92 = .ok (.iconst 4, 1) := by decide +kernel
theorem dX9_greatest_93 : decode cX9_greatest 93 = .ok (.iadd, 1) := by decide +kernel
theorem dX9_greatest_94 : decode cX9_greatest 94 = .ok (.iaload, 1) := by decide +kernel
theorem dX9_greatest_95 : decode cX9_greatest 95 = .ok (.iload_n 2, 1) := by decide +kernel
theorem dX9_greatest_96 : decode cX9_greatest 96 = .ok (.iload_n 3, 1) := by decide +kernel
theorem dX9_greatest_97 : decode cX9_greatest 97 = .ok (.invokevirtual 271, 3) := by decide +kernel
theorem dX9_greatest_100 : decode cX9_greatest 100 = .ok (.istore 6, 2) := by decide +kernel
theorem dX9_greatest_102 : decode cX9_greatest 102 = .ok (.iload 6, 2) := by decide +kernel
theorem dX9_greatest_104 : decode cX9_greatest 104 = .ok (.iconst (-1), 1) := by decide +kernel
theorem dX9_greatest_105 : decode cX9_greatest 105 = .ok (.if_icmp .ne 9, 3) := by decide +kernel
theorem dX9_greatest_108 : decode cX9_greatest 108 = .ok (.sipush 1440, 3) := by decide +kernel
theorem dX9_greatest_111 : decode cX9_greatest 111 = .ok (.goto 5, 3) := by decide +kernel
theorem dX9_greatest_114 : decode cX9_greatest 114 = .ok (.iload 6, 2) := by decide +kernel
theorem dX9_greatest_116 : decode cX9_greatest 116 = .ok (.istore 6, 2) := by decide +kernel
theorem dX9_greatest_118 : decode cX9_greatest 118 = .ok (.aload_n 0, 1) := by decide +kernel
theorem dX9_greatest_119 : decode cX9_greatest 119 = .ok (.getfield 60, 3) := by decide +kernel
theorem dX9_greatest_122 : decode cX9_greatest 122 = .ok (.iload 6, 2) := by decide +kernel
theorem dX9_greatest_124 : decode cX9_greatest 124 = .ok (.dup2, 1) := by decide +kernel
theorem dX9_greatest_125 : decode cX9_greatest 125 = .ok (.iaload, 1) := by decide +kernel
theorem dX9_greatest_126 : decode cX9_greatest 126 = .ok (.iconst 1, 1) := by decide +kernel
theorem dX9_greatest_127 : decode cX9_greatest 127 = .ok (.iadd, 1) := by decide +kernel
theorem dX9_greatest_128 : decode cX9_greatest 128 = .ok (.iastore, 1) := by decide +kernel
theorem dX9_greatest_129 : decode cX9_greatest 129 = .ok (.aload_n 0, 1) := by decide +kernel
theorem dX9_greatest_130 : decode cX9_greatest 130 = .ok (.getfield 60, 3) := by decide +kernel
theorem dX9_greatest_133 : decode cX9_greatest 133 = .ok (.iload 6, 2) := by decide +kernel
theorem dX9_greatest_135 : decode cX9_greatest 135 = .ok (.iaload, 1) := by decide +kernel
theorem dX9_greatest_136 : decode cX9_greatest 136 = .ok (.iload 4, 2) := by decide +kernel
theorem dX9_greatest_138 : decode cX9_greatest 138 = .ok (.if_icmp .le 13, 3) := by decide +kernel
theorem dX9_greatest_141 : decode cX9_greatest 141 = .ok (.aload_n 0, 1) := by decide +kernel
theorem dX9_greatest_142 : decode cX9_greatest 142 = .ok (.getfield 60, 3) := by decide +kernel
theorem dX9_greatest_145 : decode cX9_greatest 145 = .ok (.iload 6, 2) := by decide +kernel
theorem dX9_greatest_147 : decode cX9_greatest 147 = .ok (.iaload, 1) := by decide +kernel
theorem dX9_greatest_148 : decode cX9_greatest 148 = .ok (.goto 5, 3) := by decide +kernel
theorem dX9_greatest_151 : decode cX9_greatest 151 = .ok (.iload 4, 2) := by decide +kernel
theorem dX9_greatest_153 : decode cX9_greatest 153 = .ok (.istore 4, 2) := by decide +kernel
theorem dX9_greatest_155 : decode cX9_greatest 155 = .ok (.iinc 5 1, 3) := by decide +kernel
theorem dX9_greatest_158 : decode cX9_greatest 158 = .ok (.goto (-127), 3) := by decide +kernel
theorem dX9_greatest_161 : decode cX9_greatest 161 = .ok (.iload 4, 2) := by decide +kernel
theorem dX9_greatest_163 : decode cX9_greatest 163 = .ok (.ireturn, 1) := by decide +kernel
theorem dX9_next_0 : decode cX9_next 0 = .ok (.aload_n 0, 1) := by decide +kernel
theorem dX9_next_1 : decode cX9_next 1 = .ok (.iconst 0, 1) := by decide +kernel
theorem dX9_next_2 : decode cX9_next 2 = .ok (.putfield 102, 3) := by decide +kernel
theorem dX9_next_5 : decode cX9_next 5 = .ok (.aload_n 0, 1) := by decide +kernel
theorem dX9_next_6 : decode cX9_next 6 = .ok (.iload_n 1, 1) := by decide +kernel
theorem dX9_next_7 : decode cX9_next 7 = .ok (.invokevirtual 243, 3) := by decide +kernel
theorem dX9_next_10 : decode cX9_next 10 = .ok (.ifCond .eq 20, 3) := by decide +kernel
theorem dX9_next_13 : decode cX9_next 13 = .ok (.aload_n 0, 1) := by decide +kernel
theorem dX9_next_14 : decode cX9_next 14 = .ok (.iload_n 2, 1) := by decide +kernel
theorem dX9_next_15 : decode cX9_next 15 = .ok (.invokevirtual 259, 3) := by decide +kernel
theorem dX9_next_18 : decode cX9_next 18 = .ok (.ifCond .eq 12, 3) := by decide +kernel
theorem dX9_next_21 : decode cX9_next 21 = .ok (.aload_n 0, 1) := by decide +kernel
theorem dX9_next_22 : decode cX9_next 22 = .ok (.iload_n 3, 1) := by decide +kernel
theorem dX9_next_23 : decode cX9_next 23 = .ok (.iconst 1, 1) := by decide +kernel
theorem dX9_next_24 : decode cX9_next 24 = .ok (.invokevirtual 246, 3) := by decide +kernel
theorem dX9_next_27 : decode cX9_next 27 = .ok (.ifCond .ne 5, 3) := by decide +kernel
theorem dX9_next_30 : decode cX9_next 30 = .ok (.iconst 0, 1) := by decide +kernel
theorem dX9_next_31 : decode cX9_next 31 = .ok (.ireturn, 1) := by decide +kernel
theorem dX9_next_32 : decode cX9_next 32 = .ok (.aload_n 0, 1) := by decide +kernel
theorem dX9_next_33 : decode cX9_next 33 = .ok (.iload_n 1, 1) := by decide +kernel
theorem dX9_next_34 : decode cX9_next 34 = .ok (.invokevirtual 291, 3) := by decide +kernel
theorem dX9_next_37 : decode cX9_next 37 = .ok (.aload_n 0, 1) := by decide +kernel
theorem dX9_next_38 : decode cX9_next 38 = .ok (.getfield 285, 3) := by decide +kernel
theorem dX9_next_41 : decode cX9_next 41 = .ok (.ifCond .ne 5, 3) := by decide +kernel
theorem dX9_next_44 : decode cX9_next 44 = .ok (.iconst (-1), 1) := by decide +kernel
theorem dX9_next_45 : decode cX9_next 45 = .ok (.ireturn, 1) := by decide +kernel
theorem dX9_next_46 : decode cX9_next 46 = .ok (.iconst (-1), 1) := by decide +kernel
theorem dX9_next_47 : decode cX9_next 47 = .ok (.istore 4, 2) := by decide +kernel
theorem dX9_next_49 : decode cX9_next 49 = .ok (.iconst 0, 1) := by decide +kernel
theorem dX9_next_50 : decode cX9_next 50 = .ok (.istore 5, 2) := by decide +kernel
theorem dX9_next_52 : decode cX9_next 52 = .ok (.iconst 0, 1) := by decide +kernel
theorem dX9_next_53 : decode cX9_next 53 = .ok (.istore 6, 2) := by decide +kernel
theorem dX9_next_55 : decode cX9_next 55 = .ok (.iload 6, 2) := by decide +kernel
theorem dX9_next_57 : decode cX9_next 57 = .ok (.sipush 1440, 3) := by decide +kernel
theorem dX9_next_60 : decode cX9_next 60 = .ok (.if_icmp .ge 43, 3) := by decide +kernel
theorem dX9_next_63 : decode cX9_next 63 = .ok (.aload_n 0, 1) := by decide +kernel
theorem dX9_next_64 : decode cX9_next 64 = .ok (.iload_n 1, 1) := by decide +kernel
theorem dX9_next_65 : decode cX9_next 65 = .ok (.iload_n 2, 1) := by decide +kernel
theorem dX9_next_66 : decode cX9_next 66 = .ok (.iload 6, 2) := by decide +kernel
theorem dX9_next_68 : decode cX9_next 68 = .ok (.invokevirtual 294, 3) := by decide +kernel
theorem dX9_next_71 : decode cX9_next 71 = .ok (.istore 7, 2) := by decide +kernel
theorem dX9_next_73 : decode cX9_next 73 = .ok (.iload 4, 2) := by decide +kernel
theorem dX9_next_75 : decode cX9_next 75 = .ok (.iconst (-1), 1) := by decide +kernel
theorem dX9_next_76 : decode cX9_next 76 = .ok (.if_icmp .eq 13, 3) := by decide +kernel
theorem dX9_next_79 : decode cX9_next 79 = .ok (.iload 7, 2) := by decide +kernel
theorem dX9_next_81 : decode cX9_next 81 = .ok (.iload 5, 2) := by decide +kernel
theorem dX9_next_83 : decode cX9_next 83 = .ok (.if_icmp .lt 6, 3) := by decide +kernel
theorem dX9_next_86 : decode cX9_next 86 = .ok (.goto 11, 3) := by decide +kernel
theorem dX9_next_89 : decode cX9_next 89 = .ok (.iload 6, 2) := by decide +kernel
theorem dX9_next_91 : decode cX9_next 91 = .ok (.istore 4, 2) := by decide +kernel
theorem dX9_next_93 : decode cX9_next 93 = .ok (.iload 7, 2) := by decide +kernel
theorem dX9_next_95 : decode cX9_next 95 = .ok (.istore 5, 2) := by decide +kernel
theorem dX9_next_97 : decode cX9_next 97 = .ok (.iinc 6 15, 3) := by decide +kernel
theorem dX9_next_100 : decode cX9_next 100 = .ok (.goto (-45), 3) := by decide +kernel
theorem dX9_next_103 : decode cX9_next 103 = .ok (.iload_n 3, 1) := by decide +kernel
theorem dX9_next_104 : decode cX9_next 104 = .ok (.ifCond .ne 8, 3) := by decide +kernel
theorem dX9_next_107 : decode cX9_next 107 = .ok (.iload 4, 2) := by decide +kernel
theorem dX9_next_109 : decode cX9_next 109 = .ok (.goto 5, 3) := by decide +kernel
theorem dX9_next_112 : decode cX9_next 112 = .ok (.iload 5, 2) := by decide +kernel
theorem dX9_next_114 : decode cX9_next 114 = .ok (.ireturn, 1) := by decide +kernel
theorem dX9_see_0 : decode cX9_see 0 = .ok (.aload_n 0, 1) := by decide +kernel
theorem dX9_see_1 : decode cX9_see 1 = .ok (.iconst 0, 1) := by decide +kernel
theorem dX9_see_2 : decode cX9_see 2 = .ok (.putfield 102, 3) := by decide +kernel
theorem dX9_see_5 : decode cX9_see 5 = .ok (.aload_n 0, 1) := by decide +kernel
theorem dX9_see_6 : decode cX9_see 6 = .ok (.iload_n 1, 1) := by decide +kernel
theorem dX9_see_7 : decode cX9_see 7 = .ok (.invokevirtual 243, 3) := by decide +kernel
theorem dX9_see_10 : decode cX9_see 10 = .ok (.ifCond .eq 11, 3) := by decide +kernel
theorem dX9_see_13 : decode cX9_see 13 = .ok (.aload_n 0, 1) := by decide +kernel
theorem dX9_see_14 : decode cX9_see 14 = .ok (.iload_n 2, 1) := by decide +kernel
theorem dX9_see_15 : decode cX9_see 15 = .ok (.invokevirtual 275, 3) := by decide +kernel
theorem dX9_see_18 : decode cX9_see 18 = .ok (.ifCond .ne 5, 3) := by decide +kernel
theorem dX9_see_21 : decode cX9_see 21 = .ok (.iconst 0, 1) := by decide +kernel
theorem dX9_see_22 : decode cX9_see 22 = .ok (.ireturn, 1) := by decide +kernel
theorem dX9_see_23 : decode cX9_see 23 = .ok (.iconst 0, 1) := by decide +kernel
theorem dX9_see_24 : decode cX9_see 24 = .ok (.istore_n 3, 1) := by decide +kernel
theorem dX9_see_25 : decode cX9_see 25 = .ok (.iload_n 3, 1) := by decide +kernel
theorem dX9_see_26 : decode cX9_see 26 = .ok (.aload_n 0, 1) := by decide +kernel
theorem dX9_see_27 : decode cX9_see 27 = .ok (.getfield 227, 3) := by decide +kernel
theorem dX9_see_30 : decode cX9_see 30 = .ok (.if_icmp .ge 27, 3) := by decide +kernel
theorem dX9_see_33 : decode cX9_see 33 = .ok (.aload_n 0, 1) := by decide +kernel
theorem dX9_see_34 : decode cX9_see 34 = .ok (.getfield 63, 3) := by decide +kernel
theorem dX9_see_37 : decode cX9_see 37 = .ok (.iconst 2, 1) := by decide +kernel
theorem dX9_see_38 : decode cX9_see 38 = .ok (.iload_n 3, 1) := by decide +kernel
theorem dX9_see_39 : decode cX9_see 39 = .ok (.imul, 1) := by decide +kernel
theorem dX9_see_40 : decode cX9_see 40 = .ok (.iaload, 1) := by decide +kernel
theorem dX9_see_41 : decode cX9_see 41 = .ok (.iload_n 1, 1) := by decide +kernel
theorem dX9_see_42 : decode cX9_see 42 = .ok (.if_icmp .ne 9, 3) := by decide +kernel
theorem dX9_see_45 : decode cX9_see 45 = .ok (.aload_n 0, 1) := by decide +kernel
theorem dX9_see_46 : decode cX9_see 46 = .ok (.iconst 2, 1) := by decide +kernel
theorem dX9_see_47 : decode cX9_see 47 = .ok (.invokevirtual 282, 3) := by decide +kernel
theorem dX9_see_50 : decode cX9_see 50 = .ok (.ireturn, 1) := by decide +kernel
theorem dX9_see_51 : decode cX9_see 51 = .ok (.iinc 3 1, 3) := by decide +kernel
theorem dX9_see_54 : decode cX9_see 54 = .ok (.goto (-29), 3) := by decide +kernel
theorem dX9_see_57 : decode cX9_see 57 = .ok (.aload_n 0, 1) := by decide +kernel
theorem dX9_see_58 : decode cX9_see 58 = .ok (.getfield 63, 3) := by decide +kernel
theorem dX9_see_61 : decode cX9_see 61 = .ok (.iconst 2, 1) := by decide +kernel
theorem dX9_see_62 : decode cX9_see 62 = .ok (.aload_n 0, 1) := by decide +kernel
theorem dX9_see_63 : decode cX9_see 63 = .ok (.getfield 227, 3) := by decide +kernel
theorem dX9_see_66 : decode cX9_see 66 = .ok (.imul, 1) := by decide +kernel
theorem dX9_see_67 : decode cX9_see 67 = .ok (.iload_n 1, 1) := by decide +kernel
theorem dX9_see_68 : decode cX9_see 68 = .ok (.iastore, 1) := by decide +kernel
theorem dX9_see_69 : decode cX9_see 69 = .ok (.aload_n 0, 1) := by decide +kernel
theorem dX9_see_70 : decode cX9_see 70 = .ok (.getfield 63, 3) := by decide +kernel
theorem dX9_see_73 : decode cX9_see 73 = .ok (.iconst 2, 1) := by decide +kernel
theorem dX9_see_74 : decode cX9_see 74 = .ok (.aload_n 0, 1) := by decide +kernel
theorem dX9_see_75 : decode cX9_see 75 = .ok (.getfield 227, 3) := by decide +kernel
theorem dX9_see_78 : decode cX9_see 78 = .ok (.imul, 1) := by decide +kernel
theorem dX9_see_79 : decode cX9_see 79 = .ok (.iconst 1, 1) := by decide +kernel
theorem dX9_see_80 : decode cX9_see 80 = .ok (.iadd, 1) := by decide +kernel
theorem dX9_see_81 : decode cX9_see 81 = .ok (.iload_n 2, 1) := by decide +kernel
theorem dX9_see_82 : decode cX9_see 82 = .ok (.iastore, 1) := by decide +kernel
theorem dX9_see_83 : decode cX9_see 83 = .ok (.aload_n 0, 1) := by decide +kernel
theorem dX9_see_84 : decode cX9_see 84 = .ok (.dup, 1) := by decide +kernel
theorem dX9_see_85 : decode cX9_see 85 = .ok (.getfield 227, 3) := by decide +kernel
theorem dX9_see_88 : decode cX9_see 88 = .ok (.iconst 1, 1) := by decide +kernel
theorem dX9_see_89 : decode cX9_see 89 = .ok (.iadd, 1) := by decide +kernel
theorem dX9_see_90 : decode cX9_see 90 = .ok (.putfield 227, 3) := by decide +kernel
theorem dX9_see_93 : decode cX9_see 93 = .ok (.aload_n 0, 1) := by decide +kernel
theorem dX9_see_94 : decode cX9_see 94 = .ok (.getfield 227, 3) := by decide +kernel
theorem dX9_see_97 : decode cX9_see 97 = .ok (.ireturn, 1) := by decide +kernel
theorem dX9_forget_0 : decode cX9_forget 0 = .ok (.aload_n 0, 1) := by decide +kernel
theorem dX9_forget_1 : decode cX9_forget 1 = .ok (.iconst 0, 1) := by decide +kernel
theorem dX9_forget_2 : decode cX9_forget 2 = .ok (.putfield 102, 3) := by decide +kernel
theorem dX9_forget_5 : decode cX9_forget 5 = .ok (.aload_n 0, 1) := by decide +kernel
theorem dX9_forget_6 : decode cX9_forget 6 = .ok (.getfield 227, 3) := by decide +kernel
theorem dX9_forget_9 : decode cX9_forget 9 = .ok (.istore_n 1, 1) := by decide +kernel
theorem dX9_forget_10 : decode cX9_forget 10 = .ok (.aload_n 0, 1) := by decide +kernel
theorem dX9_forget_11 : decode cX9_forget 11 = .ok (.iconst 0, 1) := by decide +kernel
theorem dX9_forget_12 : decode cX9_forget 12 = .ok (.putfield 227, 3) := by decide +kernel
theorem dX9_forget_15 : decode cX9_forget 15 = .ok (.iload_n 1, 1) := by decide +kernel
theorem dX9_forget_16 : decode cX9_forget 16 = .ok (.ireturn, 1) := by decide +kernel
theorem dX9_isSeen_0 : decode cX9_isSeen 0 = .ok (.iconst 0, 1) := by decide +kernel
theorem dX9_isSeen_1 : decode cX9_isSeen 1 = .ok (.istore_n 3, 1) := by decide +kernel
theorem dX9_isSeen_2 : decode cX9_isSeen 2 = .ok (.iload_n 3, 1) := by decide +kernel
theorem dX9_isSeen_3 : decode cX9_isSeen 3 = .ok (.aload_n 0, 1) := by decide +kernel
theorem dX9_isSeen_4 : decode cX9_isSeen 4 = .ok (.getfield 227, 3) := by decide +kernel
theorem dX9_isSeen_7 : decode cX9_isSeen 7 = .ok (.if_icmp .ge 38, 3) := by decide +kernel
theorem dX9_isSeen_10 : decode cX9_isSeen 10 = .ok (.aload_n 0, 1) := by decide +kernel
theorem dX9_isSeen_11 : decode cX9_isSeen 11 = .ok (.aload_n 0, 1) := by decide +kernel
theorem dX9_isSeen_12 : decode cX9_isSeen 12 = .ok (.getfield 63, 3) := by decide +kernel
theorem dX9_isSeen_15 : decode cX9_isSeen 15 = .ok (.iconst 2, 1) := by decide +kernel
theorem dX9_isSeen_16 : decode cX9_isSeen 16 = .ok (.iload_n 3, 1) := by decide +kernel
theorem dX9_isSeen_17 : decode cX9_isSeen 17 = .ok (.imul, 1) := by decide +kernel
theorem dX9_isSeen_18 : decode cX9_isSeen 18 = .ok (.iaload, 1) := by decide +kernel
theorem dX9_isSeen_19 : decode cX9_isSeen 19 = .ok (.iload_n 1, 1) := by decide +kernel
theorem dX9_isSeen_20 : decode cX9_isSeen 20 = .ok (.iload_n 2, 1) := by decide +kernel
theorem dX9_isSeen_21 : decode cX9_isSeen 21 = .ok (.invokevirtual 278, 3) := by decide +kernel
theorem dX9_isSeen_24 : decode cX9_isSeen 24 = .ok (.aload_n 0, 1) := by decide +kernel
theorem dX9_isSeen_25 : decode cX9_isSeen 25 = .ok (.getfield 63, 3) := by decide +kernel
theorem dX9_isSeen_28 : decode cX9_isSeen 28 = .ok (.iconst 2, 1) := by decide +kernel
theorem dX9_isSeen_29 : decode cX9_isSeen 29 = .ok (.iload_n 3, 1) := by decide +kernel
theorem dX9_isSeen_30 : decode cX9_isSeen 30 = .ok (.imul, 1) := by decide +kernel
theorem dX9_isSeen_31 : decode cX9_isSeen 31 = .ok (.iconst 1, 1) := by decide +kernel
theorem dX9_isSeen_32 : decode cX9_isSeen 32 = .ok (.iadd, 1) := by decide +kernel
theorem dX9_isSeen_33 : decode cX9_isSeen 33 = .ok (.iaload, 1) := by decide +kernel
theorem dX9_isSeen_34 : decode cX9_isSeen 34 = .ok (.if_icmp .eq 5, 3) := by decide +kernel
theorem dX9_isSeen_37 : decode cX9_isSeen 37 = .ok (.iconst 0, 1) := by decide +kernel
theorem dX9_isSeen_38 : decode cX9_isSeen 38 = .ok (.ireturn, 1) := by decide +kernel
theorem dX9_isSeen_39 : decode cX9_isSeen 39 = .ok (.iinc 3 1, 3) := by decide +kernel
theorem dX9_isSeen_42 : decode cX9_isSeen 42 = .ok (.goto (-40), 3) := by decide +kernel
theorem dX9_isSeen_45 : decode cX9_isSeen 45 = .ok (.iconst 1, 1) := by decide +kernel
theorem dX9_isSeen_46 : decode cX9_isSeen 46 = .ok (.ireturn, 1) := by decide +kernel
theorem dX9_minutes_0 : decode cX9_minutes 0 = .ok (.aload_n 0, 1) := by decide +kernel
theorem dX9_minutes_1 : decode cX9_minutes 1 = .ok (.iconst 0, 1) := by decide +kernel
theorem dX9_minutes_2 : decode cX9_minutes 2 = .ok (.putfield 102, 3) := by decide +kernel
theorem dX9_minutes_5 : decode cX9_minutes 5 = .ok (.aload_n 0, 1) := by decide +kernel
theorem dX9_minutes_6 : decode cX9_minutes 6 = .ok (.iload_n 1, 1) := by decide +kernel
theorem dX9_minutes_7 : decode cX9_minutes 7 = .ok (.invokevirtual 259, 3) := by decide +kernel
theorem dX9_minutes_10 : decode cX9_minutes 10 = .ok (.ifCond .eq 12, 3) := by decide +kernel
theorem dX9_minutes_13 : decode cX9_minutes 13 = .ok (.aload_n 0, 1) := by decide +kernel
theorem dX9_minutes_14 : decode cX9_minutes 14 = .ok (.iload_n 2, 1) := by decide +kernel
theorem dX9_minutes_15 : decode cX9_minutes 15 = .ok (.iconst 2, 1) := by decide +kernel
theorem dX9_minutes_16 : decode cX9_minutes 16 = .ok (.invokevirtual 246, 3) := by decide +kernel
theorem dX9_minutes_19 : decode cX9_minutes 19 = .ok (.ifCond .ne 5, 3) := by decide +kernel
theorem dX9_minutes_22 : decode cX9_minutes 22 = .ok (.iconst 0, 1) := by decide +kernel
theorem dX9_minutes_23 : decode cX9_minutes 23 = .ok (.ireturn, 1) := by decide +kernel
theorem dX9_minutes_24 : decode cX9_minutes 24 = .ok (.iconst 0, 1) := by decide +kernel
theorem dX9_minutes_25 : decode cX9_minutes 25 = .ok (.istore_n 3, 1) := by decide +kernel
theorem dX9_minutes_26 : decode cX9_minutes 26 = .ok (.iconst (-1), 1) := by decide +kernel
theorem dX9_minutes_27 : decode cX9_minutes 27 = .ok (.istore 4, 2) := by decide +kernel
theorem dX9_minutes_29 : decode cX9_minutes 29 = .ok (.iconst (-1), 1) := by decide +kernel
theorem dX9_minutes_30 : decode cX9_minutes 30 = .ok (.istore 5, 2) := by decide +kernel
theorem dX9_minutes_32 : decode cX9_minutes 32 = .ok (.iconst 0, 1) := by decide +kernel
theorem dX9_minutes_33 : decode cX9_minutes 33 = .ok (.istore 6, 2) := by decide +kernel
theorem dX9_minutes_35 : decode cX9_minutes 35 = .ok (.iload 6, 2) := by decide +kernel
theorem dX9_minutes_37 : decode cX9_minutes 37 = .ok (.sipush 1440, 3) := by decide +kernel
theorem dX9_minutes_40 : decode cX9_minutes 40 = .ok (.if_icmp .ge 44, 3) := by decide +kernel
theorem dX9_minutes_43 : decode cX9_minutes 43 = .ok (.aload_n 0, 1) := by decide +kernel
theorem dX9_minutes_44 : decode cX9_minutes 44 = .ok (.iload_n 1, 1) := by decide +kernel
theorem dX9_minutes_45 : decode cX9_minutes 45 = .ok (.iload 6, 2) := by decide +kernel
theorem dX9_minutes_47 : decode cX9_minutes 47 = .ok (.invokevirtual 297, 3) := by decide +kernel
theorem dX9_minutes_50 : decode cX9_minutes 50 = .ok (.ifCond .ne 6, 3) := by decide +kernel
theorem dX9_minutes_53 : decode cX9_minutes 53 = .ok (.goto 25, 3) := by decide +kernel
theorem dX9_minutes_56 : decode cX9_minutes 56 = .ok (.iinc 3 1, 3) := by decide +kernel
theorem dX9_minutes_59 : decode cX9_minutes 59 = .ok (.iload 4, 2) := by decide +kernel
theorem dX9_minutes_61 : decode cX9_minutes 61 = .ok (.iconst (-1), 1) := by decide +kernel
theorem dX9_minutes_62 : decode cX9_minutes 62 = .ok (.if_icmp .ne 8, 3) := by decide +kernel
theorem dX9_minutes_65 : decode cX9_minutes 65 = .ok (.iload 6, 2) := by decide +kernel
theorem dX9_minutes_67 : decode cX9_minutes 67 = .ok (.goto 5, 3) := by decide +kernel
theorem dX9_minutes_70 : decode cX9_minutes 70 = .ok (.iload 4, 2) := by decide +kernel
theorem dX9_minutes_72 : decode cX9_minutes 72 = .ok (.istore 4, 2) := by decide +kernel
theorem dX9_minutes_74 : decode cX9_minutes 74 = .ok (.iload 6, 2) := by decide +kernel
theorem dX9_minutes_76 : decode cX9_minutes 76 = .ok (.istore 5, 2) := by decide +kernel
theorem dX9_minutes_78 : decode cX9_minutes 78 = .ok (.iinc 6 1, 3) := by decide +kernel
theorem dX9_minutes_81 : decode cX9_minutes 81 = .ok (.goto (-46), 3) := by decide +kernel
theorem dX9_minutes_84 : decode cX9_minutes 84 = .ok (.iload_n 2, 1) := by decide +kernel
theorem dX9_minutes_85 : decode cX9_minutes 85 = .ok (.ifCond .ne 7, 3) := by decide +kernel
theorem dX9_minutes_88 : decode cX9_minutes 88 = .ok (.iload_n 3, 1) := by decide +kernel
theorem dX9_minutes_89 : decode cX9_minutes 89 = .ok (.goto 15, 3) := by decide +kernel
theorem dX9_minutes_92 : decode cX9_minutes 92 = .ok (.iload_n 2, 1) := by decide +kernel
theorem dX9_minutes_93 : decode cX9_minutes 93 = .ok (.iconst 1, 1) := by decide +kernel
theorem dX9_minutes_94 : decode cX9_minutes 94 = .ok (.if_icmp .ne 8, 3) := by decide +kernel
theorem dX9_minutes_97 : decode cX9_minutes 97 = .ok (.iload 4, 2) := by decide +kernel
theorem dX9_minutes_99 : decode cX9_minutes 99 = .ok (.goto 5, 3) := by decide +kernel
theorem dX9_minutes_102 : decode cX9_minutes 102 = .ok (.iload 5, 2) := by decide +kernel
theorem dX9_minutes_104 : decode cX9_minutes 104 = .ok (.ireturn, 1) := by decide +kernel
theorem dX9_days_0 : decode cX9_days 0 = .ok (.aload_n 0, 1) := by decide +kernel
theorem dX9_days_1 : decode cX9_days 1 = .ok (.iconst 0, 1) := by decide +kernel
theorem dX9_days_2 : decode cX9_days 2 = .ok (.putfield 102, 3) := by decide +kernel
theorem dX9_days_5 : decode cX9_days 5 = .ok (.aload_n 0, 1) := by decide +kernel
theorem dX9_days_6 : decode cX9_days 6 = .ok (.iload_n 1, 1) := by decide +kernel
theorem dX9_days_7 : decode cX9_days 7 = .ok (.iconst 2, 1) := by decide +kernel
theorem dX9_days_8 : decode cX9_days 8 = .ok (.invokevirtual 246, 3) := by decide +kernel
theorem dX9_days_11 : decode cX9_days 11 = .ok (.ifCond .ne 5, 3) := by decide +kernel
theorem dX9_days_14 : decode cX9_days 14 = .ok (.iconst 0, 1) := by decide +kernel
theorem dX9_days_15 : decode cX9_days 15 = .ok (.ireturn, 1) := by decide +kernel
theorem dX9_days_16 : decode cX9_days 16 = .ok (.iconst 0, 1) := by decide +kernel
theorem dX9_days_17 : decode cX9_days 17 = .ok (.istore_n 2, 1) := by decide +kernel
theorem dX9_days_18 : decode cX9_days 18 = .ok (.iconst 0, 1) := by decide +kernel
theorem dX9_days_19 : decode cX9_days 19 = .ok (.istore_n 3, 1) := by decide +kernel
theorem dX9_days_20 : decode cX9_days 20 = .ok (.iload_n 3, 1) := by decide +kernel
theorem dX9_days_21 : decode cX9_days 21 = .ok (.sipush 365, 3) := by decide +kernel
theorem dX9_days_24 : decode cX9_days 24 = .ok (.if_icmp .ge 58, 3) := by decide +kernel
theorem dX9_days_27 : decode cX9_days 27 = .ok (.iconst 0, 1) := by decide +kernel
theorem dX9_days_28 : decode cX9_days 28 = .ok (.istore 4, 2) := by decide +kernel
theorem dX9_days_30 : decode cX9_days 30 = .ok (.iload 4, 2) := by decide +kernel
theorem dX9_days_32 : decode cX9_days 32 = .ok (.sipush 1440, 3) := by decide +kernel
theorem dX9_days_35 : decode cX9_days 35 = .ok (.if_icmp .ge 41, 3) := by decide +kernel
theorem dX9_days_38 : decode cX9_days 38 = .ok (.aload_n 0, 1) := by decide +kernel
theorem dX9_days_39 : decode cX9_days 39 = .ok (.iload_n 3, 1) := by decide +kernel
theorem dX9_days_40 : decode cX9_days 40 = .ok (.iload 4, 2) := by decide +kernel
theorem dX9_days_42 : decode cX9_days 42 = .ok (.invokevirtual 297, 3) := by decide +kernel
theorem dX9_days_45 : decode cX9_days 45 = .ok (.ifCond .ne 6, 3) := by decide +kernel
theorem dX9_days_48 : decode cX9_days 48 = .ok (.goto 22, 3) := by decide +kernel
theorem dX9_days_51 : decode cX9_days 51 = .ok (.iload_n 1, 1) := by decide +kernel
theorem dX9_days_52 : decode cX9_days 52 = .ok (.ifCond .le 15, 3) := by decide +kernel
theorem dX9_days_55 : decode cX9_days 55 = .ok (.iload_n 1, 1) := by decide +kernel
theorem dX9_days_56 : decode cX9_days 56 = .ok (.iconst 1, 1) := by decide +kernel
theorem dX9_days_57 : decode cX9_days 57 = .ok (.if_icmp .ne 7, 3) := by decide +kernel
theorem dX9_days_60 : decode cX9_days 60 = .ok (.iload_n 3, 1) := by decide +kernel
theorem dX9_days_61 : decode cX9_days 61 = .ok (.goto 5, 3) := by decide +kernel
theorem dX9_days_64 : decode cX9_days 64 = .ok (.iload 4, 2) := by decide +kernel
theorem dX9_days_66 : decode cX9_days 66 = .ok (.ireturn, 1) := by decide +kernel
theorem dX9_days_67 : decode cX9_days 67 = .ok (.iinc 2 1, 3) := by decide +kernel
theorem dX9_days_70 : decode cX9_days 70 = .ok (.iinc 4 1, 3) := by decide +kernel
theorem dX9_days_73 : decode cX9_days 73 = .ok (.goto (-43), 3) := by decide +kernel
theorem dX9_days_76 : decode cX9_days 76 = .ok (.iinc 3 1, 3) := by decide +kernel
theorem dX9_days_79 : decode cX9_days 79 = .ok (.goto (-59), 3) := by decide +kernel
theorem dX9_days_82 : decode cX9_days 82 = .ok (.iload_n 1, 1) := by decide +kernel
theorem dX9_days_83 : decode cX9_days 83 = .ok (.ifCond .ne 7, 3) := by decide +kernel
theorem dX9_days_86 : decode cX9_days 86 = .ok (.iload_n 2, 1) := by decide +kernel
theorem dX9_days_87 : decode cX9_days 87 = .ok (.goto 4, 3) := by decide +kernel
theorem dX9_days_90 : decode cX9_days 90 = .ok (.iconst (-1), 1) := by decide +kernel
theorem dX9_days_91 : decode cX9_days 91 = .ok (.ireturn, 1) := by decide +kernel
theorem dX9_firstOf_0 : decode cX9_firstOf 0 = .ok (.iconst 0, 1) := by decide +kernel
theorem dX9_firstOf_1 : decode cX9_firstOf 1 = .ok (.istore 4, 2) := by decide +kernel
theorem dX9_firstOf_3 : decode cX9_firstOf 3 = .ok (.iload 4, 2) := by decide +kernel
theorem dX9_firstOf_5 : decode cX9_firstOf 5 = .ok (.sipush 1440, 3) := by decide +kernel
theorem dX9_firstOf_8 : decode cX9_firstOf 8 = .ok (.if_icmp .ge 24, 3) := by decide +kernel
theorem dX9_firstOf_11 : decode cX9_firstOf 11 = .ok (.aload_n 0, 1) := by decide +kernel
theorem dX9_firstOf_12 : decode cX9_firstOf 12 = .ok (.iload_n 1, 1) := by decide +kernel
theorem dX9_firstOf_13 : decode cX9_firstOf 13 = .ok (.iload_n 3, 1) := by decide +kernel
theorem dX9_firstOf_14 : decode cX9_firstOf 14 = .ok (.iload 4, 2) := by decide +kernel
theorem dX9_firstOf_16 : decode cX9_firstOf 16 = .ok (.invokevirtual 278, 3) := by decide +kernel
theorem dX9_firstOf_19 : decode cX9_firstOf 19 = .ok (.iload_n 2, 1) := by decide +kernel
theorem dX9_firstOf_20 : decode cX9_firstOf 20 = .ok (.if_icmp .ne 6, 3) := by decide +kernel
theorem dX9_firstOf_23 : decode cX9_firstOf 23 = .ok (.iload 4, 2) := by decide +kernel
theorem dX9_firstOf_25 : decode cX9_firstOf 25 = .ok (.ireturn, 1) := by decide +kernel
theorem dX9_firstOf_26 : decode cX9_firstOf 26 = .ok (.iinc 4 1, 3) := by decide +kernel
theorem dX9_firstOf_29 : decode cX9_firstOf 29 = .ok (.goto (-26), 3) := by decide +kernel
theorem dX9_firstOf_32 : decode cX9_firstOf 32 = .ok (.iconst (-1), 1) := by decide +kernel
theorem dX9_firstOf_33 : decode cX9_firstOf 33 = .ok (.ireturn, 1) := by decide +kernel
theorem dX9_lateOn_0 : decode cX9_lateOn 0 = .ok (.aload_n 0, 1) := by decide +kernel
theorem dX9_lateOn_1 : decode cX9_lateOn 1 = .ok (.iload_n 1, 1) := by decide +kernel
theorem dX9_lateOn_2 : decode cX9_lateOn 2 = .ok (.iload_n 3, 1) := by decide +kernel
theorem dX9_lateOn_3 : decode cX9_lateOn 3 = .ok (.iload 4, 2) := by decide +kernel
theorem dX9_lateOn_5 : decode cX9_lateOn 5 = .ok (.invokevirtual 300, 3) := by decide +kernel
theorem dX9_lateOn_8 : decode cX9_lateOn 8 = .ok (.istore 5, 2) := by decide +kernel
theorem dX9_lateOn_10 : decode cX9_lateOn 10 = .ok (.iload 5, 2) := by decide +kernel
theorem dX9_lateOn_12 : decode cX9_lateOn 12 = .ok (.iconst (-1), 1) := by decide +kernel
theorem dX9_lateOn_13 : decode cX9_lateOn 13 = .ok (.if_icmp .ne 7, 3) := by decide +kernel
theorem dX9_lateOn_16 : decode cX9_lateOn 16 = .ok (.iconst (-1), 1) := by decide +kernel
theorem dX9_lateOn_17 : decode cX9_lateOn 17 = .ok (.goto 11, 3) := by decide +kernel
theorem dX9_lateOn_20 : decode cX9_lateOn 20 = .ok (.aload_n 0, 1) := by decide +kernel
theorem dX9_lateOn_21 : decode cX9_lateOn 21 = .ok (.iload_n 2, 1) := by decide +kernel
theorem dX9_lateOn_22 : decode cX9_lateOn 22 = .ok (.iload_n 3, 1) := by decide +kernel
theorem dX9_lateOn_23 : decode cX9_lateOn 23 = .ok (.iload 4, 2) := by decide +kernel
theorem dX9_lateOn_25 : decode cX9_lateOn 25 = .ok (.invokevirtual 300, 3) := by decide +kernel
theorem dX9_lateOn_28 : decode cX9_lateOn 28 = .ok (.istore 6, 2) := by decide +kernel
theorem dX9_lateOn_30 : decode cX9_lateOn 30 = .ok (.iload 6, 2) := by decide +kernel
theorem dX9_lateOn_32 : decode cX9_lateOn 32 = .ok (.iconst (-1), 1) := by decide +kernel
theorem dX9_lateOn_33 : decode cX9_lateOn 33 = .ok (.if_icmp .ne 7, 3) := by decide +kernel
theorem dX9_lateOn_36 : decode cX9_lateOn 36 = .ok (.iconst (-1), 1) := by decide +kernel
theorem dX9_lateOn_37 : decode cX9_lateOn 37 = .ok (.goto 10, 3) := by decide +kernel
theorem dX9_lateOn_40 : decode cX9_lateOn 40 = .ok (.iload 5, 2) := by decide +kernel
theorem dX9_lateOn_42 : decode cX9_lateOn 42 = .ok (.iload 6, 2) := by decide +kernel
theorem dX9_lateOn_44 : decode cX9_lateOn 44 = .ok (.invokestatic 250, 3) := by decide +kernel
theorem dX9_lateOn_47 : decode cX9_lateOn 47 = .ok (.ireturn, 1) := by decide +kernel
theorem dX9_late_0 : decode cX9_late 0 = .ok (.aload_n 0, 1) := by decide +kernel
theorem dX9_late_1 : decode cX9_late 1 = .ok (.iconst 0, 1) := by decide +kernel
theorem dX9_late_2 : decode cX9_late 2 = .ok (.putfield 102, 3) := by decide +kernel
theorem dX9_late_5 : decode cX9_late 5 = .ok (.aload_n 0, 1) := by decide +kernel
theorem dX9_late_6 : decode cX9_late 6 = .ok (.iload_n 1, 1) := by decide +kernel
theorem dX9_late_7 : decode cX9_late 7 = .ok (.invokevirtual 243, 3) := by decide +kernel
theorem dX9_late_10 : decode cX9_late 10 = .ok (.ifCond .eq 40, 3) := by decide +kernel
theorem dX9_late_13 : decode cX9_late 13 = .ok (.aload_n 0, 1) := by decide +kernel
theorem dX9_late_14 : decode cX9_late 14 = .ok (.iload_n 2, 1) := by decide +kernel
theorem dX9_late_15 : decode cX9_late 15 = .ok (.invokevirtual 243, 3) := by decide +kernel
theorem dX9_late_18 : decode cX9_late 18 = .ok (.ifCond .eq 32, 3) := by decide +kernel
theorem dX9_late_21 : decode cX9_late 21 = .ok (.aload_n 0, 1) := by decide +kernel
theorem dX9_late_22 : decode cX9_late 22 = .ok (.iload_n 3, 1) := by decide +kernel
theorem dX9_late_23 : decode cX9_late 23 = .ok (.invokevirtual 275, 3) := by decide +kernel
theorem dX9_late_26 : decode cX9_late 26 = .ok (.ifCond .eq 24, 3) := by decide +kernel
theorem dX9_late_29 : decode cX9_late 29 = .ok (.aload_n 0, 1) := by decide +kernel
theorem dX9_late_30 : decode cX9_late 30 = .ok (.iload 4, 2) := by decide +kernel
theorem dX9_late_32 : decode cX9_late 32 = .ok (.invokevirtual 259, 3) := by decide +kernel
theorem dX9_late_35 : decode cX9_late 35 = .ok (.ifCond .eq 15, 3) := by decide +kernel
theorem dX9_late_38 : decode cX9_late 38 = .ok (.aload_n 0, 1) := by decide +kernel
theorem dX9_late_39 : decode cX9_late 39 = .ok (.iload_n 1, 1) := by decide +kernel
theorem dX9_late_40 : decode cX9_late 40 = .ok (.iload_n 2, 1) := by decide +kernel
theorem dX9_late_41 : decode cX9_late 41 = .ok (.iload_n 3, 1) := by decide +kernel
theorem dX9_late_42 : decode cX9_late 42 = .ok (.iload 4, 2) := by decide +kernel
theorem dX9_late_44 : decode cX9_late 44 = .ok (.invokevirtual 303, 3) := by decide +kernel
theorem dX9_late_47 : decode cX9_late 47 = .ok (.goto 4, 3) := by decide +kernel
theorem dX9_late_50 : decode cX9_late 50 = .ok (.iconst 0, 1) := by decide +kernel
theorem dX9_late_51 : decode cX9_late 51 = .ok (.ireturn, 1) := by decide +kernel
theorem dX9_meet_0 : decode cX9_meet 0 = .ok (.aload_n 0, 1) := by decide +kernel
theorem dX9_meet_1 : decode cX9_meet 1 = .ok (.iconst 0, 1) := by decide +kernel
theorem dX9_meet_2 : decode cX9_meet 2 = .ok (.putfield 102, 3) := by decide +kernel
theorem dX9_meet_5 : decode cX9_meet 5 = .ok (.aload_n 0, 1) := by decide +kernel
theorem dX9_meet_6 : decode cX9_meet 6 = .ok (.iload_n 1, 1) := by decide +kernel
theorem dX9_meet_7 : decode cX9_meet 7 = .ok (.invokevirtual 243, 3) := by decide +kernel
theorem dX9_meet_10 : decode cX9_meet 10 = .ok (.ifCond .eq 38, 3) := by decide +kernel
theorem dX9_meet_13 : decode cX9_meet 13 = .ok (.aload_n 0, 1) := by decide +kernel
theorem dX9_meet_14 : decode cX9_meet 14 = .ok (.iload_n 2, 1) := by decide +kernel
theorem dX9_meet_15 : decode cX9_meet 15 = .ok (.invokevirtual 243, 3) := by decide +kernel
theorem dX9_meet_18 : decode cX9_meet 18 = .ok (.ifCond .eq 30, 3) := by decide +kernel
theorem dX9_meet_21 : decode cX9_meet 21 = .ok (.aload_n 0, 1) := by decide +kernel
theorem dX9_meet_22 : decode cX9_meet 22 = .ok (.iload_n 3, 1) := by decide +kernel
theorem dX9_meet_23 : decode cX9_meet 23 = .ok (.invokevirtual 275, 3) := by decide +kernel
theorem dX9_meet_26 : decode cX9_meet 26 = .ok (.ifCond .eq 22, 3) := by decide +kernel
theorem dX9_meet_29 : decode cX9_meet 29 = .ok (.aload_n 0, 1) := by decide +kernel
theorem dX9_meet_30 : decode cX9_meet 30 = .ok (.iload 4, 2) := by decide +kernel
theorem dX9_meet_32 : decode cX9_meet 32 = .ok (.invokevirtual 259, 3) := by decide +kernel
theorem dX9_meet_35 : decode cX9_meet 35 = .ok (.ifCond .eq 13, 3) := by decide +kernel
theorem dX9_meet_38 : decode cX9_meet 38 = .ok (.aload_n 0, 1) := by decide +kernel
theorem dX9_meet_39 : decode cX9_meet 39 = .ok (.iload 5, 2) := by decide +kernel
theorem dX9_meet_41 : decode cX9_meet 41 = .ok (.iconst 1, 1) := by decide +kernel
theorem dX9_meet_42 : decode cX9_meet 42 = .ok (.invokevirtual 246, 3) := by decide +kernel
theorem dX9_meet_45 : decode cX9_meet 45 = .ok (.ifCond .ne 5, 3) := by decide +kernel
theorem dX9_meet_48 : decode cX9_meet 48 = .ok (.iconst 0, 1) := by decide +kernel
theorem dX9_meet_49 : decode cX9_meet 49 = .ok (.ireturn, 1) := by decide +kernel
theorem dX9_meet_50 : decode cX9_meet 50 = .ok (.iconst (-1), 1) := by decide +kernel
theorem dX9_meet_51 : decode cX9_meet 51 = .ok (.istore 6, 2) := by decide +kernel
theorem dX9_meet_53 : decode cX9_meet 53 = .ok (.iconst 0, 1) := by decide +kernel
theorem dX9_meet_54 : decode cX9_meet 54 = .ok (.istore 7, 2) := by decide +kernel
theorem dX9_meet_56 : decode cX9_meet 56 = .ok (.iload 4, 2) := by decide +kernel
theorem dX9_meet_58 : decode cX9_meet 58 = .ok (.istore 8, 2) := by decide +kernel
theorem dX9_meet_60 : decode cX9_meet 60 = .ok (.iload 8, 2) := by decide +kernel
theorem dX9_meet_62 : decode cX9_meet 62 = .ok (.sipush 365, 3) := by decide +kernel
theorem dX9_meet_65 : decode cX9_meet 65 = .ok (.if_icmp .ge 58, 3) := by decide +kernel
theorem dX9_meet_68 : decode cX9_meet 68 = .ok (.aload_n 0, 1) := by decide +kernel
theorem dX9_meet_69 : decode cX9_meet 69 = .ok (.iload_n 1, 1) := by decide +kernel
theorem dX9_meet_70 : decode cX9_meet 70 = .ok (.iload_n 2, 1) := by decide +kernel
theorem dX9_meet_71 : decode cX9_meet 71 = .ok (.iload_n 3, 1) := by decide +kernel
theorem dX9_meet_72 : decode cX9_meet 72 = .ok (.iload 8, 2) := by decide +kernel
theorem dX9_meet_74 : decode cX9_meet 74 = .ok (.invokevirtual 303, 3) := by decide +kernel
theorem dX9_meet_77 : decode cX9_meet 77 = .ok (.istore 9, 2) := by decide +kernel
theorem dX9_meet_79 : decode cX9_meet 79 = .ok (.iload 9, 2) := by decide +kernel
theorem dX9_meet_81 : decode cX9_meet 81 = .ok (.iconst (-1), 1) := by decide +kernel
theorem dX9_meet_82 : decode cX9_meet 82 = .ok (.if_icmp .eq 35, 3) := by decide +kernel
theorem dX9_meet_85 : decode cX9_meet 85 = .ok (.iload 6, 2) := by decide +kernel
theorem dX9_meet_87 : decode cX9_meet 87 = .ok (.iconst (-1), 1) := by decide +kernel
theorem dX9_meet_88 : decode cX9_meet 88 = .ok (.if_icmp .eq 13, 3) := by decide +kernel
theorem dX9_meet_91 : decode cX9_meet 91 = .ok (.iload 9, 2) := by decide +kernel
theorem dX9_meet_93 : decode cX9_meet 93 = .ok (.iload 7, 2) := by decide +kernel
theorem dX9_meet_95 : decode cX9_meet 95 = .ok (.if_icmp .lt 6, 3) := by decide +kernel
theorem dX9_meet_98 : decode cX9_meet 98 = .ok (.goto 19, 3) := by decide +kernel
theorem dX9_meet_101 : decode cX9_meet 101 = .ok (.iload 5, 2) := by decide +kernel
theorem dX9_meet_103 : decode cX9_meet 103 = .ok (.ifCond .ne 6, 3) := by decide +kernel
theorem dX9_meet_106 : decode cX9_meet 106 = .ok (.iload 8, 2) := by decide +kernel
theorem dX9_meet_108 : decode cX9_meet 108 = .ok (.ireturn, 1) := by decide +kernel
theorem dX9_meet_109 : decode cX9_meet 109 = .ok (.iload 8, 2) := by decide +kernel
theorem dX9_meet_111 : decode cX9_meet 111 = .ok (.istore 6, 2) := by decide +kernel
theorem dX9_meet_113 : decode cX9_meet 113 = .ok (.iload 9, 2) := by decide +kernel
theorem dX9_meet_115 : decode cX9_meet 115 = .ok (.istore 7, 2) := by decide +kernel
theorem dX9_meet_117 : decode cX9_meet 117 = .ok (.iinc 8 1, 3) := by decide +kernel
theorem dX9_meet_120 : decode cX9_meet 120 = .ok (.goto (-60), 3) := by decide +kernel
theorem dX9_meet_123 : decode cX9_meet 123 = .ok (.iload 6, 2) := by decide +kernel
theorem dX9_meet_125 : decode cX9_meet 125 = .ok (.ireturn, 1) := by decide +kernel
theorem dX9_mend_0 : decode cX9_mend 0 = .ok (.aload_n 0, 1) := by decide +kernel
theorem dX9_mend_1 : decode cX9_mend 1 = .ok (.iconst 0, 1) := by decide +kernel
theorem dX9_mend_2 : decode cX9_mend 2 = .ok (.putfield 102, 3) := by decide +kernel
theorem dX9_mend_5 : decode cX9_mend 5 = .ok (.aload_n 0, 1) := by decide +kernel
theorem dX9_mend_6 : decode cX9_mend 6 = .ok (.iload_n 1, 1) := by decide +kernel
theorem dX9_mend_7 : decode cX9_mend 7 = .ok (.invokevirtual 243, 3) := by decide +kernel
theorem dX9_mend_10 : decode cX9_mend 10 = .ok (.ifCond .eq 11, 3) := by decide +kernel
theorem dX9_mend_13 : decode cX9_mend 13 = .ok (.aload_n 0, 1) := by decide +kernel
theorem dX9_mend_14 : decode cX9_mend 14 = .ok (.iload_n 2, 1) := by decide +kernel
theorem dX9_mend_15 : decode cX9_mend 15 = .ok (.invokevirtual 259, 3) := by decide +kernel
theorem dX9_mend_18 : decode cX9_mend 18 = .ok (.ifCond .ne 5, 3) := by decide +kernel
theorem dX9_mend_21 : decode cX9_mend 21 = .ok (.iconst 0, 1) := by decide +kernel
theorem dX9_mend_22 : decode cX9_mend 22 = .ok (.ireturn, 1) := by decide +kernel
theorem dX9_mend_23 : decode cX9_mend 23 = .ok (.aload_n 0, 1) := by decide +kernel
theorem dX9_mend_24 : decode cX9_mend 24 = .ok (.getfield 230, 3) := by decide +kernel
theorem dX9_mend_27 : decode cX9_mend 27 = .ok (.bipush 40, 2) := by decide +kernel
theorem dX9_mend_29 : decode cX9_mend 29 = .ok (.if_icmp .eq 26, 3) := by decide +kernel
theorem dX9_mend_32 : decode cX9_mend 32 = .ok (.aload_n 0, 1) := by decide +kernel
theorem dX9_mend_33 : decode cX9_mend 33 = .ok (.getfield 13, 3) := by decide +kernel
theorem dX9_mend_36 : decode cX9_mend 36 = .ok (.iconst 5, 1) := by decide +kernel
theorem dX9_mend_37 : decode cX9_mend 37 = .ok (.iload_n 1, 1) := by decide +kernel
theorem dX9_mend_38 : decode cX9_mend 38 = .ok (.imul, 1) := by decide +kernel
theorem dX9_mend_39 : decode cX9_mend 39 = .ok (.iaload, 1) := by decide +kernel
theorem dX9_mend_40 : decode cX9_mend 40 = .ok (.iconst 5, 1) := by decide +kernel
theorem dX9_mend_41 : decode cX9_mend 41 = .ok (.if_icmp .eq 14, 3) := by decide +kernel
theorem dX9_mend_44 : decode cX9_mend 44 = .ok (.iload_n 3, 1) := by decide +kernel
theorem dX9_mend_45 : decode cX9_mend 45 = .ok (.bipush (-120), 2) := by decide +kernel
theorem dX9_mend_47 : decode cX9_mend 47 = .ok (.bipush 120, 2) := by decide +kernel
theorem dX9_mend_49 : decode cX9_mend 49 = .ok (.invokestatic 239, 3) := by decide +kernel
theorem dX9_mend_52 : decode cX9_mend 52 = .ok (.ifCond .ne 9, 3) := by decide +kernel
theorem dX9_mend_55 : decode cX9_mend 55 = .ok (.aload_n 0, 1) := by decide +kernel
theorem dX9_mend_56 : decode cX9_mend 56 = .ok (.iconst 3, 1) := by decide +kernel
theorem dX9_mend_57 : decode cX9_mend 57 = .ok (.invokevirtual 282, 3) := by decide +kernel
theorem dX9_mend_60 : decode cX9_mend 60 = .ok (.ireturn, 1) := by decide +kernel
theorem dX9_mend_61 : decode cX9_mend 61 = .ok (.aload_n 0, 1) := by decide +kernel
theorem dX9_mend_62 : decode cX9_mend 62 = .ok (.getfield 51, 3) := by decide +kernel
theorem dX9_mend_65 : decode cX9_mend 65 = .ok (.iconst 3, 1) := by decide +kernel
theorem dX9_mend_66 : decode cX9_mend 66 = .ok (.aload_n 0, 1) := by decide +kernel
theorem dX9_mend_67 : decode cX9_mend 67 = .ok (.getfield 230, 3) := by decide +kernel
theorem dX9_mend_70 : decode cX9_mend 70 = .ok (.imul, 1) := by decide +kernel
theorem dX9_mend_71 : decode cX9_mend 71 = .ok (.iload_n 1, 1) := by decide +kernel
theorem dX9_mend_72 : decode cX9_mend 72 = .ok (.iastore, 1) := by decide +kernel
theorem dX9_mend_73 : decode cX9_mend 73 = .ok (.aload_n 0, 1) := by decide +kernel
theorem dX9_mend_74 : decode cX9_mend 74 = .ok (.getfield 51, 3) := by decide +kernel
theorem dX9_mend_77 : decode cX9_mend 77 = .ok (.iconst 3, 1) := by decide +kernel
theorem dX9_mend_78 : decode cX9_mend 78 = .ok (.aload_n 0, 1) := by decide +kernel
theorem dX9_mend_79 : decode cX9_mend 79 = .ok (.getfield 230, 3) := by decide +kernel
theorem dX9_mend_82 : decode cX9_mend 82 = .ok (.imul, 1) := by decide +kernel
theorem dX9_mend_83 : decode cX9_mend 83 = .ok (.iconst 1, 1) := by decide +kernel
theorem dX9_mend_84 : decode cX9_mend 84 = .ok (.iadd, 1) := by decide +kernel
theorem dX9_mend_85 : decode cX9_mend 85 = .ok (.iload_n 2, 1) := by decide +kernel
theorem dX9_mend_86 : decode cX9_mend 86 = .ok (.iastore, 1) := by decide +kernel
theorem dX9_mend_87 : decode cX9_mend 87 = .ok (.aload_n 0, 1) := by decide +kernel
theorem dX9_mend_88 : decode cX9_mend 88 = .ok (.getfield 51, 3) := by decide +kernel
theorem dX9_mend_91 : decode cX9_mend 91 = .ok (.iconst 3, 1) := by decide +kernel
theorem dX9_mend_92 : decode cX9_mend 92 = .ok (.aload_n 0, 1) := by decide +kernel
theorem dX9_mend_93 : decode cX9_mend 93 = .ok (.getfield 230, 3) := by decide +kernel
theorem dX9_mend_96 : decode cX9_mend 96 = .ok (.imul, 1) := by decide +kernel
theorem dX9_mend_97 : decode cX9_mend 97 = .ok (.iconst 2, 1) := by decide +kernel
theorem dX9_mend_98 : decode cX9_mend 98 = .ok (.iadd, 1) := by decide +kernel
theorem dX9_mend_99 : decode cX9_mend 99 = .ok (.iload_n 3, 1) := by decide +kernel
theorem dX9_mend_100 : decode cX9_mend 100 = .ok (.iastore, 1) := by decide +kernel
theorem dX9_mend_101 : decode cX9_mend 101 = .ok (.aload_n 0, 1) := by decide +kernel
theorem dX9_mend_102 : decode cX9_mend 102 = .ok (.dup, 1) := by decide +kernel
theorem dX9_mend_103 : decode cX9_mend 103 = .ok (.getfield 230, 3) := by decide +kernel
theorem dX9_mend_106 : decode cX9_mend 106 = .ok (.iconst 1, 1) := by decide +kernel
theorem dX9_mend_107 : decode cX9_mend 107 = .ok (.iadd, 1) := by decide +kernel
theorem dX9_mend_108 : decode cX9_mend 108 = .ok (.putfield 230, 3) := by decide +kernel
theorem dX9_mend_111 : decode cX9_mend 111 = .ok (.aload_n 0, 1) := by decide +kernel
theorem dX9_mend_112 : decode cX9_mend 112 = .ok (.getfield 230, 3) := by decide +kernel
theorem dX9_mend_115 : decode cX9_mend 115 = .ok (.ireturn, 1) := by decide +kernel
theorem dX9_undo_0 : decode cX9_undo 0 = .ok (.aload_n 0, 1) := by decide +kernel
theorem dX9_undo_1 : decode cX9_undo 1 = .ok (.iconst 0, 1) := by decide +kernel
theorem dX9_undo_2 : decode cX9_undo 2 = .ok (.putfield 102, 3) := by decide +kernel
theorem dX9_undo_5 : decode cX9_undo 5 = .ok (.aload_n 0, 1) := by decide +kernel
theorem dX9_undo_6 : decode cX9_undo 6 = .ok (.getfield 230, 3) := by decide +kernel
theorem dX9_undo_9 : decode cX9_undo 9 = .ok (.ifCond .ne 5, 3) := by decide +kernel
theorem dX9_undo_12 : decode cX9_undo 12 = .ok (.iconst (-1), 1) := by decide +kernel
theorem dX9_undo_13 : decode cX9_undo 13 = .ok (.ireturn, 1) := by decide +kernel
theorem dX9_undo_14 : decode cX9_undo 14 = .ok (.aload_n 0, 1) := by decide +kernel
theorem dX9_undo_15 : decode cX9_undo 15 = .ok (.dup, 1) := by decide +kernel
theorem dX9_undo_16 : decode cX9_undo 16 = .ok (.getfield 230, 3) := by decide +kernel
theorem dX9_undo_19 : decode cX9_undo 19 = .ok (.iconst 1, 1) := by decide +kernel
theorem dX9_undo_20 : decode cX9_undo 20 = .ok (.isub, 1) := by decide +kernel
theorem dX9_undo_21 : decode cX9_undo 21 = .ok (.putfield 230, 3) := by decide +kernel
theorem dX9_undo_24 : decode cX9_undo 24 = .ok (.aload_n 0, 1) := by decide +kernel
theorem dX9_undo_25 : decode cX9_undo 25 = .ok (.getfield 230, 3) := by decide +kernel
theorem dX9_undo_28 : decode cX9_undo 28 = .ok (.ireturn, 1) := by decide +kernel
theorem dX9_wrongBy_0 : decode cX9_wrongBy 0 = .ok (.iload_n 0, 1) := by decide +kernel
theorem dX9_wrongBy_1 : decode cX9_wrongBy 1 = .ok (.iload_n 1, 1) := by decide +kernel
theorem dX9_wrongBy_2 : decode cX9_wrongBy 2 = .ok (.invokestatic 250, 3) := by decide +kernel
theorem dX9_wrongBy_5 : decode cX9_wrongBy 5 = .ok (.istore_n 2, 1) := by decide +kernel
theorem dX9_wrongBy_6 : decode cX9_wrongBy 6 = .ok (.iload_n 2, 1) := by decide +kernel
theorem dX9_wrongBy_7 : decode cX9_wrongBy 7 = .ok (.sipush 720, 3) := by decide +kernel
theorem dX9_wrongBy_10 : decode cX9_wrongBy 10 = .ok (.if_icmp .gt 7, 3) := by decide +kernel
theorem dX9_wrongBy_13 : decode cX9_wrongBy 13 = .ok (.iload_n 2, 1) := by decide +kernel
theorem dX9_wrongBy_14 : decode cX9_wrongBy 14 = .ok (.goto 8, 3) := by decide +kernel
theorem dX9_wrongBy_17 : decode cX9_wrongBy 17 = .ok (.sipush 1440, 3) := by decide +kernel
theorem dX9_wrongBy_20 : decode cX9_wrongBy 20 = .ok (.iload_n 2, 1) := by decide +kernel
theorem dX9_wrongBy_21 : decode cX9_wrongBy 21 = .ok (.isub, 1) := by decide +kernel
theorem dX9_wrongBy_22 : decode cX9_wrongBy 22 = .ok (.ireturn, 1) := by decide +kernel
theorem dX9_best_0 : decode cX9_best 0 = .ok (.aload_n 0, 1) := by decide +kernel
theorem dX9_best_1 : decode cX9_best 1 = .ok (.iconst 0, 1) := by decide +kernel
theorem dX9_best_2 : decode cX9_best 2 = .ok (.putfield 102, 3) := by decide +kernel
theorem dX9_best_5 : decode cX9_best 5 = .ok (.aload_n 0, 1) := by decide +kernel
theorem dX9_best_6 : decode cX9_best 6 = .ok (.iload_n 1, 1) := by decide +kernel
theorem dX9_best_7 : decode cX9_best 7 = .ok (.invokevirtual 243, 3) := by decide +kernel
theorem dX9_best_10 : decode cX9_best 10 = .ok (.ifCond .eq 56, 3) := by decide +kernel
theorem dX9_best_13 : decode cX9_best 13 = .ok (.aload_n 0, 1) := by decide +kernel
theorem dX9_best_14 : decode cX9_best 14 = .ok (.iload_n 2, 1) := by decide +kernel
theorem dX9_best_15 : decode cX9_best 15 = .ok (.invokevirtual 275, 3) := by decide +kernel
theorem dX9_best_18 : decode cX9_best 18 = .ok (.ifCond .eq 48, 3) := by decide +kernel
theorem dX9_best_21 : decode cX9_best 21 = .ok (.aload_n 0, 1) := by decide +kernel
theorem dX9_best_22 : decode cX9_best 22 = .ok (.iload 4, 2) := by decide +kernel
theorem dX9_best_24 : decode cX9_best 24 = .ok (.iconst 1, 1) := by decide +kernel
theorem dX9_best_25 : decode cX9_best 25 = .ok (.invokevirtual 246, 3) := by decide +kernel
theorem dX9_best_28 : decode cX9_best 28 = .ok (.ifCond .eq 38, 3) := by decide +kernel
theorem dX9_best_31 : decode cX9_best 31 = .ok (.aload_n 0, 1) := by decide +kernel
theorem dX9_best_32 : decode cX9_best 32 = .ok (.iload_n 3, 1) := by decide +kernel
theorem dX9_best_33 : decode cX9_best 33 = .ok (.iconst 0, 1) := by decide +kernel
theorem dX9_best_34 : decode cX9_best 34 = .ok (.bipush 120, 2) := by decide +kernel
theorem dX9_best_36 : decode cX9_best 36 = .ok (.invokestatic 239, 3) := by decide +kernel
theorem dX9_best_39 : decode cX9_best 39 = .ok (.ifCond .eq 19, 3) := by decide +kernel
theorem dX9_best_42 : decode cX9_best 42 = .ok (.aload_n 0, 1) := by decide +kernel
theorem dX9_best_43 : decode cX9_best 43 = .ok (.getfield 13, 3) := by decide +kernel
theorem dX9_best_46 : decode cX9_best 46 = .ok (.iconst 5, 1) := by decide +kernel
theorem dX9_best_47 : decode cX9_best 47 = .ok (.iload_n 1, 1) := by decide +kernel
theorem dX9_best_48 : decode cX9_best 48 = .ok (.imul, 1) := by decide +kernel
theorem dX9_best_49 : decode cX9_best 49 = .ok (.iaload, 1) := by decide +kernel
theorem dX9_best_50 : decode cX9_best 50 = .ok (.iconst 5, 1) := by decide +kernel
theorem dX9_best_51 : decode cX9_best 51 = .ok (.if_icmp .eq 7, 3) := by decide +kernel
theorem dX9_best_54 : decode cX9_best 54 = .ok (.iconst 1, 1) := by decide +kernel
theorem dX9_best_55 : decode cX9_best 55 = .ok (.goto 4, 3) := by decide +kernel
theorem dX9_best_58 : decode cX9_best 58 = .ok (.iconst 0, 1) := by decide +kernel
theorem dX9_best_59 : decode cX9_best 59 = .ok (.iconst 2, 1) := by decide +kernel
theorem dX9_best_60 : decode cX9_best 60 = .ok (.invokevirtual 207, 3) := by decide +kernel
theorem dX9_best_63 : decode cX9_best 63 = .ok (.ifCond .ne 5, 3) := by decide +kernel
theorem dX9_best_66 : decode cX9_best 66 = .ok (.iconst 0, 1) := by decide +kernel
theorem dX9_best_67 : decode cX9_best 67 = .ok (.ireturn, 1) := by decide +kernel
theorem dX9_best_68 : decode cX9_best 68 = .ok (.iconst 0, 1) := by decide +kernel
theorem dX9_best_69 : decode cX9_best 69 = .ok (.istore 5, 2) := by decide +kernel
theorem dX9_best_71 : decode cX9_best 71 = .ok (.iload 5, 2) := by decide +kernel
theorem dX9_best_73 : decode cX9_best 73 = .ok (.sipush 240, 3) := by decide +kernel
theorem dX9_best_76 : decode cX9_best 76 = .ok (.if_icmp .gt 17, 3) := by decide +kernel
theorem dX9_best_79 : decode cX9_best 79 = .ok (.aload_n 0, 1) := by decide +kernel
theorem dX9_best_80 : decode cX9_best 80 = .ok (.getfield 66, 3) := by decide +kernel
theorem dX9_best_83 : decode cX9_best 83 = .ok (.iload 5, 2) := by decide +kernel
theorem dX9_best_85 : decode cX9_best 85 = .ok (.iconst 0, 1) := by decide +kernel
theorem dX9_best_86 : decode cX9_best 86 = .ok (.iastore, 1) := by decide +kernel
theorem dX9_best_87 : decode cX9_best 87 = .ok (.iinc 5 1, 3) := by decide +kernel
theorem dX9_best_90 : decode cX9_best 90 = .ok (.goto (-19), 3) := by decide +kernel
theorem dX9_best_93 : decode cX9_best 93 = .ok (.iconst 0, 1) := by decide +kernel
theorem dX9_best_94 : decode cX9_best 94 = .ok (.istore 5, 2) := by decide +kernel
theorem dX9_best_96 : decode cX9_best 96 = .ok (.iload 5, 2) := by decide +kernel
theorem dX9_best_98 : decode cX9_best 98 = .ok (.sipush 365, 3) := by decide +kernel
theorem dX9_best_101 : decode cX9_best 101 = .ok (.if_icmp .ge 109, 3) := by decide +kernel
theorem dX9_best_104 : decode cX9_best 104 = .ok (.iconst 0, 1) := by decide +kernel
theorem dX9_best_105 : decode cX9_best 105 = .ok (.istore 6, 2) := by decide +kernel
theorem dX9_best_107 : decode cX9_best 107 = .ok (.iload 6, 2) := by decide +kernel
theorem dX9_best_109 : decode cX9_best 109 = .ok (.sipush 240, 3) := by decide +kernel
theorem dX9_best_112 : decode cX9_best 112 = .ok (.if_icmp .gt 92, 3) := by decide +kernel
theorem dX9_best_115 : decode cX9_best 115 = .ok (.aload_n 0, 1) := by decide +kernel
theorem dX9_best_116 : decode cX9_best 116 = .ok (.aload_n 0, 1) := by decide +kernel
theorem dX9_best_117 : decode cX9_best 117 = .ok (.getfield 13, 3) := by decide +kernel
theorem dX9_best_120 : decode cX9_best 120 = .ok (.iconst 5, 1) := by decide +kernel
theorem dX9_best_121 : decode cX9_best 121 = .ok (.iload_n 1, 1) := by decide +kernel
theorem dX9_best_122 : decode cX9_best 122 = .ok (.imul, 1) := by decide +kernel
theorem dX9_best_123 : decode cX9_best 123 = .ok (.iaload, 1) := by decide +kernel
theorem dX9_best_124 : decode cX9_best 124 = .ok (.iload 6, 2) := by decide +kernel
theorem dX9_best_126 : decode cX9_best 126 = .ok (.bipush 120, 2) := by decide +kernel
theorem dX9_best_128 : decode cX9_best 128 = .ok (.isub, 1) := by decide +kernel
theorem dX9_best_129 : decode cX9_best 129 = .ok (.aload_n 0, 1) := by decide +kernel
theorem dX9_best_130 : decode cX9_best 130 = .ok (.getfield 13, 3) := by decide +kernel
theorem dX9_best_133 : decode cX9_best 133 = .ok (.iconst 5, 1) := by decide +kernel
theorem dX9_best_134 : decode cX9_best 134 = .ok (.iload_n 1, 1) := by decide +kernel
theorem dX9_best_135 : decode cX9_best 135 = .ok (.imul, 1) := by decide +kernel
theorem dX9_best_136 : decode cX9_best 136 = .ok (.iconst 2, 1) := by decide +kernel
theorem dX9_best_137 : decode cX9_best 137 = .ok (.iadd, 1) := by decide +kernel
theorem dX9_best_138 : decode cX9_best 138 = .ok (.iaload, 1) := by decide +kernel
theorem dX9_best_139 : decode cX9_best 139 = .ok (.aload_n 0, 1) := by decide +kernel
theorem dX9_best_140 : decode cX9_best 140 = .ok (.getfield 13, 3) := by decide +kernel
theorem dX9_best_143 : decode cX9_best 143 = .ok (.iconst 5, 1) := by decide +kernel
theorem dX9_best_144 : decode cX9_best 144 = .ok (.iload_n 1, 1) := by decide +kernel
theorem dX9_best_145 : decode cX9_best 145 = .ok (.imul, 1) := by decide +kernel
theorem dX9_best_146 : decode cX9_best 146 = .ok (.iconst 3, 1) := by decide +kernel
theorem dX9_best_147 : decode cX9_best 147 = .ok (.iadd, 1) := by decide +kernel
theorem dX9_best_148 : decode cX9_best 148 = .ok (.iaload, 1) := by decide +kernel
theorem dX9_best_149 : decode cX9_best 149 = .ok (.aload_n 0, 1) := by decide +kernel
theorem dX9_best_150 : decode cX9_best 150 = .ok (.getfield 13, 3) := by decide +kernel
theorem dX9_best_153 : decode cX9_best 153 = .ok (.iconst 5, 1) := by decide +kernel
theorem dX9_best_154 : decode cX9_best 154 = .ok (.iload_n 1, 1) := by decide +kernel
theorem dX9_best_155 : decode cX9_best 155 = .ok (.imul, 1) := by decide +kernel
theorem dX9_best_156 : decode cX9_best 156 = .ok (.iconst 4, 1) := by decide +kernel
theorem dX9_best_157 : decode cX9_best 157 = .ok (.iadd, 1) := by decide +kernel
theorem dX9_best_158 : decode cX9_best 158 = .ok (.iaload, 1) := by decide +kernel
theorem dX9_best_159 : decode cX9_best 159 = .ok (.iload 5, 2) := by decide +kernel
theorem dX9_best_161 : decode cX9_best 161 = .ok (.iload_n 2, 1) := by decide +kernel
theorem dX9_best_162 : decode cX9_best 162 = .ok (.invokevirtual 271, 3) := by decide +kernel
theorem dX9_best_165 : decode cX9_best 165 = .ok (.istore 7, 2) := by decide +kernel
theorem dX9_best_167 : decode cX9_best 167 = .ok (.aload_n 0, 1) := by decide +kernel
theorem dX9_best_168 : decode cX9_best 168 = .ok (.getfield 66, 3) := by decide +kernel
theorem dX9_best_171 : decode cX9_best 171 = .ok (.iload 6, 2) := by decide +kernel
theorem dX9_best_173 : decode cX9_best 173 = .ok (.dup2, 1) := by decide +kernel
theorem dX9_best_174 : decode cX9_best 174 = .ok (.iaload, 1) := by decide +kernel
theorem dX9_best_175 : decode cX9_best 175 = .ok (.iload 7, 2) := by decide +kernel
theorem dX9_best_177 : decode cX9_best 177 = .ok (.iconst (-1), 1) := by decide +kernel
theorem dX9_best_178 : decode cX9_best 178 = .ok (.if_icmp .eq 17, 3) := by decide +kernel
theorem dX9_best_181 : decode cX9_best 181 = .ok (.iload 7, 2) := by decide +kernel
theorem dX9_best_183 : decode cX9_best 183 = .ok (.iload_n 2, 1) := by decide +kernel
theorem dX9_best_184 : decode cX9_best 184 = .ok (.invokestatic 307, 3) := by decide +kernel
theorem dX9_best_187 : decode cX9_best 187 = .ok (.iload_n 3, 1) := by decide +kernel
theorem dX9_best_188 : decode cX9_best 188 = .ok (.if_icmp .gt 7, 3) := by decide +kernel
theorem dX9_best_191 : decode cX9_best 191 = .ok (.iconst 1, 1) := by decide +kernel
theorem dX9_best_192 : decode cX9_best 192 = .ok (.goto 4, 3) := by decide +kernel
theorem dX9_best_195 : decode cX9_best 195 = .ok (.iconst 0, 1) := by decide +kernel
theorem dX9_best_196 : decode cX9_best 196 = .ok (.iadd, 1) := by decide +kernel
theorem dX9_best_197 : decode cX9_best 197 = .ok (.iastore, 1) := by decide +kernel
theorem dX9_best_198 : decode cX9_best 198 = .ok (.iinc 6 1, 3) := by decide +kernel
theorem dX9_best_201 : decode cX9_best 201 = .ok (.goto (-94), 3) := by decide +kernel
theorem dX9_best_204 : decode cX9_best 204 = .ok (.iinc 5 1, 3) := by decide +kernel
theorem dX9_best_207 : decode cX9_best 207 = .ok (.goto (-111), 3) := by decide +kernel
theorem dX9_best_210 : decode cX9_best 210 = .ok (.aload_n 0, 1) := by decide +kernel
theorem dX9_best_211 : decode cX9_best 211 = .ok (.getfield 13, 3) := by decide +kernel
theorem dX9_best_214 : decode cX9_best 214 = .ok (.iconst 5, 1) := by decide +kernel
theorem dX9_best_215 : decode cX9_best 215 = .ok (.iload_n 1, 1) := by decide +kernel
theorem dX9_best_216 : decode cX9_best 216 = .ok (.imul, 1) := by decide +kernel
theorem dX9_best_217 : decode cX9_best 217 = .ok (.iconst 1, 1) := by decide +kernel
theorem dX9_best_218 : decode cX9_best 218 = .ok (.iadd, 1) := by decide +kernel
theorem dX9_best_219 : decode cX9_best 219 = .ok (.iaload, 1) := by decide +kernel
theorem dX9_best_220 : decode cX9_best 220 = .ok (.bipush 120, 2) := by decide +kernel
theorem dX9_best_222 : decode cX9_best 222 = .ok (.iadd, 1) := by decide +kernel
theorem dX9_best_223 : decode cX9_best 223 = .ok (.istore 5, 2) := by decide +kernel
theorem dX9_best_225 : decode cX9_best 225 = .ok (.iconst 0, 1) := by decide +kernel
theorem dX9_best_226 : decode cX9_best 226 = .ok (.istore 6, 2) := by decide +kernel
theorem dX9_best_228 : decode cX9_best 228 = .ok (.iconst 1, 1) := by decide +kernel
theorem dX9_best_229 : decode cX9_best 229 = .ok (.istore 7, 2) := by decide +kernel
theorem dX9_best_231 : decode cX9_best 231 = .ok (.iload 7, 2) := by decide +kernel
theorem dX9_best_233 : decode cX9_best 233 = .ok (.sipush 240, 3) := by decide +kernel
theorem dX9_best_236 : decode cX9_best 236 = .ok (.if_icmp .gt 64, 3) := by decide +kernel
theorem dX9_best_239 : decode cX9_best 239 = .ok (.aload_n 0, 1) := by decide +kernel
theorem dX9_best_240 : decode cX9_best 240 = .ok (.getfield 66, 3) := by decide +kernel
theorem dX9_best_243 : decode cX9_best 243 = .ok (.iload 7, 2) := by decide +kernel
theorem dX9_best_245 : decode cX9_best 245 = .ok (.iaload, 1) := by decide +kernel
theorem dX9_best_246 : decode cX9_best 246 = .ok (.aload_n 0, 1) := by decide +kernel
theorem dX9_best_247 : decode cX9_best 247 = .ok (.getfield 66, 3) := by decide +kernel
theorem dX9_best_250 : decode cX9_best 250 = .ok (.iload 6, 2) := by decide +kernel
theorem dX9_best_252 : decode cX9_best 252 = .ok (.iaload, 1) := by decide +kernel
theorem dX9_best_253 : decode cX9_best 253 = .ok (.if_icmp .gt 37, 3) := by decide +kernel
theorem dX9_best_256 : decode cX9_best 256 = .ok (.aload_n 0, 1) := by decide +kernel
theorem dX9_best_257 : decode cX9_best 257 = .ok (.getfield 66, 3) := by decide +kernel
theorem dX9_best_260 : decode cX9_best 260 = .ok (.iload 7, 2) := by decide +kernel
theorem dX9_best_262 : decode cX9_best 262 = .ok (.iaload, 1) := by decide +kernel
theorem dX9_best_263 : decode cX9_best 263 = .ok (.aload_n 0, 1) := by decide +kernel
theorem dX9_best_264 : decode cX9_best 264 = .ok (.getfield 66, 3) := by decide +kernel
theorem dX9_best_267 : decode cX9_best 267 = .ok (.iload 6, 2) := by decide +kernel
theorem dX9_best_269 : decode cX9_best 269 = .ok (.iaload, 1) := by decide +kernel
theorem dX9_best_270 : decode cX9_best 270 = .ok (.if_icmp .ne 24, 3) := by decide +kernel
theorem dX9_best_273 : decode cX9_best 273 = .ok (.iload 7, 2) := by decide +kernel
theorem dX9_best_275 : decode cX9_best 275 = .ok (.iload 5, 2) := by decide +kernel
theorem dX9_best_277 : decode cX9_best 277 = .ok (.invokestatic 250, 3) := by decide +kernel
theorem dX9_best_280 : decode cX9_best 280 = .ok (.iload 6, 2) := by decide +kernel
theorem dX9_best_282 : decode cX9_best 282 = .ok (.iload 5, 2) := by decide +kernel
theorem dX9_best_284 : decode cX9_best 284 = .ok (.invokestatic 250, 3) := by decide +kernel
theorem dX9_best_287 : decode cX9_best 287 = .ok (.if_icmp .ge 7, 3) := by decide +kernel
theorem dX9_best_290 : decode cX9_best 290 = .ok (.iload 7, 2) := by decide +kernel
theorem dX9_best_292 : decode cX9_best 292 = .ok (.istore 6, 2) := by decide +kernel
theorem dX9_best_294 : decode cX9_best 294 = .ok (.iinc 7 1, 3) := by decide +kernel
theorem dX9_best_297 : decode cX9_best 297 = .ok (.goto (-66), 3) := by decide +kernel
theorem dX9_best_300 : decode cX9_best 300 = .ok (.iload 4, 2) := by decide +kernel
theorem dX9_best_302 : decode cX9_best 302 = .ok (.ifCond .ne 11, 3) := by decide +kernel
theorem dX9_best_305 : decode cX9_best 305 = .ok (.iload 6, 2) := by decide +kernel
theorem dX9_best_307 : decode cX9_best 307 = .ok (.bipush 120, 2) := by decide +kernel
theorem dX9_best_309 : decode cX9_best 309 = .ok (.isub, 1) := by decide +kernel
theorem dX9_best_310 : decode cX9_best 310 = .ok (.goto 10, 3) := by decide +kernel
theorem dX9_best_313 : decode cX9_best 313 = .ok (.aload_n 0, 1) := by decide +kernel
theorem dX9_best_314 : decode cX9_best 314 = .ok (.getfield 66, 3) := by decide +kernel
theorem dX9_best_317 : decode cX9_best 317 = .ok (.iload 6, 2) := by decide +kernel
theorem dX9_best_319 : decode cX9_best 319 = .ok (.iaload, 1) := by decide +kernel
theorem dX9_best_320 : decode cX9_best 320 = .ok (.ireturn, 1) := by decide +kernel
theorem dX9_yearOf_0 : decode cX9_yearOf 0 = .ok (.aload_n 0, 1) := by decide +kernel
theorem dX9_yearOf_1 : decode cX9_yearOf 1 = .ok (.iconst 0, 1) := by decide +kernel
theorem dX9_yearOf_2 : decode cX9_yearOf 2 = .ok (.putfield 310, 3) := by decide +kernel
theorem dX9_yearOf_5 : decode cX9_yearOf 5 = .ok (.aload_n 0, 1) := by decide +kernel
theorem dX9_yearOf_6 : decode cX9_yearOf 6 = .ok (.iconst 0, 1) := by decide +kernel
theorem dX9_yearOf_7 : decode cX9_yearOf 7 = .ok (.putfield 313, 3) := by decide +kernel
theorem dX9_yearOf_10 : decode cX9_yearOf 10 = .ok (.iconst 0, 1) := by decide +kernel
theorem dX9_yearOf_11 : decode cX9_yearOf 11 = .ok (.istore_n 3, 1) := by decide +kernel
theorem dX9_yearOf_12 : decode cX9_yearOf 12 = .ok (.iload_n 3, 1) := by decide +kernel
theorem dX9_yearOf_13 : decode cX9_yearOf 13 = .ok (.sipush 365, 3) := by decide +kernel
theorem dX9_yearOf_16 : decode cX9_yearOf 16 = .ok (.if_icmp .ge 52, 3) := by decide +kernel
theorem dX9_yearOf_19 : decode cX9_yearOf 19 = .ok (.aload_n 0, 1) := by decide +kernel
theorem dX9_yearOf_20 : decode cX9_yearOf 20 = .ok (.iload_n 1, 1) := by decide +kernel
theorem dX9_yearOf_21 : decode cX9_yearOf 21 = .ok (.iload_n 3, 1) := by decide +kernel
theorem dX9_yearOf_22 : decode cX9_yearOf 22 = .ok (.iload_n 2, 1) := by decide +kernel
theorem dX9_yearOf_23 : decode cX9_yearOf 23 = .ok (.invokevirtual 278, 3) := by decide +kernel
theorem dX9_yearOf_26 : decode cX9_yearOf 26 = .ok (.istore 4, 2) := by decide +kernel
theorem dX9_yearOf_28 : decode cX9_yearOf 28 = .ok (.iload 4, 2) := by decide +kernel
theorem dX9_yearOf_30 : decode cX9_yearOf 30 = .ok (.iconst (-1), 1) := by decide +kernel
theorem dX9_yearOf_31 : decode cX9_yearOf 31 = .ok (.if_icmp .ne 6, 3) := by decide +kernel
theorem dX9_yearOf_34 : decode cX9_yearOf 34 = .ok (.goto 28, 3) := by decide +kernel
theorem dX9_yearOf_37 : decode cX9_yearOf 37 = .ok (.aload_n 0, 1) := by decide +kernel
theorem dX9_yearOf_38 : decode cX9_yearOf 38 = .ok (.dup, 1) := by decide +kernel
theorem dX9_yearOf_39 : decode cX9_yearOf 39 = .ok (.getfield 310, 3) := by decide +kernel
theorem dX9_yearOf_42 : decode cX9_yearOf 42 = .ok (.iconst 1, 1) := by decide +kernel
theorem dX9_yearOf_43 : decode cX9_yearOf 43 = .ok (.iadd, 1) := by decide +kernel
theorem dX9_yearOf_44 : decode cX9_yearOf 44 = .ok (.putfield 310, 3) := by decide +kernel
theorem dX9_yearOf_47 : decode cX9_yearOf 47 = .ok (.aload_n 0, 1) := by decide +kernel
theorem dX9_yearOf_48 : decode cX9_yearOf 48 = .ok (.dup, 1) := by decide +kernel
theorem dX9_yearOf_49 : decode cX9_yearOf 49 = .ok (.getfield 313, 3) := by decide +kernel
theorem dX9_yearOf_52 : decode cX9_yearOf 52 = .ok (.iload 4, 2) := by decide +kernel
theorem dX9_yearOf_54 : decode cX9_yearOf 54 = .ok (.iload_n 2, 1) := by decide +kernel
theorem dX9_yearOf_55 : decode cX9_yearOf 55 = .ok (.invokestatic 307, 3) := by decide +kernel
theorem dX9_yearOf_58 : decode cX9_yearOf 58 = .ok (.iadd, 1) := by decide +kernel
theorem dX9_yearOf_59 : decode cX9_yearOf 59 = .ok (.putfield 313, 3) := by decide +kernel
theorem dX9_yearOf_62 : decode cX9_yearOf 62 = .ok (.iinc 3 1, 3) := by decide +kernel
theorem dX9_yearOf_65 : decode cX9_yearOf 65 = .ok (.goto (-53), 3) := by decide +kernel
theorem dX9_yearOf_68 : decode cX9_yearOf 68 = .ok (.return_, 1) := by decide +kernel
theorem dX9_year_0 : decode cX9_year 0 = .ok (.aload_n 0, 1) := by decide +kernel
theorem dX9_year_1 : decode cX9_year 1 = .ok (.iconst 0, 1) := by decide +kernel
theorem dX9_year_2 : decode cX9_year 2 = .ok (.putfield 102, 3) := by decide +kernel
theorem dX9_year_5 : decode cX9_year 5 = .ok (.aload_n 0, 1) := by decide +kernel
theorem dX9_year_6 : decode cX9_year 6 = .ok (.iload_n 1, 1) := by decide +kernel
theorem dX9_year_7 : decode cX9_year 7 = .ok (.invokevirtual 243, 3) := by decide +kernel
theorem dX9_year_10 : decode cX9_year 10 = .ok (.ifCond .eq 20, 3) := by decide +kernel
theorem dX9_year_13 : decode cX9_year 13 = .ok (.aload_n 0, 1) := by decide +kernel
theorem dX9_year_14 : decode cX9_year 14 = .ok (.iload_n 2, 1) := by decide +kernel
theorem dX9_year_15 : decode cX9_year 15 = .ok (.invokevirtual 275, 3) := by decide +kernel
theorem dX9_year_18 : decode cX9_year 18 = .ok (.ifCond .eq 12, 3) := by decide +kernel
theorem dX9_year_21 : decode cX9_year 21 = .ok (.aload_n 0, 1) := by decide +kernel
theorem dX9_year_22 : decode cX9_year 22 = .ok (.iload_n 3, 1) := by decide +kernel
theorem dX9_year_23 : decode cX9_year 23 = .ok (.iconst 1, 1) := by decide +kernel
theorem dX9_year_24 : decode cX9_year 24 = .ok (.invokevirtual 246, 3) := by decide +kernel
theorem dX9_year_27 : decode cX9_year 27 = .ok (.ifCond .ne 5, 3) := by decide +kernel
theorem dX9_year_30 : decode cX9_year 30 = .ok (.iconst 0, 1) := by decide +kernel
theorem dX9_year_31 : decode cX9_year 31 = .ok (.ireturn, 1) := by decide +kernel
theorem dX9_year_32 : decode cX9_year 32 = .ok (.aload_n 0, 1) := by decide +kernel
theorem dX9_year_33 : decode cX9_year 33 = .ok (.iload_n 1, 1) := by decide +kernel
theorem dX9_year_34 : decode cX9_year 34 = .ok (.iload_n 2, 1) := by decide +kernel
theorem dX9_year_35 : decode cX9_year 35 = .ok (.invokevirtual 316, 3) := by decide +kernel
theorem dX9_year_38 : decode cX9_year 38 = .ok (.iload_n 3, 1) := by decide +kernel
theorem dX9_year_39 : decode cX9_year 39 = .ok (.ifCond .ne 10, 3) := by decide +kernel
theorem dX9_year_42 : decode cX9_year 42 = .ok (.aload_n 0, 1) := by decide +kernel
theorem dX9_year_43 : decode cX9_year 43 = .ok (.getfield 310, 3) := by decide +kernel
theorem dX9_year_46 : decode cX9_year 46 = .ok (.goto 7, 3) := by decide +kernel
theorem dX9_year_49 : decode cX9_year 49 = .ok (.aload_n 0, 1) := by decide +kernel
theorem dX9_year_50 : decode cX9_year 50 = .ok (.getfield 313, 3) := by decide +kernel
theorem dX9_year_53 : decode cX9_year 53 = .ok (.ireturn, 1) := by decide +kernel
theorem dX9_live_0 : decode cX9_live 0 = .ok (.aload_n 0, 1) := by decide +kernel
theorem dX9_live_1 : decode cX9_live 1 = .ok (.iconst 0, 1) := by decide +kernel
theorem dX9_live_2 : decode cX9_live 2 = .ok (.putfield 102, 3) := by decide +kernel
theorem dX9_live_5 : decode cX9_live 5 = .ok (.aload_n 0, 1) := by decide +kernel
theorem dX9_live_6 : decode cX9_live 6 = .ok (.iload_n 1, 1) := by decide +kernel
theorem dX9_live_7 : decode cX9_live 7 = .ok (.invokevirtual 275, 3) := by decide +kernel
theorem dX9_live_10 : decode cX9_live 10 = .ok (.ifCond .ne 5, 3) := by decide +kernel
theorem dX9_live_13 : decode cX9_live 13 = .ok (.iconst 0, 1) := by decide +kernel
theorem dX9_live_14 : decode cX9_live 14 = .ok (.ireturn, 1) := by decide +kernel
theorem dX9_live_15 : decode cX9_live 15 = .ok (.iconst (-1), 1) := by decide +kernel
theorem dX9_live_16 : decode cX9_live 16 = .ok (.istore_n 2, 1) := by decide +kernel
theorem dX9_live_17 : decode cX9_live 17 = .ok (.iconst 0, 1) := by decide +kernel
theorem dX9_live_18 : decode cX9_live 18 = .ok (.istore_n 3, 1) := by decide +kernel
theorem dX9_live_19 : decode cX9_live 19 = .ok (.iconst 0, 1) := by decide +kernel
theorem dX9_live_20 : decode cX9_live 20 = .ok (.istore 4, 2) := by decide +kernel
theorem dX9_live_22 : decode cX9_live 22 = .ok (.iconst 0, 1) := by decide +kernel
theorem dX9_live_23 : decode cX9_live 23 = .ok (.istore 5, 2) := by decide +kernel
theorem dX9_live_25 : decode cX9_live 25 = .ok (.iload 5, 2) := by decide +kernel
theorem dX9_live_27 : decode cX9_live 27 = .ok (.aload_n 0, 1) := by decide +kernel
theorem dX9_live_28 : decode cX9_live 28 = .ok (.getfield 214, 3) := by decide +kernel
theorem dX9_live_31 : decode cX9_live 31 = .ok (.if_icmp .ge 63, 3) := by decide +kernel
theorem dX9_live_34 : decode cX9_live 34 = .ok (.aload_n 0, 1) := by decide +kernel
theorem dX9_live_35 : decode cX9_live 35 = .ok (.iload 5, 2) := by decide +kernel
theorem dX9_live_37 : decode cX9_live 37 = .ok (.iload_n 1, 1) := by decide +kernel
theorem dX9_live_38 : decode cX9_live 38 = .ok (.invokevirtual 316, 3) := by decide +kernel
theorem dX9_live_41 : decode cX9_live 41 = .ok (.iload_n 2, 1) := by decide +kernel
theorem dX9_live_42 : decode cX9_live 42 = .ok (.iconst (-1), 1) := by decide +kernel
theorem dX9_live_43 : decode cX9_live 43 = .ok (.if_icmp .eq 31, 3) := by decide +kernel
theorem dX9_live_46 : decode cX9_live 46 = .ok (.aload_n 0, 1) := by decide +kernel
theorem dX9_live_47 : decode cX9_live 47 = .ok (.getfield 310, 3) := by decide +kernel
theorem dX9_live_50 : decode cX9_live 50 = .ok (.iload_n 3, 1) := by decide +kernel
theorem dX9_live_51 : decode cX9_live 51 = .ok (.if_icmp .lt 37, 3) := by decide +kernel
theorem dX9_live_54 : decode cX9_live 54 = .ok (.aload_n 0, 1) := by decide +kernel
theorem dX9_live_55 : decode cX9_live 55 = .ok (.getfield 310, 3) := by decide +kernel
theorem dX9_live_58 : decode cX9_live 58 = .ok (.iload_n 3, 1) := by decide +kernel
theorem dX9_live_59 : decode cX9_live 59 = .ok (.if_icmp .ne 15, 3) := by decide +kernel
theorem dX9_live_62 : decode cX9_live 62 = .ok (.aload_n 0, 1) := by decide +kernel
theorem dX9_live_63 : decode cX9_live 63 = .ok (.getfield 313, 3) := by decide +kernel
theorem dX9_live_66 : decode cX9_live 66 = .ok (.iload 4, 2) := by decide +kernel
theorem dX9_live_68 : decode cX9_live 68 = .ok (.if_icmp .lt 6, 3) := by decide +kernel
theorem dX9_live_71 : decode cX9_live 71 = .ok (.goto 17, 3) := by decide +kernel
theorem dX9_live_74 : decode cX9_live 74 = .ok (.iload 5, 2) := by decide +kernel
theorem dX9_live_76 : decode cX9_live 76 = .ok (.istore_n 2, 1) := by decide +kernel
theorem dX9_live_77 : decode cX9_live 77 = .ok (.aload_n 0, 1) := by decide +kernel
theorem dX9_live_78 : decode cX9_live 78 = .ok (.getfield 310, 3) := by decide +kernel
theorem dX9_live_81 : decode cX9_live 81 = .ok (.istore_n 3, 1) := by decide +kernel
theorem dX9_live_82 : decode cX9_live 82 = .ok (.aload_n 0, 1) := by decide +kernel
theorem dX9_live_83 : decode cX9_live 83 = .ok (.getfield 313, 3) := by decide +kernel
theorem dX9_live_86 : decode cX9_live 86 = .ok (.istore 4, 2) := by decide +kernel
theorem dX9_live_88 : decode cX9_live 88 = .ok (.iinc 5 1, 3) := by decide +kernel
theorem dX9_live_91 : decode cX9_live 91 = .ok (.goto (-66), 3) := by decide +kernel
theorem dX9_live_94 : decode cX9_live 94 = .ok (.iload_n 2, 1) := by decide +kernel
theorem dX9_live_95 : decode cX9_live 95 = .ok (.ireturn, 1) := by decide +kernel
theorem dX9_middle_0 : decode cX9_middle 0 = .ok (.aload_n 0, 1) := by decide +kernel
theorem dX9_middle_1 : decode cX9_middle 1 = .ok (.iconst 0, 1) := by decide +kernel
theorem dX9_middle_2 : decode cX9_middle 2 = .ok (.putfield 102, 3) := by decide +kernel
theorem dX9_middle_5 : decode cX9_middle 5 = .ok (.aload_n 0, 1) := by decide +kernel
theorem dX9_middle_6 : decode cX9_middle 6 = .ok (.iload_n 2, 1) := by decide +kernel
theorem dX9_middle_7 : decode cX9_middle 7 = .ok (.invokevirtual 259, 3) := by decide +kernel
theorem dX9_middle_10 : decode cX9_middle 10 = .ok (.ifCond .eq 48, 3) := by decide +kernel
theorem dX9_middle_13 : decode cX9_middle 13 = .ok (.aload_n 0, 1) := by decide +kernel
theorem dX9_middle_14 : decode cX9_middle 14 = .ok (.iload_n 3, 1) := by decide +kernel
theorem dX9_middle_15 : decode cX9_middle 15 = .ok (.invokevirtual 275, 3) := by decide +kernel
theorem dX9_middle_18 : decode cX9_middle 18 = .ok (.ifCond .eq 40, 3) := by decide +kernel
theorem dX9_middle_21 : decode cX9_middle 21 = .ok (.aload_n 0, 1) := by decide +kernel
theorem dX9_middle_22 : decode cX9_middle 22 = .ok (.iload_n 1, 1) := by decide +kernel
theorem dX9_middle_23 : decode cX9_middle 23 = .ok (.ifCond .lt 17, 3) := by decide +kernel
theorem dX9_middle_26 : decode cX9_middle 26 = .ok (.iload_n 1, 1) := by decide +kernel
theorem dX9_middle_27 : decode cX9_middle 27 = .ok (.iconst 1, 1) := by decide +kernel
theorem dX9_middle_28 : decode cX9_middle 28 = .ok (.aload_n 0, 1) := by decide +kernel
theorem dX9_middle_29 : decode cX9_middle 29 = .ok (.getfield 214, 3) := by decide +kernel
theorem dX9_middle_32 : decode cX9_middle 32 = .ok (.ishl, 1) := by decide +kernel
theorem dX9_middle_33 : decode cX9_middle 33 = .ok (.if_icmp .ge 7, 3) := by decide +kernel
theorem dX9_middle_36 : decode cX9_middle 36 = .ok (.iconst 1, 1) := by decide +kernel
theorem dX9_middle_37 : decode cX9_middle 37 = .ok (.goto 4, 3) := by decide +kernel
theorem dX9_middle_40 : decode cX9_middle 40 = .ok (.iconst 0, 1) := by decide +kernel
theorem dX9_middle_41 : decode cX9_middle 41 = .ok (.iconst 2, 1) := by decide +kernel
theorem dX9_middle_42 : decode cX9_middle 42 = .ok (.invokevirtual 207, 3) := by decide +kernel
theorem dX9_middle_45 : decode cX9_middle 45 = .ok (.ifCond .eq 13, 3) := by decide +kernel
theorem dX9_middle_48 : decode cX9_middle 48 = .ok (.aload_n 0, 1) := by decide +kernel
theorem dX9_middle_49 : decode cX9_middle 49 = .ok (.iload_n 1, 1) := by decide +kernel
theorem dX9_middle_50 : decode cX9_middle 50 = .ok (.iload_n 2, 1) := by decide +kernel
theorem dX9_middle_51 : decode cX9_middle 51 = .ok (.iload_n 3, 1) := by decide +kernel
theorem dX9_middle_52 : decode cX9_middle 52 = .ok (.invokevirtual 320, 3) := by decide +kernel
theorem dX9_middle_55 : decode cX9_middle 55 = .ok (.goto 4, 3) := by decide +kernel
theorem dX9_middle_58 : decode cX9_middle 58 = .ok (.iconst 0, 1) := by decide +kernel
theorem dX9_middle_59 : decode cX9_middle 59 = .ok (.ireturn, 1) := by decide +kernel
theorem dX9_middleOf_0 : decode cX9_middleOf 0 = .ok (.iconst 0, 1) := by decide +kernel
theorem dX9_middleOf_1 : decode cX9_middleOf 1 = .ok (.istore 4, 2) := by decide +kernel
theorem dX9_middleOf_3 : decode cX9_middleOf 3 = .ok (.iconst 0, 1) := by decide +kernel
theorem dX9_middleOf_4 : decode cX9_middleOf 4 = .ok (.istore 5, 2) := by decide +kernel
theorem dX9_middleOf_6 : decode cX9_middleOf 6 = .ok (.iload 5, 2) := by decide +kernel
theorem dX9_middleOf_8 : decode cX9_middleOf 8 = .ok (.aload_n 0, 1) := by decide +kernel
theorem dX9_middleOf_9 : decode cX9_middleOf 9 = .ok (.getfield 214, 3) := by decide +kernel
theorem dX9_middleOf_12 : decode cX9_middleOf 12 = .ok (.if_icmp .ge 99, 3) := by decide +kernel
theorem dX9_middleOf_15 : decode cX9_middleOf 15 = .ok (.iload_n 1, 1) := by decide +kernel
theorem dX9_middleOf_16 : decode cX9_middleOf 16 = .ok (.iload 5, 2) := by decide +kernel
theorem dX9_middleOf_18 : decode cX9_middleOf 18 = .ok (.ishr, 1) := by decide +kernel
theorem dX9_middleOf_19 : decode cX9_middleOf 19 = .ok (.iconst 1, 1) := by decide +kernel
theorem dX9_middleOf_20 : decode cX9_middleOf 20 = .ok (.iand, 1) := by decide +kernel
theorem dX9_middleOf_21 : decode cX9_middleOf 21 = .ok (.iconst 1, 1) := by decide +kernel
theorem dX9_middleOf_22 : decode cX9_middleOf 22 = .ok (.if_icmp .ne 14, 3) := by decide +kernel
theorem dX9_middleOf_25 : decode cX9_middleOf 25 = .ok (.aload_n 0, 1) := by decide +kernel
theorem dX9_middleOf_26 : decode cX9_middleOf 26 = .ok (.iload 5, 2) := by decide +kernel
theorem dX9_middleOf_28 : decode cX9_middleOf 28 = .ok (.iload_n 2, 1) := by decide +kernel
theorem dX9_middleOf_29 : decode cX9_middleOf 29 = .ok (.iload_n 3, 1) := by decide +kernel
theorem dX9_middleOf_30 : decode cX9_middleOf 30 = .ok (.invokevirtual 278, 3) := by decide +kernel
theorem dX9_middleOf_33 : decode cX9_middleOf 33 = .ok (.goto 4, 3) := by decide +kernel
theorem dX9_middleOf_36 : decode cX9_middleOf 36 = .ok (.iconst (-1), 1) := by decide +kernel
theorem dX9_middleOf_37 : decode cX9_middleOf 37 = .ok (.istore 6, 2) := by decide +kernel
theorem dX9_middleOf_39 : decode cX9_middleOf 39 = .ok (.iload 6, 2) := by decide +kernel
theorem dX9_middleOf_41 : decode cX9_middleOf 41 = .ok (.iconst (-1), 1) := by decide +kernel
theorem dX9_middleOf_42 : decode cX9_middleOf 42 = .ok (.if_icmp .ne 6, 3) := by decide +kernel
theorem dX9_middleOf_45 : decode cX9_middleOf 45 = .ok (.goto 60, 3) := by decide +kernel
theorem dX9_middleOf_48 : decode cX9_middleOf 48 = .ok (.iload 4, 2) := by decide +kernel
theorem dX9_middleOf_50 : decode cX9_middleOf 50 = .ok (.istore 7, 2) := by decide +kernel
theorem dX9_middleOf_52 : decode cX9_middleOf 52 = .ok (.iload 7, 2) := by decide +kernel
theorem dX9_middleOf_54 : decode cX9_middleOf 54 = .ok (.ifCond .le 39, 3) := by decide +kernel
theorem dX9_middleOf_57 : decode cX9_middleOf 57 = .ok (.aload_n 0, 1) := by decide +kernel
theorem dX9_middleOf_58 : decode cX9_middleOf 58 = .ok (.getfield 69, 3) := by decide +kernel
theorem dX9_middleOf_61 : decode cX9_middleOf 61 = .ok (.iload 7, 2) := by decide +kernel
theorem dX9_middleOf_63 : decode cX9_middleOf 63 = .ok (.iconst 1, 1) := by decide +kernel
theorem dX9_middleOf_64 : decode cX9_middleOf 64 = .ok (.isub, 1) := by decide +kernel
theorem dX9_middleOf_65 : decode cX9_middleOf 65 = .ok (.iaload, 1) := by decide +kernel
theorem dX9_middleOf_66 : decode cX9_middleOf 66 = .ok (.iload 6, 2) := by decide +kernel
theorem dX9_middleOf_68 : decode cX9_middleOf 68 = .ok (.if_icmp .le 25, 3) := by decide +kernel
theorem dX9_middleOf_71 : decode cX9_middleOf 71 = .ok (.aload_n 0, 1) := by decide +kernel
theorem dX9_middleOf_72 : decode cX9_middleOf 72 = .ok (.getfield 69, 3) := by decide +kernel
theorem dX9_middleOf_75 : decode cX9_middleOf 75 = .ok (.iload 7, 2) := by decide +kernel
theorem dX9_middleOf_77 : decode cX9_middleOf 77 = .ok (.aload_n 0, 1) := by decide +kernel
theorem dX9_middleOf_78 : decode cX9_middleOf 78 = .ok (.getfield 69, 3) := by decide +kernel
theorem dX9_middleOf_81 : decode cX9_middleOf 81 = .ok (.iload 7, 2) := by decide +kernel
theorem dX9_middleOf_83 : decode cX9_middleOf 83 = .ok (.iconst 1, 1) := by decide +kernel
theorem dX9_middleOf_84 : decode cX9_middleOf 84 = .ok (.isub, 1) := by decide +kernel
theorem dX9_middleOf_85 : decode cX9_middleOf 85 = .ok (.iaload, 1) := by decide +kernel
theorem dX9_middleOf_86 : decode cX9_middleOf 86 = .ok (.iastore, 1) := by decide +kernel
theorem dX9_middleOf_87 : decode cX9_middleOf 87 = .ok (.iinc 7 (-1), 3) := by decide +kernel
theorem dX9_middleOf_90 : decode cX9_middleOf 90 = .ok (.goto (-38), 3) := by decide +kernel
theorem dX9_middleOf_93 : decode cX9_middleOf 93 = .ok (.aload_n 0, 1) := by decide +kernel
theorem dX9_middleOf_94 : decode cX9_middleOf 94 = .ok (.getfield 69, 3) := by decide +kernel
theorem dX9_middleOf_97 : decode cX9_middleOf 97 = .ok (.iload 7, 2) := by decide +kernel
theorem dX9_middleOf_99 : decode cX9_middleOf 99 = .ok (.iload 6, 2) := by decide +kernel
theorem dX9_middleOf_101 : decode cX9_middleOf 101 = .ok (.iastore, 1) := by decide +kernel
theorem dX9_middleOf_102 : decode cX9_middleOf 102 = .ok (.iinc 4 1, 3) := by decide +kernel
theorem dX9_middleOf_105 : decode cX9_middleOf 105 = .ok (.iinc 5 1, 3) := by decide +kernel
theorem dX9_middleOf_108 : decode cX9_middleOf 108 = .ok (.goto (-102), 3) := by decide +kernel
theorem dX9_middleOf_111 : decode cX9_middleOf 111 = .ok (.iload 4, 2) := by decide +kernel
theorem dX9_middleOf_113 : decode cX9_middleOf 113 = .ok (.ifCond .ne 7, 3) := by decide +kernel
theorem dX9_middleOf_116 : decode cX9_middleOf 116 = .ok (.iconst (-1), 1) := by decide +kernel
theorem dX9_middleOf_117 : decode cX9_middleOf 117 = .ok (.goto 12, 3) := by decide +kernel
theorem dX9_middleOf_120 : decode cX9_middleOf 120 = .ok (.aload_n 0, 1) := by decide +kernel
theorem dX9_middleOf_121 : decode cX9_middleOf 121 = .ok (.getfield 69, 3) := by decide +kernel
theorem dX9_middleOf_124 : decode cX9_middleOf 124 = .ok (.iload 4, 2) := by decide +kernel
theorem dX9_middleOf_126 : decode cX9_middleOf 126 = .ok (.iconst 2, 1) := by decide +kernel
theorem dX9_middleOf_127 : decode cX9_middleOf 127 = .ok (.idiv, 1) := by decide +kernel
theorem dX9_middleOf_128 : decode cX9_middleOf 128 = .ok (.iaload, 1) := by decide +kernel
theorem dX9_middleOf_129 : decode cX9_middleOf 129 = .ok (.ireturn, 1) := by decide +kernel
theorem dX9_together_0 : decode cX9_together 0 = .ok (.aload_n 0, 1) := by decide +kernel
theorem dX9_together_1 : decode cX9_together 1 = .ok (.iconst 0, 1) := by decide +kernel
theorem dX9_together_2 : decode cX9_together 2 = .ok (.putfield 102, 3) := by decide +kernel
theorem dX9_together_5 : decode cX9_together 5 = .ok (.aload_n 0, 1) := by decide +kernel
theorem dX9_together_6 : decode cX9_together 6 = .ok (.iload_n 1, 1) := by decide +kernel
theorem dX9_together_7 : decode cX9_together 7 = .ok (.invokevirtual 259, 3) := by decide +kernel
theorem dX9_together_10 : decode cX9_together 10 = .ok (.ifCond .eq 12, 3) := by decide +kernel
theorem dX9_together_13 : decode cX9_together 13 = .ok (.aload_n 0, 1) := by decide +kernel
theorem dX9_together_14 : decode cX9_together 14 = .ok (.iload_n 2, 1) := by decide +kernel
theorem dX9_together_15 : decode cX9_together 15 = .ok (.iconst 1, 1) := by decide +kernel
theorem dX9_together_16 : decode cX9_together 16 = .ok (.invokevirtual 246, 3) := by decide +kernel
theorem dX9_together_19 : decode cX9_together 19 = .ok (.ifCond .ne 5, 3) := by decide +kernel
theorem dX9_together_22 : decode cX9_together 22 = .ok (.iconst 0, 1) := by decide +kernel
theorem dX9_together_23 : decode cX9_together 23 = .ok (.ireturn, 1) := by decide +kernel
theorem dX9_together_24 : decode cX9_together 24 = .ok (.iconst (-1), 1) := by decide +kernel
theorem dX9_together_25 : decode cX9_together 25 = .ok (.istore_n 3, 1) := by decide +kernel
theorem dX9_together_26 : decode cX9_together 26 = .ok (.iconst 0, 1) := by decide +kernel
theorem dX9_together_27 : decode cX9_together 27 = .ok (.istore 4, 2) := by decide +kernel
theorem dX9_together_29 : decode cX9_together 29 = .ok (.iconst 0, 1) := by decide +kernel
theorem dX9_together_30 : decode cX9_together 30 = .ok (.istore 5, 2) := by decide +kernel
theorem dX9_together_32 : decode cX9_together 32 = .ok (.iload 5, 2) := by decide +kernel
theorem dX9_together_34 : decode cX9_together 34 = .ok (.aload_n 0, 1) := by decide +kernel
theorem dX9_together_35 : decode cX9_together 35 = .ok (.getfield 214, 3) := by decide +kernel
theorem dX9_together_38 : decode cX9_together 38 = .ok (.if_icmp .ge 114, 3) := by decide +kernel
theorem dX9_together_41 : decode cX9_together 41 = .ok (.iload 5, 2) := by decide +kernel
theorem dX9_together_43 : decode cX9_together 43 = .ok (.iconst 1, 1) := by decide +kernel
theorem dX9_together_44 : decode cX9_together 44 = .ok (.iadd, 1) := by decide +kernel
theorem dX9_together_45 : decode cX9_together 45 = .ok (.istore 6, 2) := by decide +kernel
theorem dX9_together_47 : decode cX9_together 47 = .ok (.iload 6, 2) := by decide +kernel
theorem dX9_together_49 : decode cX9_together 49 = .ok (.aload_n 0, 1) := by decide +kernel
theorem dX9_together_50 : decode cX9_together 50 = .ok (.getfield 214, 3) := by decide +kernel
theorem dX9_together_53 : decode cX9_together 53 = .ok (.if_icmp .ge 93, 3) := by decide +kernel
theorem dX9_together_56 : decode cX9_together 56 = .ok (.iconst 0, 1) := by decide +kernel
theorem dX9_together_57 : decode cX9_together 57 = .ok (.istore 7, 2) := by decide +kernel
theorem dX9_together_59 : decode cX9_together 59 = .ok (.iconst 0, 1) := by decide +kernel
theorem dX9_together_60 : decode cX9_together 60 = .ok (.istore 8, 2) := by decide +kernel
theorem dX9_together_62 : decode cX9_together 62 = .ok (.iload 8, 2) := by decide +kernel
theorem dX9_together_64 : decode cX9_together 64 = .ok (.sipush 1440, 3) := by decide +kernel
theorem dX9_together_67 : decode cX9_together 67 = .ok (.if_icmp .ge 45, 3) := by decide +kernel
theorem dX9_together_70 : decode cX9_together 70 = .ok (.iload 7, 2) := by decide +kernel
theorem dX9_together_72 : decode cX9_together 72 = .ok (.aload_n 0, 1) := by decide +kernel
theorem dX9_together_73 : decode cX9_together 73 = .ok (.iload 5, 2) := by decide +kernel
theorem dX9_together_75 : decode cX9_together 75 = .ok (.iload_n 1, 1) := by decide +kernel
theorem dX9_together_76 : decode cX9_together 76 = .ok (.iload 8, 2) := by decide +kernel
theorem dX9_together_78 : decode cX9_together 78 = .ok (.invokevirtual 278, 3) := by decide +kernel
theorem dX9_together_81 : decode cX9_together 81 = .ok (.iconst (-1), 1) := by decide +kernel
theorem dX9_together_82 : decode cX9_together 82 = .ok (.if_icmp .eq 20, 3) := by decide +kernel
theorem dX9_together_85 : decode cX9_together 85 = .ok (.aload_n 0, 1) := by decide +kernel
theorem dX9_together_86 : decode cX9_together 86 = .ok (.iload 6, 2) := by decide +kernel
theorem dX9_together_88 : decode cX9_together 88 = .ok (.iload_n 1, 1) := by decide +kernel
theorem dX9_together_89 : decode cX9_together 89 = .ok (.iload 8, 2) := by decide +kernel
theorem dX9_together_91 : decode cX9_together 91 = .ok (.invokevirtual 278, 3) := by decide +kernel
theorem dX9_together_94 : decode cX9_together 94 = .ok (.iconst (-1), 1) := by decide +kernel
theorem dX9_together_95 : decode cX9_together 95 = .ok (.if_icmp .eq 7, 3) := by decide +kernel
theorem dX9_together_98 : decode cX9_together 98 = .ok (.iconst 1, 1) := by decide +kernel
theorem dX9_together_99 : decode cX9_together 99 = .ok (.goto 4, 3) := by decide +kernel
theorem dX9_together_102 : decode cX9_together 102 = .ok (.iconst 0, 1) := by decide +kernel
theorem dX9_together_103 : decode cX9_together 103 = .ok (.iadd, 1) := by decide +kernel
theorem dX9_together_104 : decode cX9_together 104 = .ok (.istore 7, 2) := by decide +kernel
theorem dX9_together_106 : decode cX9_together 106 = .ok (.iinc 8 1, 3) := by decide +kernel
theorem dX9_together_109 : decode cX9_together 109 = .ok (.goto (-47), 3) := by decide +kernel
theorem dX9_together_112 : decode cX9_together 112 = .ok (.iload_n 3, 1) := by decide +kernel
theorem dX9_together_113 : decode cX9_together 113 = .ok (.iconst (-1), 1) := by decide +kernel
theorem dX9_together_114 : decode cX9_together 114 = .ok (.if_icmp .eq 13, 3) := by decide +kernel
theorem dX9_together_117 : decode cX9_together 117 = .ok (.iload 7, 2) := by decide +kernel
theorem dX9_together_119 : decode cX9_together 119 = .ok (.iload 4, 2) := by decide +kernel
theorem dX9_together_121 : decode cX9_together 121 = .ok (.if_icmp .gt 6, 3) := by decide +kernel
theorem dX9_together_124 : decode cX9_together 124 = .ok (.goto 16, 3) := by decide +kernel
theorem dX9_together_127 : decode cX9_together 127 = .ok (.bipush 10, 2) := by decide +kernel
theorem dX9_together_129 : decode cX9_together 129 = .ok (.iload 5, 2) := by decide +kernel
theorem dX9_together_131 : decode cX9_together 131 = .ok (.imul, 1) := by decide +kernel
theorem dX9_together_132 : decode cX9_together 132 = .ok (.iload 6, 2) := by decide +kernel
theorem dX9_together_134 : decode cX9_together 134 = .ok (.iadd, 1) := by decide +kernel
theorem dX9_together_135 : decode cX9_together 135 = .ok (.istore_n 3, 1) := by decide +kernel
theorem dX9_together_136 : decode cX9_together 136 = .ok (.iload 7, 2) := by decide +kernel
theorem dX9_together_138 : decode cX9_together 138 = .ok (.istore 4, 2) := by decide +kernel
theorem dX9_together_140 : decode cX9_together 140 = .ok (.iinc 6 1, 3) := by decide +kernel
theorem dX9_together_143 : decode cX9_together 143 = .ok (.goto (-96), 3) := by decide +kernel
theorem dX9_together_146 : decode cX9_together 146 = .ok (.iinc 5 1, 3) := by decide +kernel
theorem dX9_together_149 : decode cX9_together 149 = .ok (.goto (-117), 3) := by decide +kernel
theorem dX9_together_152 : decode cX9_together 152 = .ok (.iload_n 2, 1) := by decide +kernel
theorem dX9_together_153 : decode cX9_together 153 = .ok (.ifCond .ne 7, 3) := by decide +kernel
theorem dX9_together_156 : decode cX9_together 156 = .ok (.iload_n 3, 1) := by decide +kernel
theorem dX9_together_157 : decode cX9_together 157 = .ok (.goto 5, 3) := by decide +kernel
theorem dX9_together_160 : decode cX9_together 160 = .ok (.iload 4, 2) := by decide +kernel
theorem dX9_together_162 : decode cX9_together 162 = .ok (.ireturn, 1) := by decide +kernel
theorem dX9_takes_0 : decode cX9_takes 0 = .ok (.aload_n 0, 1) := by decide +kernel
theorem dX9_takes_1 : decode cX9_takes 1 = .ok (.iconst 0, 1) := by decide +kernel
theorem dX9_takes_2 : decode cX9_takes 2 = .ok (.putfield 102, 3) := by decide +kernel
theorem dX9_takes_5 : decode cX9_takes 5 = .ok (.aload_n 0, 1) := by decide +kernel
theorem dX9_takes_6 : decode cX9_takes 6 = .ok (.iload_n 1, 1) := by decide +kernel
theorem dX9_takes_7 : decode cX9_takes 7 = .ok (.invokevirtual 243, 3) := by decide +kernel
theorem dX9_takes_10 : decode cX9_takes 10 = .ok (.ifCond .eq 11, 3) := by decide +kernel
theorem dX9_takes_13 : decode cX9_takes 13 = .ok (.aload_n 0, 1) := by decide +kernel
theorem dX9_takes_14 : decode cX9_takes 14 = .ok (.iload_n 2, 1) := by decide +kernel
theorem dX9_takes_15 : decode cX9_takes 15 = .ok (.invokevirtual 259, 3) := by decide +kernel
theorem dX9_takes_18 : decode cX9_takes 18 = .ok (.ifCond .ne 5, 3) := by decide +kernel
theorem dX9_takes_21 : decode cX9_takes 21 = .ok (.iconst 0, 1) := by decide +kernel
theorem dX9_takes_22 : decode cX9_takes 22 = .ok (.ireturn, 1) := by decide +kernel
theorem dX9_takes_23 : decode cX9_takes 23 = .ok (.aload_n 0, 1) := by decide +kernel
theorem dX9_takes_24 : decode cX9_takes 24 = .ok (.getfield 13, 3) := by decide +kernel
theorem dX9_takes_27 : decode cX9_takes 27 = .ok (.iconst 5, 1) := by decide +kernel
theorem dX9_takes_28 : decode cX9_takes 28 = .ok (.iload_n 1, 1) := by decide +kernel
theorem dX9_takes_29 : decode cX9_takes 29 = .ok (.imul, 1) := by decide +kernel
theorem dX9_takes_30 : decode cX9_takes 30 = .ok (.iaload, 1) := by decide +kernel
theorem dX9_takes_31 : decode cX9_takes 31 = .ok (.iconst 5, 1) := by decide +kernel
theorem dX9_takes_32 : decode cX9_takes 32 = .ok (.if_icmp .ne 5, 3) := by decide +kernel
theorem dX9_takes_35 : decode cX9_takes 35 = .ok (.iconst 0, 1) := by decide +kernel
theorem dX9_takes_36 : decode cX9_takes 36 = .ok (.ireturn, 1) := by decide +kernel
theorem dX9_takes_37 : decode cX9_takes 37 = .ok (.iconst 0, 1) := by decide +kernel
theorem dX9_takes_38 : decode cX9_takes 38 = .ok (.istore_n 3, 1) := by decide +kernel
theorem dX9_takes_39 : decode cX9_takes 39 = .ok (.iload_n 2, 1) := by decide +kernel
theorem dX9_takes_40 : decode cX9_takes 40 = .ok (.istore 4, 2) := by decide +kernel
theorem dX9_takes_42 : decode cX9_takes 42 = .ok (.iload 4, 2) := by decide +kernel
theorem dX9_takes_44 : decode cX9_takes 44 = .ok (.sipush 365, 3) := by decide +kernel
theorem dX9_takes_47 : decode cX9_takes 47 = .ok (.if_icmp .ge 47, 3) := by decide +kernel
theorem dX9_takes_50 : decode cX9_takes 50 = .ok (.iconst 0, 1) := by decide +kernel
theorem dX9_takes_51 : decode cX9_takes 51 = .ok (.istore 5, 2) := by decide +kernel
theorem dX9_takes_53 : decode cX9_takes 53 = .ok (.iload 5, 2) := by decide +kernel
theorem dX9_takes_55 : decode cX9_takes 55 = .ok (.sipush 1440, 3) := by decide +kernel
theorem dX9_takes_58 : decode cX9_takes 58 = .ok (.if_icmp .ge 30, 3) := by decide +kernel
theorem dX9_takes_61 : decode cX9_takes 61 = .ok (.iload_n 3, 1) := by decide +kernel
theorem dX9_takes_62 : decode cX9_takes 62 = .ok (.aload_n 0, 1) := by decide +kernel
theorem dX9_takes_63 : decode cX9_takes 63 = .ok (.iload_n 1, 1) := by decide +kernel
theorem dX9_takes_64 : decode cX9_takes 64 = .ok (.iload 4, 2) := by decide +kernel
theorem dX9_takes_66 : decode cX9_takes 66 = .ok (.iload 5, 2) := by decide +kernel
theorem dX9_takes_68 : decode cX9_takes 68 = .ok (.invokevirtual 278, 3) := by decide +kernel
theorem dX9_takes_71 : decode cX9_takes 71 = .ok (.iconst (-1), 1) := by decide +kernel
theorem dX9_takes_72 : decode cX9_takes 72 = .ok (.if_icmp .eq 7, 3) := by decide +kernel
theorem dX9_takes_75 : decode cX9_takes 75 = .ok (.iconst 1, 1) := by decide +kernel
theorem dX9_takes_76 : decode cX9_takes 76 = .ok (.goto 4, 3) := by decide +kernel
theorem dX9_takes_79 : decode cX9_takes 79 = .ok (.iconst 0, 1) := by decide +kernel
theorem dX9_takes_80 : decode cX9_takes 80 = .ok (.iadd, 1) := by decide +kernel
theorem dX9_takes_81 : decode cX9_takes 81 = .ok (.istore_n 3, 1) := by decide +kernel
theorem dX9_takes_82 : decode cX9_takes 82 = .ok (.iinc 5 1, 3) := by decide +kernel
theorem dX9_takes_85 : decode cX9_takes 85 = .ok (.goto (-32), 3) := by decide +kernel
theorem dX9_takes_88 : decode cX9_takes 88 = .ok (.iinc 4 1, 3) := by decide +kernel
theorem dX9_takes_91 : decode cX9_takes 91 = .ok (.goto (-49), 3) := by decide +kernel
theorem dX9_takes_94 : decode cX9_takes 94 = .ok (.iload_n 3, 1) := by decide +kernel
theorem dX9_takes_95 : decode cX9_takes 95 = .ok (.ireturn, 1) := by decide +kernel
theorem dX9_puts_0 : decode cX9_puts 0 = .ok (.aload_n 0, 1) := by decide +kernel
theorem dX9_puts_1 : decode cX9_puts 1 = .ok (.getfield 75, 3) := by decide +kernel
theorem dX9_puts_4 : decode cX9_puts 4 = .ok (.aload_n 0, 1) := by decide +kernel
theorem dX9_puts_5 : decode cX9_puts 5 = .ok (.getfield 323, 3) := by decide +kernel
theorem dX9_puts_8 : decode cX9_puts 8 = .ok (.iload_n 1, 1) := by decide +kernel
theorem dX9_puts_9 : decode cX9_puts 9 = .ok (.iastore, 1) := by decide +kernel
theorem dX9_puts_10 : decode cX9_puts 10 = .ok (.aload_n 0, 1) := by decide +kernel
theorem dX9_puts_11 : decode cX9_puts 11 = .ok (.dup, 1) := by decide +kernel
theorem dX9_puts_12 : decode cX9_puts 12 = .ok (.getfield 323, 3) := by decide +kernel
theorem dX9_puts_15 : decode cX9_puts 15 = .ok (.iconst 1, 1) := by decide +kernel
theorem dX9_puts_16 : decode cX9_puts 16 = .ok (.iadd, 1) := by decide +kernel
theorem dX9_puts_17 : decode cX9_puts 17 = .ok (.putfield 323, 3) := by decide +kernel
theorem dX9_puts_20 : decode cX9_puts 20 = .ok (.return_, 1) := by decide +kernel
theorem dX9_isSign_0 : decode cX9_isSign 0 = .ok (.aload_n 0, 1) := by decide +kernel
theorem dX9_isSign_1 : decode cX9_isSign 1 = .ok (.getfield 135, 3) := by decide +kernel
theorem dX9_isSign_4 : decode cX9_isSign 4 = .ok (.iconst 3, 1) := by decide +kernel
theorem dX9_isSign_5 : decode cX9_isSign 5 = .ok (.if_icmp .ne 15, 3) := by decide +kernel
theorem dX9_isSign_8 : decode cX9_isSign 8 = .ok (.aload_n 0, 1) := by decide +kernel
theorem dX9_isSign_9 : decode cX9_isSign 9 = .ok (.getfield 132, 3) := by decide +kernel
theorem dX9_isSign_12 : decode cX9_isSign 12 = .ok (.iload_n 1, 1) := by decide +kernel
theorem dX9_isSign_13 : decode cX9_isSign 13 = .ok (.if_icmp .ne 7, 3) := by decide +kernel
theorem dX9_isSign_16 : decode cX9_isSign 16 = .ok (.iconst 1, 1) := by decide +kernel
theorem dX9_isSign_17 : decode cX9_isSign 17 = .ok (.goto 4, 3) := by decide +kernel
theorem dX9_isSign_20 : decode cX9_isSign 20 = .ok (.iconst 0, 1) := by decide +kernel
theorem dX9_isSign_21 : decode cX9_isSign 21 = .ok (.ireturn, 1) := by decide +kernel
theorem dX9_opens_0 : decode cX9_opens 0 = .ok (.aload_n 0, 1) := by decide +kernel
theorem dX9_opens_1 : decode cX9_opens 1 = .ok (.getfield 81, 3) := by decide +kernel
theorem dX9_opens_4 : decode cX9_opens 4 = .ok (.aload_n 0, 1) := by decide +kernel
theorem dX9_opens_5 : decode cX9_opens 5 = .ok (.getfield 326, 3) := by decide +kernel
theorem dX9_opens_8 : decode cX9_opens 8 = .ok (.iload_n 1, 1) := by decide +kernel
theorem dX9_opens_9 : decode cX9_opens 9 = .ok (.iastore, 1) := by decide +kernel
theorem dX9_opens_10 : decode cX9_opens 10 = .ok (.aload_n 0, 1) := by decide +kernel
theorem dX9_opens_11 : decode cX9_opens 11 = .ok (.getfield 84, 3) := by decide +kernel
theorem dX9_opens_14 : decode cX9_opens 14 = .ok (.aload_n 0, 1) := by decide +kernel
theorem dX9_opens_15 : decode cX9_opens 15 = .ok (.getfield 326, 3) := by decide +kernel
theorem dX9_opens_18 : decode cX9_opens 18 = .ok (.iconst 0, 1) := by decide +kernel
theorem dX9_opens_19 : decode cX9_opens 19 = .ok (.iastore, 1) := by decide +kernel
theorem dX9_opens_20 : decode cX9_opens 20 = .ok (.aload_n 0, 1) := by decide +kernel
theorem dX9_opens_21 : decode cX9_opens 21 = .ok (.getfield 87, 3) := by decide +kernel
theorem dX9_opens_24 : decode cX9_opens 24 = .ok (.aload_n 0, 1) := by decide +kernel
theorem dX9_opens_25 : decode cX9_opens 25 = .ok (.getfield 326, 3) := by decide +kernel
theorem dX9_opens_28 : decode cX9_opens 28 = .ok (.iload_n 2, 1) := by decide +kernel
theorem dX9_opens_29 : decode cX9_opens 29 = .ok (.iastore, 1) := by decide +kernel
theorem dX9_opens_30 : decode cX9_opens 30 = .ok (.aload_n 0, 1) := by decide +kernel
theorem dX9_opens_31 : decode cX9_opens 31 = .ok (.dup, 1) := by decide +kernel
theorem dX9_opens_32 : decode cX9_opens 32 = .ok (.getfield 326, 3) := by decide +kernel
theorem dX9_opens_35 : decode cX9_opens 35 = .ok (.iconst 1, 1) := by decide +kernel
theorem dX9_opens_36 : decode cX9_opens 36 = .ok (.iadd, 1) := by decide +kernel
theorem dX9_opens_37 : decode cX9_opens 37 = .ok (.putfield 326, 3) := by decide +kernel
theorem dX9_opens_40 : decode cX9_opens 40 = .ok (.return_, 1) := by decide +kernel
theorem dX9_some_0 : decode cX9_some 0 = .ok (.aload_n 0, 1) := by decide +kernel
theorem dX9_some_1 : decode cX9_some 1 = .ok (.aload_n 0, 1) := by decide +kernel
theorem dX9_some_2 : decode cX9_some 2 = .ok (.bipush 40, 2) := by decide +kernel
theorem dX9_some_4 : decode cX9_some 4 = .ok (.invokevirtual 329, 3) := by decide +kernel
theorem dX9_some_7 : decode cX9_some 7 = .ok (.invokevirtual 181, 3) := by decide +kernel
theorem dX9_some_10 : decode cX9_some 10 = .ok (.iconst 0, 1) := by decide +kernel
theorem dX9_some_11 : decode cX9_some 11 = .ok (.istore_n 1, 1) := by decide +kernel
theorem dX9_some_12 : decode cX9_some 12 = .ok (.iconst 1, 1) := by decide +kernel
theorem dX9_some_13 : decode cX9_some 13 = .ok (.istore_n 2, 1) := by decide +kernel
theorem dX9_some_14 : decode cX9_some 14 = .ok (.iload_n 2, 1) := by decide +kernel
theorem dX9_some_15 : decode cX9_some 15 = .ok (.ifCond .eq 126, 3) := by decide +kernel
theorem dX9_some_18 : decode cX9_some 18 = .ok (.aload_n 0, 1) := by decide +kernel
theorem dX9_some_19 : decode cX9_some 19 = .ok (.invokevirtual 161, 3) := by decide +kernel
theorem dX9_some_22 : decode cX9_some 22 = .ok (.ifCond .eq 119, 3) := by decide +kernel
theorem dX9_some_25 : decode cX9_some 25 = .ok (.aload_n 0, 1) := by decide +kernel
theorem dX9_some_26 : decode cX9_some 26 = .ok (.getfield 135, 3) := by decide +kernel
theorem dX9_some_29 : decode cX9_some 29 = .ok (.iconst 2, 1) := by decide +kernel
theorem dX9_some_30 : decode cX9_some 30 = .ok (.if_icmp .ne 26, 3) := by decide +kernel
theorem dX9_some_33 : decode cX9_some 33 = .ok (.aload_n 0, 1) := by decide +kernel
theorem dX9_some_34 : decode cX9_some 34 = .ok (.getfield 145, 3) := by decide +kernel
theorem dX9_some_37 : decode cX9_some 37 = .ok (.iconst 4, 1) := by decide +kernel
theorem dX9_some_38 : decode cX9_some 38 = .ok (.if_icmp .gt 18, 3) := by decide +kernel
theorem dX9_some_41 : decode cX9_some 41 = .ok (.aload_n 0, 1) := by decide +kernel
theorem dX9_some_42 : decode cX9_some 42 = .ok (.getfield 129, 3) := by decide +kernel
theorem dX9_some_45 : decode cX9_some 45 = .ok (.aload_n 0, 1) := by decide +kernel
theorem dX9_some_46 : decode cX9_some 46 = .ok (.getfield 214, 3) := by decide +kernel
theorem dX9_some_49 : decode cX9_some 49 = .ok (.if_icmp .ge 7, 3) := by decide +kernel
theorem dX9_some_52 : decode cX9_some 52 = .ok (.iconst 1, 1) := by decide +kernel
theorem dX9_some_53 : decode cX9_some 53 = .ok (.goto 4, 3) := by decide +kernel
theorem dX9_some_56 : decode cX9_some 56 = .ok (.iconst 0, 1) := by decide +kernel
theorem dX9_some_57 : decode cX9_some 57 = .ok (.istore_n 3, 1) := by decide +kernel
theorem dX9_some_58 : decode cX9_some 58 = .ok (.iload_n 3, 1) := by decide +kernel
theorem dX9_some_59 : decode cX9_some 59 = .ok (.ifCond .eq 20, 3) := by decide +kernel
theorem dX9_some_62 : decode cX9_some 62 = .ok (.iload_n 1, 1) := by decide +kernel
theorem dX9_some_63 : decode cX9_some 63 = .ok (.aload_n 0, 1) := by decide +kernel
theorem dX9_some_64 : decode cX9_some 64 = .ok (.getfield 129, 3) := by decide +kernel
theorem dX9_some_67 : decode cX9_some 67 = .ok (.ishr, 1) := by decide +kernel
theorem dX9_some_68 : decode cX9_some 68 = .ok (.iconst 1, 1) := by decide +kernel
theorem dX9_some_69 : decode cX9_some 69 = .ok (.iand, 1) := by decide +kernel
theorem dX9_some_70 : decode cX9_some 70 = .ok (.iconst 1, 1) := by decide +kernel
theorem dX9_some_71 : decode cX9_some 71 = .ok (.if_icmp .ne 8, 3) := by decide +kernel
theorem dX9_some_74 : decode cX9_some 74 = .ok (.aload_n 0, 1) := by decide +kernel
theorem dX9_some_75 : decode cX9_some 75 = .ok (.iconst 3, 1) := by decide +kernel
theorem dX9_some_76 : decode cX9_some 76 = .ok (.invokevirtual 168, 3) := by decide +kernel
theorem dX9_some_79 : decode cX9_some 79 = .ok (.iload_n 1, 1) := by decide +kernel
theorem dX9_some_80 : decode cX9_some 80 = .ok (.iload_n 3, 1) := by decide +kernel
theorem dX9_some_81 : decode cX9_some 81 = .ok (.ifCond .eq 12, 3) := by decide +kernel
theorem dX9_some_84 : decode cX9_some 84 = .ok (.iconst 1, 1) := by decide +kernel
theorem dX9_some_85 : decode cX9_some 85 = .ok (.aload_n 0, 1) := by decide +kernel
theorem dX9_some_86 : decode cX9_some 86 = .ok (.getfield 129, 3) := by decide +kernel
theorem dX9_some_89 : decode cX9_some 89 = .ok (.ishl, 1) := by decide +kernel
theorem dX9_some_90 : decode cX9_some 90 = .ok (.goto 4, 3) := by decide +kernel
theorem dX9_some_93 : decode cX9_some 93 = .ok (.iconst 0, 1) := by decide +kernel
theorem dX9_some_94 : decode cX9_some 94 = .ok (.ior, 1) := by decide +kernel
theorem dX9_some_95 : decode cX9_some 95 = .ok (.istore_n 1, 1) := by decide +kernel
theorem dX9_some_96 : decode cX9_some 96 = .ok (.aload_n 0, 1) := by decide +kernel
theorem dX9_some_97 : decode cX9_some 97 = .ok (.iconst 0, 1) := by decide +kernel
theorem dX9_some_98 : decode cX9_some 98 = .ok (.aload_n 0, 1) := by decide +kernel
theorem dX9_some_99 : decode cX9_some 99 = .ok (.getfield 214, 3) := by decide +kernel
theorem dX9_some_102 : decode cX9_some 102 = .ok (.iconst 1, 1) := by decide +kernel
theorem dX9_some_103 : decode cX9_some 103 = .ok (.isub, 1) := by decide +kernel
theorem dX9_some_104 : decode cX9_some 104 = .ok (.invokevirtual 171, 3) := by decide +kernel
theorem dX9_some_107 : decode cX9_some 107 = .ok (.pop, 1) := by decide +kernel
theorem dX9_some_108 : decode cX9_some 108 = .ok (.aload_n 0, 1) := by decide +kernel
theorem dX9_some_109 : decode cX9_some 109 = .ok (.invokevirtual 161, 3) := by decide +kernel
theorem dX9_some_112 : decode cX9_some 112 = .ok (.ifCond .eq 16, 3) := by decide +kernel
theorem dX9_some_115 : decode cX9_some 115 = .ok (.aload_n 0, 1) := by decide +kernel
theorem dX9_some_116 : decode cX9_some 116 = .ok (.bipush 44, 2) := by decide +kernel
theorem dX9_some_118 : decode cX9_some 118 = .ok (.invokevirtual 329, 3) := by decide +kernel
theorem dX9_some_121 : decode cX9_some 121 = .ok (.ifCond .eq 7, 3) := by decide +kernel
theorem dX9_some_124 : decode cX9_some 124 = .ok (.iconst 1, 1) := by decide +kernel
theorem dX9_some_125 : decode cX9_some 125 = .ok (.goto 4, 3) := by decide +kernel
theorem dX9_some_128 : decode cX9_some 128 = .ok (.iconst 0, 1) := by decide +kernel
theorem dX9_some_129 : decode cX9_some 129 = .ok (.istore_n 2, 1) := by decide +kernel
theorem dX9_some_130 : decode cX9_some 130 = .ok (.iload_n 2, 1) := by decide +kernel
theorem dX9_some_131 : decode cX9_some 131 = .ok (.ifCond .eq 7, 3) := by decide +kernel
theorem dX9_some_134 : decode cX9_some 134 = .ok (.aload_n 0, 1) := by decide +kernel
theorem dX9_some_135 : decode cX9_some 135 = .ok (.invokevirtual 165, 3) := by decide +kernel
theorem dX9_some_138 : decode cX9_some 138 = .ok (.goto (-124), 3) := by decide +kernel
theorem dX9_some_141 : decode cX9_some 141 = .ok (.aload_n 0, 1) := by decide +kernel
theorem dX9_some_142 : decode cX9_some 142 = .ok (.aload_n 0, 1) := by decide +kernel
theorem dX9_some_143 : decode cX9_some 143 = .ok (.bipush 41, 2) := by decide +kernel
theorem dX9_some_145 : decode cX9_some 145 = .ok (.invokevirtual 329, 3) := by decide +kernel
theorem dX9_some_148 : decode cX9_some 148 = .ok (.invokevirtual 181, 3) := by decide +kernel
theorem dX9_some_151 : decode cX9_some 151 = .ok (.aload_n 0, 1) := by decide +kernel
theorem dX9_some_152 : decode cX9_some 152 = .ok (.iconst 2, 1) := by decide +kernel
theorem dX9_some_153 : decode cX9_some 153 = .ok (.invokevirtual 332, 3) := by decide +kernel
theorem dX9_some_156 : decode cX9_some 156 = .ok (.aload_n 0, 1) := by decide +kernel
theorem dX9_some_157 : decode cX9_some 157 = .ok (.iload_n 1, 1) := by decide +kernel
theorem dX9_some_158 : decode cX9_some 158 = .ok (.invokevirtual 332, 3) := by decide +kernel
theorem dX9_some_161 : decode cX9_some 161 = .ok (.return_, 1) := by decide +kernel
theorem dX9_begins_0 : decode cX9_begins 0 = .ok (.aload_n 0, 1) := by decide +kernel
theorem dX9_begins_1 : decode cX9_begins 1 = .ok (.invokevirtual 161, 3) := by decide +kernel
theorem dX9_begins_4 : decode cX9_begins 4 = .ok (.ifCond .ne 5, 3) := by decide +kernel
theorem dX9_begins_7 : decode cX9_begins 7 = .ok (.iconst 1, 1) := by decide +kernel
theorem dX9_begins_8 : decode cX9_begins 8 = .ok (.ireturn, 1) := by decide +kernel
theorem dX9_begins_9 : decode cX9_begins 9 = .ok (.aload_n 0, 1) := by decide +kernel
theorem dX9_begins_10 : decode cX9_begins 10 = .ok (.getfield 135, 3) := by decide +kernel
theorem dX9_begins_13 : decode cX9_begins 13 = .ok (.iconst 1, 1) := by decide +kernel
theorem dX9_begins_14 : decode cX9_begins 14 = .ok (.if_icmp .eq 11, 3) := by decide +kernel
theorem dX9_begins_17 : decode cX9_begins 17 = .ok (.aload_n 0, 1) := by decide +kernel
theorem dX9_begins_18 : decode cX9_begins 18 = .ok (.iconst 1, 1) := by decide +kernel
theorem dX9_begins_19 : decode cX9_begins 19 = .ok (.invokevirtual 168, 3) := by decide +kernel
theorem dX9_begins_22 : decode cX9_begins 22 = .ok (.goto 17, 3) := by decide +kernel
theorem dX9_begins_25 : decode cX9_begins 25 = .ok (.aload_n 0, 1) := by decide +kernel
theorem dX9_begins_26 : decode cX9_begins 26 = .ok (.getfield 326, 3) := by decide +kernel
theorem dX9_begins_29 : decode cX9_begins 29 = .ok (.bipush 12, 2) := by decide +kernel
theorem dX9_begins_31 : decode cX9_begins 31 = .ok (.if_icmp .ne 8, 3) := by decide +kernel
theorem dX9_begins_34 : decode cX9_begins 34 = .ok (.aload_n 0, 1) := by decide +kernel
theorem dX9_begins_35 : decode cX9_begins 35 = .ok (.iconst 2, 1) := by decide +kernel
theorem dX9_begins_36 : decode cX9_begins 36 = .ok (.invokevirtual 168, 3) := by decide +kernel
theorem dX9_begins_39 : decode cX9_begins 39 = .ok (.aload_n 0, 1) := by decide +kernel
theorem dX9_begins_40 : decode cX9_begins 40 = .ok (.invokevirtual 161, 3) := by decide +kernel
theorem dX9_begins_43 : decode cX9_begins 43 = .ok (.ifCond .ne 5, 3) := by decide +kernel
theorem dX9_begins_46 : decode cX9_begins 46 = .ok (.iconst 1, 1) := by decide +kernel
theorem dX9_begins_47 : decode cX9_begins 47 = .ok (.ireturn, 1) := by decide +kernel
theorem dX9_begins_48 : decode cX9_begins 48 = .ok (.iconst (-1), 1) := by decide +kernel
theorem dX9_begins_49 : decode cX9_begins 49 = .ok (.istore_n 2, 1) := by decide +kernel
theorem dX9_begins_50 : decode cX9_begins 50 = .ok (.iload_n 1, 1) := by decide +kernel
theorem dX9_begins_51 : decode cX9_begins 51 = .ok (.ifCond .eq 8, 3) := by decide +kernel
theorem dX9_begins_54 : decode cX9_begins 54 = .ok (.bipush 19, 2) := by decide +kernel
theorem dX9_begins_56 : decode cX9_begins 56 = .ok (.goto 5, 3) := by decide +kernel
theorem dX9_begins_59 : decode cX9_begins 59 = .ok (.bipush 11, 2) := by decide +kernel
theorem dX9_begins_61 : decode cX9_begins 61 = .ok (.istore_n 3, 1) := by decide +kernel
theorem dX9_begins_62 : decode cX9_begins 62 = .ok (.iload_n 3, 1) := by decide +kernel
theorem dX9_begins_63 : decode cX9_begins 63 = .ok (.iload_n 1, 1) := by decide +kernel
theorem dX9_begins_64 : decode cX9_begins 64 = .ok (.ifCond .eq 8, 3) := by decide +kernel
theorem dX9_begins_67 : decode cX9_begins 67 = .ok (.bipush 22, 2) := by decide +kernel
theorem dX9_begins_69 : decode cX9_begins 69 = .ok (.goto 5, 3) := by decide +kernel
theorem dX9_begins_72 : decode cX9_begins 72 = .ok (.bipush 15, 2) := by decide +kernel
theorem dX9_begins_74 : decode cX9_begins 74 = .ok (.if_icmp .gt 19, 3) := by decide +kernel
theorem dX9_begins_77 : decode cX9_begins 77 = .ok (.aload_n 0, 1) := by decide +kernel
theorem dX9_begins_78 : decode cX9_begins 78 = .ok (.iload_n 3, 1) := by decide +kernel
theorem dX9_begins_79 : decode cX9_begins 79 = .ok (.invokevirtual 178, 3) := by decide +kernel
theorem dX9_begins_82 : decode cX9_begins 82 = .ok (.ifCond .eq 5, 3) := by decide +kernel
theorem dX9_begins_85 : decode cX9_begins 85 = .ok (.iload_n 3, 1) := by decide +kernel
theorem dX9_begins_86 : decode cX9_begins 86 = .ok (.istore_n 2, 1) := by decide +kernel
theorem dX9_begins_87 : decode cX9_begins 87 = .ok (.iinc 3 1, 3) := by decide +kernel
theorem dX9_begins_90 : decode cX9_begins 90 = .ok (.goto (-28), 3) := by decide +kernel
theorem dX9_begins_93 : decode cX9_begins 93 = .ok (.iload_n 1, 1) := by decide +kernel
theorem dX9_begins_94 : decode cX9_begins 94 = .ok (.ifCond .ne 15, 3) := by decide +kernel
theorem dX9_begins_97 : decode cX9_begins 97 = .ok (.aload_n 0, 1) := by decide +kernel
theorem dX9_begins_98 : decode cX9_begins 98 = .ok (.bipush 6, 2) := by decide +kernel
theorem dX9_begins_100 : decode cX9_begins 100 = .ok (.invokevirtual 178, 3) := by decide +kernel
theorem dX9_begins_103 : decode cX9_begins 103 = .ok (.ifCond .eq 6, 3) := by decide +kernel
theorem dX9_begins_106 : decode cX9_begins 106 = .ok (.bipush 6, 2) := by decide +kernel
theorem dX9_begins_108 : decode cX9_begins 108 = .ok (.istore_n 2, 1) := by decide +kernel
theorem dX9_begins_109 : decode cX9_begins 109 = .ok (.iload_n 2, 1) := by decide +kernel
theorem dX9_begins_110 : decode cX9_begins 110 = .ok (.iconst (-1), 1) := by decide +kernel
theorem dX9_begins_111 : decode cX9_begins 111 = .ok (.if_icmp .ne 8, 3) := by decide +kernel
theorem dX9_begins_114 : decode cX9_begins 114 = .ok (.aload_n 0, 1) := by decide +kernel
theorem dX9_begins_115 : decode cX9_begins 115 = .ok (.iconst 4, 1) := by decide +kernel
theorem dX9_begins_116 : decode cX9_begins 116 = .ok (.invokevirtual 168, 3) := by decide +kernel
theorem dX9_begins_119 : decode cX9_begins 119 = .ok (.aload_n 0, 1) := by decide +kernel
theorem dX9_begins_120 : decode cX9_begins 120 = .ok (.invokevirtual 161, 3) := by decide +kernel
theorem dX9_begins_123 : decode cX9_begins 123 = .ok (.ifCond .ne 5, 3) := by decide +kernel
theorem dX9_begins_126 : decode cX9_begins 126 = .ok (.iconst 1, 1) := by decide +kernel
theorem dX9_begins_127 : decode cX9_begins 127 = .ok (.ireturn, 1) := by decide +kernel
theorem dX9_begins_128 : decode cX9_begins 128 = .ok (.aload_n 0, 1) := by decide +kernel
theorem dX9_begins_129 : decode cX9_begins 129 = .ok (.invokevirtual 165, 3) := by decide +kernel
theorem dX9_begins_132 : decode cX9_begins 132 = .ok (.iload_n 2, 1) := by decide +kernel
theorem dX9_begins_133 : decode cX9_begins 133 = .ok (.bipush 6, 2) := by decide +kernel
theorem dX9_begins_135 : decode cX9_begins 135 = .ok (.if_icmp .ne 27, 3) := by decide +kernel
theorem dX9_begins_138 : decode cX9_begins 138 = .ok (.aload_n 0, 1) := by decide +kernel
theorem dX9_begins_139 : decode cX9_begins 139 = .ok (.iconst 0, 1) := by decide +kernel
theorem dX9_begins_140 : decode cX9_begins 140 = .ok (.aload_n 0, 1) := by decide +kernel
theorem dX9_begins_141 : decode cX9_begins 141 = .ok (.getfield 214, 3) := by decide +kernel
theorem dX9_begins_144 : decode cX9_begins 144 = .ok (.iconst 1, 1) := by decide +kernel
theorem dX9_begins_145 : decode cX9_begins 145 = .ok (.isub, 1) := by decide +kernel
theorem dX9_begins_146 : decode cX9_begins 146 = .ok (.invokevirtual 171, 3) := by decide +kernel
theorem dX9_begins_149 : decode cX9_begins 149 = .ok (.istore_n 3, 1) := by decide +kernel
theorem dX9_begins_150 : decode cX9_begins 150 = .ok (.aload_n 0, 1) := by decide +kernel
theorem dX9_begins_151 : decode cX9_begins 151 = .ok (.iconst 1, 1) := by decide +kernel
theorem dX9_begins_152 : decode cX9_begins 152 = .ok (.invokevirtual 332, 3) := by decide +kernel
theorem dX9_begins_155 : decode cX9_begins 155 = .ok (.aload_n 0, 1) := by decide +kernel
theorem dX9_begins_156 : decode cX9_begins 156 = .ok (.iload_n 3, 1) := by decide +kernel
theorem dX9_begins_157 : decode cX9_begins 157 = .ok (.invokevirtual 332, 3) := by decide +kernel
theorem dX9_begins_160 : decode cX9_begins 160 = .ok (.iconst 1, 1) := by decide +kernel
theorem dX9_begins_161 : decode cX9_begins 161 = .ok (.ireturn, 1) := by decide +kernel
theorem dX9_begins_162 : decode cX9_begins 162 = .ok (.iload_n 2, 1) := by decide +kernel
theorem dX9_begins_163 : decode cX9_begins 163 = .ok (.bipush 11, 2) := by decide +kernel
theorem dX9_begins_165 : decode cX9_begins 165 = .ok (.if_icmp .ne 9, 3) := by decide +kernel
theorem dX9_begins_168 : decode cX9_begins 168 = .ok (.aload_n 0, 1) := by decide +kernel
theorem dX9_begins_169 : decode cX9_begins 169 = .ok (.invokevirtual 335, 3) := by decide +kernel
theorem dX9_begins_172 : decode cX9_begins 172 = .ok (.iconst 1, 1) := by decide +kernel
theorem dX9_begins_173 : decode cX9_begins 173 = .ok (.ireturn, 1) := by decide +kernel
theorem dX9_begins_174 : decode cX9_begins 174 = .ok (.iload_n 2, 1) := by decide +kernel
theorem dX9_begins_175 : decode cX9_begins 175 = .ok (.bipush 21, 2) := by decide +kernel
theorem dX9_begins_177 : decode cX9_begins 177 = .ok (.if_icmp .ne 24, 3) := by decide +kernel
theorem dX9_begins_180 : decode cX9_begins 180 = .ok (.aload_n 0, 1) := by decide +kernel
theorem dX9_begins_181 : decode cX9_begins 181 = .ok (.iconst 0, 1) := by decide +kernel
theorem dX9_begins_182 : decode cX9_begins 182 = .ok (.bipush 11, 2) := by decide +kernel
theorem dX9_begins_184 : decode cX9_begins 184 = .ok (.invokevirtual 171, 3) := by decide +kernel
theorem dX9_begins_187 : decode cX9_begins 187 = .ok (.istore_n 3, 1) := by decide +kernel
theorem dX9_begins_188 : decode cX9_begins 188 = .ok (.aload_n 0, 1) := by decide +kernel
theorem dX9_begins_189 : decode cX9_begins 189 = .ok (.bipush 9, 2) := by decide +kernel
theorem dX9_begins_191 : decode cX9_begins 191 = .ok (.invokevirtual 332, 3) := by decide +kernel
theorem dX9_begins_194 : decode cX9_begins 194 = .ok (.aload_n 0, 1) := by decide +kernel
theorem dX9_begins_195 : decode cX9_begins 195 = .ok (.iload_n 3, 1) := by decide +kernel
theorem dX9_begins_196 : decode cX9_begins 196 = .ok (.invokevirtual 332, 3) := by decide +kernel
theorem dX9_begins_199 : decode cX9_begins 199 = .ok (.iconst 1, 1) := by decide +kernel
theorem dX9_begins_200 : decode cX9_begins 200 = .ok (.ireturn, 1) := by decide +kernel
theorem dX9_begins_201 : decode cX9_begins 201 = .ok (.aload_n 0, 1) := by decide +kernel
theorem dX9_begins_202 : decode cX9_begins 202 = .ok (.iload_n 2, 1) := by decide +kernel
theorem dX9_begins_203 : decode cX9_begins 203 = .ok (.iload_n 2, 1) := by decide +kernel
theorem dX9_begins_204 : decode cX9_begins 204 = .ok (.bipush 14, 2) := by decide +kernel
theorem dX9_begins_206 : decode cX9_begins 206 = .ok (.if_icmp .ne 13, 3) := by decide +kernel
theorem dX9_begins_209 : decode cX9_begins 209 = .ok (.aload_n 0, 1) := by decide +kernel
theorem dX9_begins_210 : decode cX9_begins 210 = .ok (.sipush 720, 3) := by decide +kernel
theorem dX9_begins_213 : decode cX9_begins 213 = .ok (.invokevirtual 185, 3) := by decide +kernel
theorem dX9_begins_216 : decode cX9_begins 216 = .ok (.goto 4, 3) := by decide +kernel
theorem dX9_begins_219 : decode cX9_begins 219 = .ok (.iconst 1, 1) := by decide +kernel
theorem dX9_begins_220 : decode cX9_begins 220 = .ok (.invokevirtual 338, 3) := by decide +kernel
theorem dX9_begins_223 : decode cX9_begins 223 = .ok (.iload_n 2, 1) := by decide +kernel
theorem dX9_begins_224 : decode cX9_begins 224 = .ok (.bipush 12, 2) := by decide +kernel
theorem dX9_begins_226 : decode cX9_begins 226 = .ok (.if_icmp .eq 15, 3) := by decide +kernel
theorem dX9_begins_229 : decode cX9_begins 229 = .ok (.iload_n 2, 1) := by decide +kernel
theorem dX9_begins_230 : decode cX9_begins 230 = .ok (.bipush 13, 2) := by decide +kernel
theorem dX9_begins_232 : decode cX9_begins 232 = .ok (.if_icmp .eq 9, 3) := by decide +kernel
theorem dX9_begins_235 : decode cX9_begins 235 = .ok (.iload_n 2, 1) := by decide +kernel
theorem dX9_begins_236 : decode cX9_begins 236 = .ok (.bipush 22, 2) := by decide +kernel
theorem dX9_begins_238 : decode cX9_begins 238 = .ok (.if_icmp .ne 13, 3) := by decide +kernel
theorem dX9_begins_241 : decode cX9_begins 241 = .ok (.aload_n 0, 1) := by decide +kernel
theorem dX9_begins_242 : decode cX9_begins 242 = .ok (.aload_n 0, 1) := by decide +kernel
theorem dX9_begins_243 : decode cX9_begins 243 = .ok (.bipush 40, 2) := by decide +kernel
theorem dX9_begins_245 : decode cX9_begins 245 = .ok (.invokevirtual 329, 3) := by decide +kernel
theorem dX9_begins_248 : decode cX9_begins 248 = .ok (.invokevirtual 181, 3) := by decide +kernel
theorem dX9_begins_251 : decode cX9_begins 251 = .ok (.iconst 0, 1) := by decide +kernel
theorem dX9_begins_252 : decode cX9_begins 252 = .ok (.ireturn, 1) := by decide +kernel
theorem dX9_wantsTest_0 : decode cX9_wantsTest 0 = .ok (.aload_n 0, 1) := by decide +kernel
theorem dX9_wantsTest_1 : decode cX9_wantsTest 1 = .ok (.getfield 81, 3) := by decide +kernel
theorem dX9_wantsTest_4 : decode cX9_wantsTest 4 = .ok (.aload_n 0, 1) := by decide +kernel
theorem dX9_wantsTest_5 : decode cX9_wantsTest 5 = .ok (.getfield 326, 3) := by decide +kernel
theorem dX9_wantsTest_8 : decode cX9_wantsTest 8 = .ok (.iconst 1, 1) := by decide +kernel
theorem dX9_wantsTest_9 : decode cX9_wantsTest 9 = .ok (.isub, 1) := by decide +kernel
theorem dX9_wantsTest_10 : decode cX9_wantsTest 10 = .ok (.iaload, 1) := by decide +kernel
theorem dX9_wantsTest_11 : decode cX9_wantsTest 11 = .ok (.istore_n 1, 1) := by decide +kernel
theorem dX9_wantsTest_12 : decode cX9_wantsTest 12 = .ok (.iload_n 1, 1) := by decide +kernel
theorem dX9_wantsTest_13 : decode cX9_wantsTest 13 = .ok (.bipush 19, 2) := by decide +kernel
theorem dX9_wantsTest_15 : decode cX9_wantsTest 15 = .ok (.if_icmp .eq 23, 3) := by decide +kernel
theorem dX9_wantsTest_18 : decode cX9_wantsTest 18 = .ok (.iload_n 1, 1) := by decide +kernel
theorem dX9_wantsTest_19 : decode cX9_wantsTest 19 = .ok (.bipush 15, 2) := by decide +kernel
theorem dX9_wantsTest_21 : decode cX9_wantsTest 21 = .ok (.if_icmp .ne 21, 3) := by decide +kernel
theorem dX9_wantsTest_24 : decode cX9_wantsTest 24 = .ok (.aload_n 0, 1) := by decide +kernel
theorem dX9_wantsTest_25 : decode cX9_wantsTest 25 = .ok (.getfield 84, 3) := by decide +kernel
theorem dX9_wantsTest_28 : decode cX9_wantsTest 28 = .ok (.aload_n 0, 1) := by decide +kernel
theorem dX9_wantsTest_29 : decode cX9_wantsTest 29 = .ok (.getfield 326, 3) := by decide +kernel
theorem dX9_wantsTest_32 : decode cX9_wantsTest 32 = .ok (.iconst 1, 1) := by decide +kernel
theorem dX9_wantsTest_33 : decode cX9_wantsTest 33 = .ok (.isub, 1) := by decide +kernel
theorem dX9_wantsTest_34 : decode cX9_wantsTest 34 = .ok (.iaload, 1) := by decide +kernel
theorem dX9_wantsTest_35 : decode cX9_wantsTest 35 = .ok (.ifCond .ne 7, 3) := by decide +kernel
theorem dX9_wantsTest_38 : decode cX9_wantsTest 38 = .ok (.iconst 1, 1) := by decide +kernel
theorem dX9_wantsTest_39 : decode cX9_wantsTest 39 = .ok (.goto 4, 3) := by decide +kernel
theorem dX9_wantsTest_42 : decode cX9_wantsTest 42 = .ok (.iconst 0, 1) := by decide +kernel
theorem dX9_wantsTest_43 : decode cX9_wantsTest 43 = .ok (.ireturn, 1) := by decide +kernel
theorem dX9_works_0 : decode cX9_works 0 = .ok (.aload_n 0, 1) := by decide +kernel
theorem dX9_works_1 : decode cX9_works 1 = .ok (.iload_n 1, 1) := by decide +kernel
theorem dX9_works_2 : decode cX9_works 2 = .ok (.invokevirtual 332, 3) := by decide +kernel
theorem dX9_works_5 : decode cX9_works 5 = .ok (.iload_n 1, 1) := by decide +kernel
theorem dX9_works_6 : decode cX9_works 6 = .ok (.iconst 3, 1) := by decide +kernel
theorem dX9_works_7 : decode cX9_works 7 = .ok (.if_icmp .eq 8, 3) := by decide +kernel
theorem dX9_works_10 : decode cX9_works 10 = .ok (.iload_n 1, 1) := by decide +kernel
theorem dX9_works_11 : decode cX9_works 11 = .ok (.iconst 5, 1) := by decide +kernel
theorem dX9_works_12 : decode cX9_works 12 = .ok (.if_icmp .ne 8, 3) := by decide +kernel
theorem dX9_works_15 : decode cX9_works 15 = .ok (.aload_n 0, 1) := by decide +kernel
theorem dX9_works_16 : decode cX9_works 16 = .ok (.iload_n 2, 1) := by decide +kernel
theorem dX9_works_17 : decode cX9_works 17 = .ok (.invokevirtual 332, 3) := by decide +kernel
theorem dX9_works_20 : decode cX9_works 20 = .ok (.aload_n 0, 1) := by decide +kernel
theorem dX9_works_21 : decode cX9_works 21 = .ok (.dup, 1) := by decide +kernel
theorem dX9_works_22 : decode cX9_works 22 = .ok (.getfield 326, 3) := by decide +kernel
theorem dX9_works_25 : decode cX9_works 25 = .ok (.iconst 1, 1) := by decide +kernel
theorem dX9_works_26 : decode cX9_works 26 = .ok (.isub, 1) := by decide +kernel
theorem dX9_works_27 : decode cX9_works 27 = .ok (.putfield 326, 3) := by decide +kernel
theorem dX9_works_30 : decode cX9_works 30 = .ok (.return_, 1) := by decide +kernel
theorem dX9_goesOn_0 : decode cX9_goesOn 0 = .ok (.aload_n 0, 1) := by decide +kernel
theorem dX9_goesOn_1 : decode cX9_goesOn 1 = .ok (.getfield 326, 3) := by decide +kernel
theorem dX9_goesOn_4 : decode cX9_goesOn 4 = .ok (.iconst 1, 1) := by decide +kernel
theorem dX9_goesOn_5 : decode cX9_goesOn 5 = .ok (.isub, 1) := by decide +kernel
theorem dX9_goesOn_6 : decode cX9_goesOn 6 = .ok (.istore_n 1, 1) := by decide +kernel
theorem dX9_goesOn_7 : decode cX9_goesOn 7 = .ok (.aload_n 0, 1) := by decide +kernel
theorem dX9_goesOn_8 : decode cX9_goesOn 8 = .ok (.getfield 81, 3) := by decide +kernel
theorem dX9_goesOn_11 : decode cX9_goesOn 11 = .ok (.iload_n 1, 1) := by decide +kernel
theorem dX9_goesOn_12 : decode cX9_goesOn 12 = .ok (.iaload, 1) := by decide +kernel
theorem dX9_goesOn_13 : decode cX9_goesOn 13 = .ok (.istore_n 2, 1) := by decide +kernel
theorem dX9_goesOn_14 : decode cX9_goesOn 14 = .ok (.iload_n 2, 1) := by decide +kernel
theorem dX9_goesOn_15 : decode cX9_goesOn 15 = .ok (.bipush 14, 2) := by decide +kernel
theorem dX9_goesOn_17 : decode cX9_goesOn 17 = .ok (.if_icmp .ne 14, 3) := by decide +kernel
theorem dX9_goesOn_20 : decode cX9_goesOn 20 = .ok (.aload_n 0, 1) := by decide +kernel
theorem dX9_goesOn_21 : decode cX9_goesOn 21 = .ok (.iconst 5, 1) := by decide +kernel
theorem dX9_goesOn_22 : decode cX9_goesOn 22 = .ok (.aload_n 0, 1) := by decide +kernel
theorem dX9_goesOn_23 : decode cX9_goesOn 23 = .ok (.getfield 87, 3) := by decide +kernel
theorem dX9_goesOn_26 : decode cX9_goesOn 26 = .ok (.iload_n 1, 1) := by decide +kernel
theorem dX9_goesOn_27 : decode cX9_goesOn 27 = .ok (.iaload, 1) := by decide +kernel
theorem dX9_goesOn_28 : decode cX9_goesOn 28 = .ok (.invokevirtual 341, 3) := by decide +kernel
theorem dX9_goesOn_31 : decode cX9_goesOn 31 = .ok (.iload_n 2, 1) := by decide +kernel
theorem dX9_goesOn_32 : decode cX9_goesOn 32 = .ok (.bipush 19, 2) := by decide +kernel
theorem dX9_goesOn_34 : decode cX9_goesOn 34 = .ok (.if_icmp .ne 10, 3) := by decide +kernel
theorem dX9_goesOn_37 : decode cX9_goesOn 37 = .ok (.aload_n 0, 1) := by decide +kernel
theorem dX9_goesOn_38 : decode cX9_goesOn 38 = .ok (.bipush 7, 2) := by decide +kernel
theorem dX9_goesOn_40 : decode cX9_goesOn 40 = .ok (.iconst 0, 1) := by decide +kernel
theorem dX9_goesOn_41 : decode cX9_goesOn 41 = .ok (.invokevirtual 341, 3) := by decide +kernel
theorem dX9_goesOn_44 : decode cX9_goesOn 44 = .ok (.iload_n 2, 1) := by decide +kernel
theorem dX9_goesOn_45 : decode cX9_goesOn 45 = .ok (.bipush 20, 2) := by decide +kernel
theorem dX9_goesOn_47 : decode cX9_goesOn 47 = .ok (.if_icmp .ne 10, 3) := by decide +kernel
theorem dX9_goesOn_50 : decode cX9_goesOn 50 = .ok (.aload_n 0, 1) := by decide +kernel
theorem dX9_goesOn_51 : decode cX9_goesOn 51 = .ok (.bipush 8, 2) := by decide +kernel
theorem dX9_goesOn_53 : decode cX9_goesOn 53 = .ok (.iconst 0, 1) := by decide +kernel
theorem dX9_goesOn_54 : decode cX9_goesOn 54 = .ok (.invokevirtual 341, 3) := by decide +kernel
theorem dX9_goesOn_57 : decode cX9_goesOn 57 = .ok (.iload_n 2, 1) := by decide +kernel
theorem dX9_goesOn_58 : decode cX9_goesOn 58 = .ok (.bipush 14, 2) := by decide +kernel
theorem dX9_goesOn_60 : decode cX9_goesOn 60 = .ok (.if_icmp .eq 15, 3) := by decide +kernel
theorem dX9_goesOn_63 : decode cX9_goesOn 63 = .ok (.iload_n 2, 1) := by decide +kernel
theorem dX9_goesOn_64 : decode cX9_goesOn 64 = .ok (.bipush 19, 2) := by decide +kernel
theorem dX9_goesOn_66 : decode cX9_goesOn 66 = .ok (.if_icmp .eq 9, 3) := by decide +kernel
theorem dX9_goesOn_69 : decode cX9_goesOn 69 = .ok (.iload_n 2, 1) := by decide +kernel
theorem dX9_goesOn_70 : decode cX9_goesOn 70 = .ok (.bipush 20, 2) := by decide +kernel
theorem dX9_goesOn_72 : decode cX9_goesOn 72 = .ok (.if_icmp .ne 5, 3) := by decide +kernel
theorem dX9_goesOn_75 : decode cX9_goesOn 75 = .ok (.iconst 1, 1) := by decide +kernel
theorem dX9_goesOn_76 : decode cX9_goesOn 76 = .ok (.ireturn, 1) := by decide +kernel
theorem dX9_goesOn_77 : decode cX9_goesOn 77 = .ok (.aload_n 0, 1) := by decide +kernel
theorem dX9_goesOn_78 : decode cX9_goesOn 78 = .ok (.getfield 84, 3) := by decide +kernel
theorem dX9_goesOn_81 : decode cX9_goesOn 81 = .ok (.iload_n 1, 1) := by decide +kernel
theorem dX9_goesOn_82 : decode cX9_goesOn 82 = .ok (.dup2, 1) := by decide +kernel
theorem dX9_goesOn_83 : decode cX9_goesOn 83 = .ok (.iaload, 1) := by decide +kernel
theorem dX9_goesOn_84 : decode cX9_goesOn 84 = .ok (.iconst 1, 1) := by decide +kernel
theorem dX9_goesOn_85 : decode cX9_goesOn 85 = .ok (.iadd, 1) := by decide +kernel
theorem dX9_goesOn_86 : decode cX9_goesOn 86 = .ok (.iastore, 1) := by decide +kernel
theorem dX9_goesOn_87 : decode cX9_goesOn 87 = .ok (.iload_n 2, 1) := by decide +kernel
theorem dX9_goesOn_88 : decode cX9_goesOn 88 = .ok (.bipush 15, 2) := by decide +kernel
theorem dX9_goesOn_90 : decode cX9_goesOn 90 = .ok (.if_icmp .ne 76, 3) := by decide +kernel
theorem dX9_goesOn_93 : decode cX9_goesOn 93 = .ok (.aload_n 0, 1) := by decide +kernel
theorem dX9_goesOn_94 : decode cX9_goesOn 94 = .ok (.aload_n 0, 1) := by decide +kernel
theorem dX9_goesOn_95 : decode cX9_goesOn 95 = .ok (.aload_n 0, 1) := by decide +kernel
theorem dX9_goesOn_96 : decode cX9_goesOn 96 = .ok (.getfield 84, 3) := by decide +kernel
theorem dX9_goesOn_99 : decode cX9_goesOn 99 = .ok (.iload_n 1, 1) := by decide +kernel
theorem dX9_goesOn_100 : decode cX9_goesOn 100 = .ok (.iaload, 1) := by decide +kernel
theorem dX9_goesOn_101 : decode cX9_goesOn 101 = .ok (.iconst 1, 1) := by decide +kernel
theorem dX9_goesOn_102 : decode cX9_goesOn 102 = .ok (.if_icmp .ne 8, 3) := by decide +kernel
theorem dX9_goesOn_105 : decode cX9_goesOn 105 = .ok (.bipush 16, 2) := by decide +kernel
theorem dX9_goesOn_107 : decode cX9_goesOn 107 = .ok (.goto 20, 3) := by decide +kernel
theorem dX9_goesOn_110 : decode cX9_goesOn 110 = .ok (.aload_n 0, 1) := by decide +kernel
theorem dX9_goesOn_111 : decode cX9_goesOn 111 = .ok (.getfield 84, 3) := by decide +kernel
theorem dX9_goesOn_114 : decode cX9_goesOn 114 = .ok (.iload_n 1, 1) := by decide +kernel
theorem dX9_goesOn_115 : decode cX9_goesOn 115 = .ok (.iaload, 1) := by decide +kernel
theorem dX9_goesOn_116 : decode cX9_goesOn 116 = .ok (.iconst 2, 1) := by decide +kernel
theorem dX9_goesOn_117 : decode cX9_goesOn 117 = .ok (.if_icmp .ne 8, 3) := by decide +kernel
theorem dX9_goesOn_120 : decode cX9_goesOn 120 = .ok (.bipush 17, 2) := by decide +kernel
theorem dX9_goesOn_122 : decode cX9_goesOn 122 = .ok (.goto 5, 3) := by decide +kernel
theorem dX9_goesOn_125 : decode cX9_goesOn 125 = .ok (.bipush 18, 2) := by decide +kernel
theorem dX9_goesOn_127 : decode cX9_goesOn 127 = .ok (.invokevirtual 178, 3) := by decide +kernel
theorem dX9_goesOn_130 : decode cX9_goesOn 130 = .ok (.invokevirtual 181, 3) := by decide +kernel
theorem dX9_goesOn_133 : decode cX9_goesOn 133 = .ok (.aload_n 0, 1) := by decide +kernel
theorem dX9_goesOn_134 : decode cX9_goesOn 134 = .ok (.getfield 84, 3) := by decide +kernel
theorem dX9_goesOn_137 : decode cX9_goesOn 137 = .ok (.iload_n 1, 1) := by decide +kernel
theorem dX9_goesOn_138 : decode cX9_goesOn 138 = .ok (.iaload, 1) := by decide +kernel
theorem dX9_goesOn_139 : decode cX9_goesOn 139 = .ok (.iconst 3, 1) := by decide +kernel
theorem dX9_goesOn_140 : decode cX9_goesOn 140 = .ok (.if_icmp .ne 10, 3) := by decide +kernel
theorem dX9_goesOn_143 : decode cX9_goesOn 143 = .ok (.aload_n 0, 1) := by decide +kernel
theorem dX9_goesOn_144 : decode cX9_goesOn 144 = .ok (.bipush 6, 2) := by decide +kernel
theorem dX9_goesOn_146 : decode cX9_goesOn 146 = .ok (.iconst 0, 1) := by decide +kernel
theorem dX9_goesOn_147 : decode cX9_goesOn 147 = .ok (.invokevirtual 341, 3) := by decide +kernel
theorem dX9_goesOn_150 : decode cX9_goesOn 150 = .ok (.aload_n 0, 1) := by decide +kernel
theorem dX9_goesOn_151 : decode cX9_goesOn 151 = .ok (.getfield 84, 3) := by decide +kernel
theorem dX9_goesOn_154 : decode cX9_goesOn 154 = .ok (.iload_n 1, 1) := by decide +kernel
theorem dX9_goesOn_155 : decode cX9_goesOn 155 = .ok (.iaload, 1) := by decide +kernel
theorem dX9_goesOn_156 : decode cX9_goesOn 156 = .ok (.iconst 3, 1) := by decide +kernel
theorem dX9_goesOn_157 : decode cX9_goesOn 157 = .ok (.if_icmp .ne 7, 3) := by decide +kernel
theorem dX9_goesOn_160 : decode cX9_goesOn 160 = .ok (.iconst 1, 1) := by decide +kernel
theorem dX9_goesOn_161 : decode cX9_goesOn 161 = .ok (.goto 4, 3) := by decide +kernel
theorem dX9_goesOn_164 : decode cX9_goesOn 164 = .ok (.iconst 0, 1) := by decide +kernel
theorem dX9_goesOn_165 : decode cX9_goesOn 165 = .ok (.ireturn, 1) := by decide +kernel
theorem dX9_goesOn_166 : decode cX9_goesOn 166 = .ok (.iload_n 2, 1) := by decide +kernel
theorem dX9_goesOn_167 : decode cX9_goesOn 167 = .ok (.bipush 12, 2) := by decide +kernel
theorem dX9_goesOn_169 : decode cX9_goesOn 169 = .ok (.if_icmp .ne 12, 3) := by decide +kernel
theorem dX9_goesOn_172 : decode cX9_goesOn 172 = .ok (.aload_n 0, 1) := by decide +kernel
theorem dX9_goesOn_173 : decode cX9_goesOn 173 = .ok (.bipush 44, 2) := by decide +kernel
theorem dX9_goesOn_175 : decode cX9_goesOn 175 = .ok (.invokevirtual 329, 3) := by decide +kernel
theorem dX9_goesOn_178 : decode cX9_goesOn 178 = .ok (.goto 18, 3) := by decide +kernel
theorem dX9_goesOn_181 : decode cX9_goesOn 181 = .ok (.aload_n 0, 1) := by decide +kernel
theorem dX9_goesOn_182 : decode cX9_goesOn 182 = .ok (.getfield 84, 3) := by decide +kernel
theorem dX9_goesOn_185 : decode cX9_goesOn 185 = .ok (.iload_n 1, 1) := by decide +kernel
theorem dX9_goesOn_186 : decode cX9_goesOn 186 = .ok (.iaload, 1) := by decide +kernel
theorem dX9_goesOn_187 : decode cX9_goesOn 187 = .ok (.iconst 1, 1) := by decide +kernel
theorem dX9_goesOn_188 : decode cX9_goesOn 188 = .ok (.if_icmp .ne 7, 3) := by decide +kernel
theorem dX9_goesOn_191 : decode cX9_goesOn 191 = .ok (.iconst 1, 1) := by decide +kernel
theorem dX9_goesOn_192 : decode cX9_goesOn 192 = .ok (.goto 4, 3) := by decide +kernel
theorem dX9_goesOn_195 : decode cX9_goesOn 195 = .ok (.iconst 0, 1) := by decide +kernel
theorem dX9_goesOn_196 : decode cX9_goesOn 196 = .ok (.istore_n 3, 1) := by decide +kernel
theorem dX9_goesOn_197 : decode cX9_goesOn 197 = .ok (.aload_n 0, 1) := by decide +kernel
theorem dX9_goesOn_198 : decode cX9_goesOn 198 = .ok (.iload_n 3, 1) := by decide +kernel
theorem dX9_goesOn_199 : decode cX9_goesOn 199 = .ok (.ifCond .eq 12, 3) := by decide +kernel
theorem dX9_goesOn_202 : decode cX9_goesOn 202 = .ok (.aload_n 0, 1) := by decide +kernel
theorem dX9_goesOn_203 : decode cX9_goesOn 203 = .ok (.bipush 44, 2) := by decide +kernel
theorem dX9_goesOn_205 : decode cX9_goesOn 205 = .ok (.invokevirtual 329, 3) := by decide +kernel
theorem dX9_goesOn_208 : decode cX9_goesOn 208 = .ok (.goto 9, 3) := by decide +kernel
theorem dX9_goesOn_211 : decode cX9_goesOn 211 = .ok (.aload_n 0, 1) := by decide +kernel
theorem dX9_goesOn_212 : decode cX9_goesOn 212 = .ok (.bipush 41, 2) := by decide +kernel
theorem dX9_goesOn_214 : decode cX9_goesOn 214 = .ok (.invokevirtual 329, 3) := by decide +kernel
theorem dX9_goesOn_217 : decode cX9_goesOn 217 = .ok (.invokevirtual 181, 3) := by decide +kernel
theorem dX9_goesOn_220 : decode cX9_goesOn 220 = .ok (.iload_n 3, 1) := by decide +kernel
theorem dX9_goesOn_221 : decode cX9_goesOn 221 = .ok (.ifCond .eq 5, 3) := by decide +kernel
theorem dX9_goesOn_224 : decode cX9_goesOn 224 = .ok (.iconst 0, 1) := by decide +kernel
theorem dX9_goesOn_225 : decode cX9_goesOn 225 = .ok (.ireturn, 1) := by decide +kernel
theorem dX9_goesOn_226 : decode cX9_goesOn 226 = .ok (.aload_n 0, 1) := by decide +kernel
theorem dX9_goesOn_227 : decode cX9_goesOn 227 = .ok (.iload_n 2, 1) := by decide +kernel
theorem dX9_goesOn_228 : decode cX9_goesOn 228 = .ok (.bipush 12, 2) := by decide +kernel
theorem dX9_goesOn_230 : decode cX9_goesOn 230 = .ok (.if_icmp .ne 7, 3) := by decide +kernel
theorem dX9_goesOn_233 : decode cX9_goesOn 233 = .ok (.iconst 3, 1) := by decide +kernel
theorem dX9_goesOn_234 : decode cX9_goesOn 234 = .ok (.goto 15, 3) := by decide +kernel
theorem dX9_goesOn_237 : decode cX9_goesOn 237 = .ok (.iload_n 2, 1) := by decide +kernel
theorem dX9_goesOn_238 : decode cX9_goesOn 238 = .ok (.bipush 13, 2) := by decide +kernel
theorem dX9_goesOn_240 : decode cX9_goesOn 240 = .ok (.if_icmp .ne 7, 3) := by decide +kernel
theorem dX9_goesOn_243 : decode cX9_goesOn 243 = .ok (.iconst 4, 1) := by decide +kernel
theorem dX9_goesOn_244 : decode cX9_goesOn 244 = .ok (.goto 5, 3) := by decide +kernel
theorem dX9_goesOn_247 : decode cX9_goesOn 247 = .ok (.bipush 10, 2) := by decide +kernel
theorem dX9_goesOn_249 : decode cX9_goesOn 249 = .ok (.aload_n 0, 1) := by decide +kernel
theorem dX9_goesOn_250 : decode cX9_goesOn 250 = .ok (.getfield 84, 3) := by decide +kernel
theorem dX9_goesOn_253 : decode cX9_goesOn 253 = .ok (.iload_n 1, 1) := by decide +kernel
theorem dX9_goesOn_254 : decode cX9_goesOn 254 = .ok (.iaload, 1) := by decide +kernel
theorem dX9_goesOn_255 : decode cX9_goesOn 255 = .ok (.invokevirtual 341, 3) := by decide +kernel
theorem dX9_goesOn_258 : decode cX9_goesOn 258 = .ok (.iconst 1, 1) := by decide +kernel
theorem dX9_goesOn_259 : decode cX9_goesOn 259 = .ok (.ireturn, 1) := by decide +kernel
theorem dX9_law_0 : decode cX9_law 0 = .ok (.aload_n 0, 1) := by decide +kernel
theorem dX9_law_1 : decode cX9_law 1 = .ok (.iconst 0, 1) := by decide +kernel
theorem dX9_law_2 : decode cX9_law 2 = .ok (.putfield 102, 3) := by decide +kernel
theorem dX9_law_5 : decode cX9_law 5 = .ok (.aload_n 0, 1) := by decide +kernel
theorem dX9_law_6 : decode cX9_law 6 = .ok (.iload_n 1, 1) := by decide +kernel
theorem dX9_law_7 : decode cX9_law 7 = .ok (.ifCond .lt 15, 3) := by decide +kernel
theorem dX9_law_10 : decode cX9_law 10 = .ok (.iload_n 1, 1) := by decide +kernel
theorem dX9_law_11 : decode cX9_law 11 = .ok (.aload_n 0, 1) := by decide +kernel
theorem dX9_law_12 : decode cX9_law 12 = .ok (.getfield 105, 3) := by decide +kernel
theorem dX9_law_15 : decode cX9_law 15 = .ok (.if_icmp .gt 7, 3) := by decide +kernel
theorem dX9_law_18 : decode cX9_law 18 = .ok (.iconst 1, 1) := by decide +kernel
theorem dX9_law_19 : decode cX9_law 19 = .ok (.goto 4, 3) := by decide +kernel
theorem dX9_law_22 : decode cX9_law 22 = .ok (.iconst 0, 1) := by decide +kernel
theorem dX9_law_23 : decode cX9_law 23 = .ok (.iconst 1, 1) := by decide +kernel
theorem dX9_law_24 : decode cX9_law 24 = .ok (.invokevirtual 207, 3) := by decide +kernel
theorem dX9_law_27 : decode cX9_law 27 = .ok (.ifCond .ne 5, 3) := by decide +kernel
theorem dX9_law_30 : decode cX9_law 30 = .ok (.iconst 0, 1) := by decide +kernel
theorem dX9_law_31 : decode cX9_law 31 = .ok (.ireturn, 1) := by decide +kernel
theorem dX9_law_32 : decode cX9_law 32 = .ok (.aload_n 0, 1) := by decide +kernel
theorem dX9_law_33 : decode cX9_law 33 = .ok (.iconst 0, 1) := by decide +kernel
theorem dX9_law_34 : decode cX9_law 34 = .ok (.putfield 105, 3) := by decide +kernel
theorem dX9_law_37 : decode cX9_law 37 = .ok (.aload_n 0, 1) := by decide +kernel
theorem dX9_law_38 : decode cX9_law 38 = .ok (.iconst (-1), 1) := by decide +kernel
theorem dX9_law_39 : decode cX9_law 39 = .ok (.putfield 26, 3) := by decide +kernel
theorem dX9_law_42 : decode cX9_law 42 = .ok (.aload_n 0, 1) := by decide +kernel
theorem dX9_law_43 : decode cX9_law 43 = .ok (.iconst 0, 1) := by decide +kernel
theorem dX9_law_44 : decode cX9_law 44 = .ok (.putfield 158, 3) := by decide +kernel
theorem dX9_law_47 : decode cX9_law 47 = .ok (.aload_n 0, 1) := by decide +kernel
theorem dX9_law_48 : decode cX9_law 48 = .ok (.iload_n 1, 1) := by decide +kernel
theorem dX9_law_49 : decode cX9_law 49 = .ok (.putfield 112, 3) := by decide +kernel
theorem dX9_law_52 : decode cX9_law 52 = .ok (.aload_n 0, 1) := by decide +kernel
theorem dX9_law_53 : decode cX9_law 53 = .ok (.iconst 0, 1) := by decide +kernel
theorem dX9_law_54 : decode cX9_law 54 = .ok (.putfield 115, 3) := by decide +kernel
theorem dX9_law_57 : decode cX9_law 57 = .ok (.aload_n 0, 1) := by decide +kernel
theorem dX9_law_58 : decode cX9_law 58 = .ok (.iconst 0, 1) := by decide +kernel
theorem dX9_law_59 : decode cX9_law 59 = .ok (.putfield 323, 3) := by decide +kernel
theorem dX9_law_62 : decode cX9_law 62 = .ok (.aload_n 0, 1) := by decide +kernel
theorem dX9_law_63 : decode cX9_law 63 = .ok (.iconst 0, 1) := by decide +kernel
theorem dX9_law_64 : decode cX9_law 64 = .ok (.putfield 326, 3) := by decide +kernel
theorem dX9_law_67 : decode cX9_law 67 = .ok (.aload_n 0, 1) := by decide +kernel
theorem dX9_law_68 : decode cX9_law 68 = .ok (.invokevirtual 165, 3) := by decide +kernel
theorem dX9_law_71 : decode cX9_law 71 = .ok (.aload_n 0, 1) := by decide +kernel
theorem dX9_law_72 : decode cX9_law 72 = .ok (.iconst 0, 1) := by decide +kernel
theorem dX9_law_73 : decode cX9_law 73 = .ok (.invokevirtual 344, 3) := by decide +kernel
theorem dX9_law_76 : decode cX9_law 76 = .ok (.istore_n 2, 1) := by decide +kernel
theorem dX9_law_77 : decode cX9_law 77 = .ok (.aload_n 0, 1) := by decide +kernel
theorem dX9_law_78 : decode cX9_law 78 = .ok (.invokevirtual 161, 3) := by decide +kernel
theorem dX9_law_81 : decode cX9_law 81 = .ok (.ifCond .eq 37, 3) := by decide +kernel
theorem dX9_law_84 : decode cX9_law 84 = .ok (.aload_n 0, 1) := by decide +kernel
theorem dX9_law_85 : decode cX9_law 85 = .ok (.getfield 326, 3) := by decide +kernel
theorem dX9_law_88 : decode cX9_law 88 = .ok (.ifCond .gt 7, 3) := by decide +kernel
theorem dX9_law_91 : decode cX9_law 91 = .ok (.iload_n 2, 1) := by decide +kernel
theorem dX9_law_92 : decode cX9_law 92 = .ok (.ifCond .ne 26, 3) := by decide +kernel
theorem dX9_law_95 : decode cX9_law 95 = .ok (.iload_n 2, 1) := by decide +kernel
theorem dX9_law_96 : decode cX9_law 96 = .ok (.ifCond .eq 10, 3) := by decide +kernel
theorem dX9_law_99 : decode cX9_law 99 = .ok (.aload_n 0, 1) := by decide +kernel
theorem dX9_law_100 : decode cX9_law 100 = .ok (.invokevirtual 348, 3) := by decide +kernel
theorem dX9_law_103 : decode cX9_law 103 = .ok (.goto 11, 3) := by decide +kernel
theorem dX9_law_106 : decode cX9_law 106 = .ok (.aload_n 0, 1) := by decide +kernel
theorem dX9_law_107 : decode cX9_law 107 = .ok (.aload_n 0, 1) := by decide +kernel
theorem dX9_law_108 : decode cX9_law 108 = .ok (.invokevirtual 351, 3) := by decide +kernel
theorem dX9_law_111 : decode cX9_law 111 = .ok (.invokevirtual 344, 3) := by decide +kernel
theorem dX9_law_114 : decode cX9_law 114 = .ok (.istore_n 2, 1) := by decide +kernel
theorem dX9_law_115 : decode cX9_law 115 = .ok (.goto (-38), 3) := by decide +kernel
theorem dX9_law_118 : decode cX9_law 118 = .ok (.aload_n 0, 1) := by decide +kernel
theorem dX9_law_119 : decode cX9_law 119 = .ok (.invokevirtual 161, 3) := by decide +kernel
theorem dX9_law_122 : decode cX9_law 122 = .ok (.ifCond .eq 15, 3) := by decide +kernel
theorem dX9_law_125 : decode cX9_law 125 = .ok (.aload_n 0, 1) := by decide +kernel
theorem dX9_law_126 : decode cX9_law 126 = .ok (.getfield 135, 3) := by decide +kernel
theorem dX9_law_129 : decode cX9_law 129 = .ok (.ifCond .eq 8, 3) := by decide +kernel
theorem dX9_law_132 : decode cX9_law 132 = .ok (.aload_n 0, 1) := by decide +kernel
theorem dX9_law_133 : decode cX9_law 133 = .ok (.iconst 1, 1) := by decide +kernel
theorem dX9_law_134 : decode cX9_law 134 = .ok (.invokevirtual 168, 3) := by decide +kernel
theorem dX9_law_137 : decode cX9_law 137 = .ok (.aload_n 0, 1) := by decide +kernel
theorem dX9_law_138 : decode cX9_law 138 = .ok (.invokevirtual 161, 3) := by decide +kernel
theorem dX9_law_141 : decode cX9_law 141 = .ok (.ifCond .ne 18, 3) := by decide +kernel
theorem dX9_law_144 : decode cX9_law 144 = .ok (.aload_n 0, 1) := by decide +kernel
theorem dX9_law_145 : decode cX9_law 145 = .ok (.getfield 29, 3) := by decide +kernel
theorem dX9_law_148 : decode cX9_law 148 = .ok (.iconst 0, 1) := by decide +kernel
theorem dX9_law_149 : decode cX9_law 149 = .ok (.dup2, 1) := by decide +kernel
theorem dX9_law_150 : decode cX9_law 150 = .ok (.iaload, 1) := by decide +kernel
theorem dX9_law_151 : decode cX9_law 151 = .ok (.iconst 1, 1) := by decide +kernel
theorem dX9_law_152 : decode cX9_law 152 = .ok (.iadd, 1) := by decide +kernel
theorem dX9_law_153 : decode cX9_law 153 = .ok (.iastore, 1) := by decide +kernel
theorem dX9_law_154 : decode cX9_law 154 = .ok (.aload_n 0, 1) := by decide +kernel
theorem dX9_law_155 : decode cX9_law 155 = .ok (.getfield 158, 3) := by decide +kernel
theorem dX9_law_158 : decode cX9_law 158 = .ok (.ireturn, 1) := by decide +kernel
theorem dX9_law_159 : decode cX9_law 159 = .ok (.aload_n 0, 1) := by decide +kernel
theorem dX9_law_160 : decode cX9_law 160 = .ok (.iconst 0, 1) := by decide +kernel
theorem dX9_law_161 : decode cX9_law 161 = .ok (.invokevirtual 332, 3) := by decide +kernel
theorem dX9_law_164 : decode cX9_law 164 = .ok (.aload_n 0, 1) := by decide +kernel
theorem dX9_law_165 : decode cX9_law 165 = .ok (.aload_n 0, 1) := by decide +kernel
theorem dX9_law_166 : decode cX9_law 166 = .ok (.getfield 75, 3) := by decide +kernel
theorem dX9_law_169 : decode cX9_law 169 = .ok (.aload_n 0, 1) := by decide +kernel
theorem dX9_law_170 : decode cX9_law 170 = .ok (.getfield 72, 3) := by decide +kernel
theorem dX9_law_173 : decode cX9_law 173 = .ok (.invokevirtual 220, 3) := by decide +kernel
theorem dX9_law_176 : decode cX9_law 176 = .ok (.aload_n 0, 1) := by decide +kernel
theorem dX9_law_177 : decode cX9_law 177 = .ok (.iconst 1, 1) := by decide +kernel
theorem dX9_law_178 : decode cX9_law 178 = .ok (.putfield 233, 3) := by decide +kernel
theorem dX9_law_181 : decode cX9_law 181 = .ok (.iconst 0, 1) := by decide +kernel
theorem dX9_law_182 : decode cX9_law 182 = .ok (.ireturn, 1) := by decide +kernel
theorem dX9_toldBy_0 : decode cX9_toldBy 0 = .ok (.iconst 0, 1) := by decide +kernel
theorem dX9_toldBy_1 : decode cX9_toldBy 1 = .ok (.istore_n 3, 1) := by decide +kernel
theorem dX9_toldBy_2 : decode cX9_toldBy 2 = .ok (.iconst 0, 1) := by decide +kernel
theorem dX9_toldBy_3 : decode cX9_toldBy 3 = .ok (.istore 4, 2) := by decide +kernel
theorem dX9_toldBy_5 : decode cX9_toldBy 5 = .ok (.aload_n 0, 1) := by decide +kernel
theorem dX9_toldBy_6 : decode cX9_toldBy 6 = .ok (.getfield 72, 3) := by decide +kernel
theorem dX9_toldBy_9 : decode cX9_toldBy 9 = .ok (.iload 4, 2) := by decide +kernel
theorem dX9_toldBy_11 : decode cX9_toldBy 11 = .ok (.iaload, 1) := by decide +kernel
theorem dX9_toldBy_12 : decode cX9_toldBy 12 = .ok (.ifCond .eq 493, 3) := by decide +kernel
theorem dX9_toldBy_15 : decode cX9_toldBy 15 = .ok (.aload_n 0, 1) := by decide +kernel
theorem dX9_toldBy_16 : decode cX9_toldBy 16 = .ok (.getfield 72, 3) := by decide +kernel
theorem dX9_toldBy_19 : decode cX9_toldBy 19 = .ok (.iload 4, 2) := by decide +kernel
theorem dX9_toldBy_21 : decode cX9_toldBy 21 = .ok (.iaload, 1) := by decide +kernel
theorem dX9_toldBy_22 : decode cX9_toldBy 22 = .ok (.istore 5, 2) := by decide +kernel
theorem dX9_toldBy_24 : decode cX9_toldBy 24 = .ok (.aload_n 0, 1) := by decide +kernel
theorem dX9_toldBy_25 : decode cX9_toldBy 25 = .ok (.getfield 72, 3) := by decide +kernel
theorem dX9_toldBy_28 : decode cX9_toldBy 28 = .ok (.iload 4, 2) := by decide +kernel
theorem dX9_toldBy_30 : decode cX9_toldBy 30 = .ok (.iconst 1, 1) := by decide +kernel
theorem dX9_toldBy_31 : decode cX9_toldBy 31 = .ok (.iadd, 1) := by decide +kernel
theorem dX9_toldBy_32 : decode cX9_toldBy 32 = .ok (.iaload, 1) := by decide +kernel
theorem dX9_toldBy_33 : decode cX9_toldBy 33 = .ok (.istore 6, 2) := by decide +kernel
theorem dX9_toldBy_35 : decode cX9_toldBy 35 = .ok (.iload 4, 2) := by decide +kernel
theorem dX9_toldBy_37 : decode cX9_toldBy 37 = .ok (.iload 5, 2) := by decide +kernel
theorem dX9_toldBy_39 : decode cX9_toldBy 39 = .ok (.iconst 1, 1) := by decide +kernel
theorem dX9_toldBy_40 : decode cX9_toldBy 40 = .ok (.if_icmp .eq 28, 3) := by decide +kernel
theorem dX9_toldBy_43 : decode cX9_toldBy 43 = .ok (.iload 5, 2) := by decide +kernel
theorem dX9_toldBy_45 : decode cX9_toldBy 45 = .ok (.iconst 2, 1) := by decide +kernel
theorem dX9_toldBy_46 : decode cX9_toldBy 46 = .ok (.if_icmp .eq 22, 3) := by decide +kernel
theorem dX9_toldBy_49 : decode cX9_toldBy 49 = .ok (.iload 5, 2) := by decide +kernel
theorem dX9_toldBy_51 : decode cX9_toldBy 51 = .ok (.iconst 3, 1) := by decide +kernel
theorem dX9_toldBy_52 : decode cX9_toldBy 52 = .ok (.if_icmp .eq 16, 3) := by decide +kernel
theorem dX9_toldBy_55 : decode cX9_toldBy 55 = .ok (.iload 5, 2) := by decide +kernel
theorem dX9_toldBy_57 : decode cX9_toldBy 57 = .ok (.iconst 5, 1) := by decide +kernel
theorem dX9_toldBy_58 : decode cX9_toldBy 58 = .ok (.if_icmp .eq 10, 3) := by decide +kernel
theorem dX9_toldBy_61 : decode cX9_toldBy 61 = .ok (.iload 5, 2) := by decide +kernel
theorem dX9_toldBy_63 : decode cX9_toldBy 63 = .ok (.bipush 9, 2) := by decide +kernel
theorem dX9_toldBy_65 : decode cX9_toldBy 65 = .ok (.if_icmp .ne 7, 3) := by decide +kernel
theorem dX9_toldBy_68 : decode cX9_toldBy 68 = .ok (.iconst 2, 1) := by decide +kernel
theorem dX9_toldBy_69 : decode cX9_toldBy 69 = .ok (.goto 4, 3) := by decide +kernel
theorem dX9_toldBy_72 : decode cX9_toldBy 72 = .ok (.iconst 1, 1) := by decide +kernel
theorem dX9_toldBy_73 : decode cX9_toldBy 73 = .ok (.iadd, 1) := by decide +kernel
theorem dX9_toldBy_74 : decode cX9_toldBy 74 = .ok (.istore 4, 2) := by decide +kernel
theorem dX9_toldBy_76 : decode cX9_toldBy 76 = .ok (.iload 5, 2) := by decide +kernel
theorem dX9_toldBy_78 : decode cX9_toldBy 78 = .ok (.iconst 1, 1) := by decide +kernel
theorem dX9_toldBy_79 : decode cX9_toldBy 79 = .ok (.if_icmp .eq 16, 3) := by decide +kernel
theorem dX9_toldBy_82 : decode cX9_toldBy 82 = .ok (.iload 5, 2) := by decide +kernel
theorem dX9_toldBy_84 : decode cX9_toldBy 84 = .ok (.iconst 2, 1) := by decide +kernel
theorem dX9_toldBy_85 : decode cX9_toldBy 85 = .ok (.if_icmp .eq 10, 3) := by decide +kernel
theorem dX9_toldBy_88 : decode cX9_toldBy 88 = .ok (.iload 5, 2) := by decide +kernel
theorem dX9_toldBy_90 : decode cX9_toldBy 90 = .ok (.bipush 9, 2) := by decide +kernel
theorem dX9_toldBy_92 : decode cX9_toldBy 92 = .ok (.if_icmp .ne 63, 3) := by decide +kernel
theorem dX9_toldBy_95 : decode cX9_toldBy 95 = .ok (.aload_n 0, 1) := by decide +kernel
theorem dX9_toldBy_96 : decode cX9_toldBy 96 = .ok (.getfield 78, 3) := by decide +kernel
theorem dX9_toldBy_99 : decode cX9_toldBy 99 = .ok (.iload_n 3, 1) := by decide +kernel
theorem dX9_toldBy_100 : decode cX9_toldBy 100 = .ok (.iload 5, 2) := by decide +kernel
theorem dX9_toldBy_102 : decode cX9_toldBy 102 = .ok (.iconst 1, 1) := by decide +kernel
theorem dX9_toldBy_103 : decode cX9_toldBy 103 = .ok (.if_icmp .ne 14, 3) := by decide +kernel
theorem dX9_toldBy_106 : decode cX9_toldBy 106 = .ok (.aload_n 0, 1) := by decide +kernel
theorem dX9_toldBy_107 : decode cX9_toldBy 107 = .ok (.iload 6, 2) := by decide +kernel
theorem dX9_toldBy_109 : decode cX9_toldBy 109 = .ok (.iload_n 1, 1) := by decide +kernel
theorem dX9_toldBy_110 : decode cX9_toldBy 110 = .ok (.iload_n 2, 1) := by decide +kernel
theorem dX9_toldBy_111 : decode cX9_toldBy 111 = .ok (.invokevirtual 278, 3) := by decide +kernel
theorem dX9_toldBy_114 : decode cX9_toldBy 114 = .ok (.goto 34, 3) := by decide +kernel
theorem dX9_toldBy_117 : decode cX9_toldBy 117 = .ok (.iload 5, 2) := by decide +kernel
theorem dX9_toldBy_119 : decode cX9_toldBy 119 = .ok (.iconst 2, 1) := by decide +kernel
theorem dX9_toldBy_120 : decode cX9_toldBy 120 = .ok (.if_icmp .ne 14, 3) := by decide +kernel
theorem dX9_toldBy_123 : decode cX9_toldBy 123 = .ok (.aload_n 0, 1) := by decide +kernel
theorem dX9_toldBy_124 : decode cX9_toldBy 124 = .ok (.iload 6, 2) := by decide +kernel
theorem dX9_toldBy_126 : decode cX9_toldBy 126 = .ok (.iload_n 1, 1) := by decide +kernel
theorem dX9_toldBy_127 : decode cX9_toldBy 127 = .ok (.iload_n 2, 1) := by decide +kernel
theorem dX9_toldBy_128 : decode cX9_toldBy 128 = .ok (.invokevirtual 320, 3) := by decide +kernel
theorem dX9_toldBy_131 : decode cX9_toldBy 131 = .ok (.goto 17, 3) := by decide +kernel
theorem dX9_toldBy_134 : decode cX9_toldBy 134 = .ok (.iload_n 1, 1) := by decide +kernel
theorem dX9_toldBy_135 : decode cX9_toldBy 135 = .ok (.bipush 31, 2) := by decide +kernel
theorem dX9_toldBy_137 : decode cX9_toldBy 137 = .ok (.idiv, 1) := by decide +kernel
theorem dX9_toldBy_138 : decode cX9_toldBy 138 = .ok (.iload 6, 2) := by decide +kernel
theorem dX9_toldBy_140 : decode cX9_toldBy 140 = .ok (.if_icmp .ne 7, 3) := by decide +kernel
theorem dX9_toldBy_143 : decode cX9_toldBy 143 = .ok (.iconst 1, 1) := by decide +kernel
theorem dX9_toldBy_144 : decode cX9_toldBy 144 = .ok (.goto 4, 3) := by decide +kernel
theorem dX9_toldBy_147 : decode cX9_toldBy 147 = .ok (.iconst 0, 1) := by decide +kernel
theorem dX9_toldBy_148 : decode cX9_toldBy 148 = .ok (.iastore, 1) := by decide +kernel
theorem dX9_toldBy_149 : decode cX9_toldBy 149 = .ok (.iinc 3 1, 3) := by decide +kernel
theorem dX9_toldBy_152 : decode cX9_toldBy 152 = .ok (.goto 350, 3) := by decide +kernel
theorem dX9_toldBy_155 : decode cX9_toldBy 155 = .ok (.iload 5, 2) := by decide +kernel
theorem dX9_toldBy_157 : decode cX9_toldBy 157 = .ok (.iconst 3, 1) := by decide +kernel
theorem dX9_toldBy_158 : decode cX9_toldBy 158 = .ok (.if_icmp .ne 76, 3) := by decide +kernel
theorem dX9_toldBy_161 : decode cX9_toldBy 161 = .ok (.iload_n 3, 1) := by decide +kernel
theorem dX9_toldBy_162 : decode cX9_toldBy 162 = .ok (.iload 6, 2) := by decide +kernel
theorem dX9_toldBy_164 : decode cX9_toldBy 164 = .ok (.iconst 1, 1) := by decide +kernel
theorem dX9_toldBy_165 : decode cX9_toldBy 165 = .ok (.isub, 1) := by decide +kernel
theorem dX9_toldBy_166 : decode cX9_toldBy 166 = .ok (.isub, 1) := by decide +kernel
theorem dX9_toldBy_167 : decode cX9_toldBy 167 = .ok (.istore_n 3, 1) := by decide +kernel
theorem dX9_toldBy_168 : decode cX9_toldBy 168 = .ok (.iconst (-1), 1) := by decide +kernel
theorem dX9_toldBy_169 : decode cX9_toldBy 169 = .ok (.istore 7, 2) := by decide +kernel
theorem dX9_toldBy_171 : decode cX9_toldBy 171 = .ok (.iload 6, 2) := by decide +kernel
theorem dX9_toldBy_173 : decode cX9_toldBy 173 = .ok (.iconst 1, 1) := by decide +kernel
theorem dX9_toldBy_174 : decode cX9_toldBy 174 = .ok (.isub, 1) := by decide +kernel
theorem dX9_toldBy_175 : decode cX9_toldBy 175 = .ok (.istore 8, 2) := by decide +kernel
theorem dX9_toldBy_177 : decode cX9_toldBy 177 = .ok (.iload 8, 2) := by decide +kernel
theorem dX9_toldBy_179 : decode cX9_toldBy 179 = .ok (.ifCond .lt 42, 3) := by decide +kernel
theorem dX9_toldBy_182 : decode cX9_toldBy 182 = .ok (.aload_n 0, 1) := by decide +kernel
theorem dX9_toldBy_183 : decode cX9_toldBy 183 = .ok (.getfield 78, 3) := by decide +kernel
theorem dX9_toldBy_186 : decode cX9_toldBy 186 = .ok (.iload_n 3, 1) := by decide +kernel
theorem dX9_toldBy_187 : decode cX9_toldBy 187 = .ok (.iconst 1, 1) := by decide +kernel
theorem dX9_toldBy_188 : decode cX9_toldBy 188 = .ok (.isub, 1) := by decide +kernel
theorem dX9_toldBy_189 : decode cX9_toldBy 189 = .ok (.iload 8, 2) := by decide +kernel
theorem dX9_toldBy_191 : decode cX9_toldBy 191 = .ok (.iadd, 1) := by decide +kernel
theorem dX9_toldBy_192 : decode cX9_toldBy 192 = .ok (.iaload, 1) := by decide +kernel
theorem dX9_toldBy_193 : decode cX9_toldBy 193 = .ok (.iconst (-1), 1) := by decide +kernel
theorem dX9_toldBy_194 : decode cX9_toldBy 194 = .ok (.if_icmp .eq 17, 3) := by decide +kernel
theorem dX9_toldBy_197 : decode cX9_toldBy 197 = .ok (.aload_n 0, 1) := by decide +kernel
theorem dX9_toldBy_198 : decode cX9_toldBy 198 = .ok (.getfield 78, 3) := by decide +kernel
theorem dX9_toldBy_201 : decode cX9_toldBy 201 = .ok (.iload_n 3, 1) := by decide +kernel
theorem dX9_toldBy_202 : decode cX9_toldBy 202 = .ok (.iconst 1, 1) := by decide +kernel
theorem dX9_toldBy_203 : decode cX9_toldBy 203 = .ok (.isub, 1) := by decide +kernel
theorem dX9_toldBy_204 : decode cX9_toldBy 204 = .ok (.iload 8, 2) := by decide +kernel
theorem dX9_toldBy_206 : decode cX9_toldBy 206 = .ok (.iadd, 1) := by decide +kernel
theorem dX9_toldBy_207 : decode cX9_toldBy 207 = .ok (.iaload, 1) := by decide +kernel
theorem dX9_toldBy_208 : decode cX9_toldBy 208 = .ok (.goto 5, 3) := by decide +kernel
theorem dX9_toldBy_211 : decode cX9_toldBy 211 = .ok (.iload 7, 2) := by decide +kernel
theorem dX9_toldBy_213 : decode cX9_toldBy 213 = .ok (.istore 7, 2) := by decide +kernel
theorem dX9_toldBy_215 : decode cX9_toldBy 215 = .ok (.iinc 8 (-1), 3) := by decide +kernel
theorem dX9_toldBy_218 : decode cX9_toldBy 218 = .ok (.goto (-41), 3) := by decide +kernel
theorem dX9_toldBy_221 : decode cX9_toldBy 221 = .ok (.aload_n 0, 1) := by decide +kernel
theorem dX9_toldBy_222 : decode cX9_toldBy 222 = .ok (.getfield 78, 3) := by decide +kernel
theorem dX9_toldBy_225 : decode cX9_toldBy 225 = .ok (.iload_n 3, 1) := by decide +kernel
theorem dX9_toldBy_226 : decode cX9_toldBy 226 = .ok (.iconst 1, 1) := by decide +kernel
theorem dX9_toldBy_227 : decode cX9_toldBy 227 = .ok (.isub, 1) := by decide +kernel
theorem dX9_toldBy_228 : decode cX9_toldBy 228 = .ok (.iload 7, 2) := by decide +kernel
theorem dX9_toldBy_230 : decode cX9_toldBy 230 = .ok (.iastore, 1) := by decide +kernel
theorem dX9_toldBy_231 : decode cX9_toldBy 231 = .ok (.goto 271, 3) := by decide +kernel
theorem dX9_toldBy_234 : decode cX9_toldBy 234 = .ok (.iload 5, 2) := by decide +kernel
theorem dX9_toldBy_236 : decode cX9_toldBy 236 = .ok (.iconst 4, 1) := by decide +kernel
theorem dX9_toldBy_237 : decode cX9_toldBy 237 = .ok (.if_icmp .eq 10, 3) := by decide +kernel
theorem dX9_toldBy_240 : decode cX9_toldBy 240 = .ok (.iload 5, 2) := by decide +kernel
theorem dX9_toldBy_242 : decode cX9_toldBy 242 = .ok (.bipush 10, 2) := by decide +kernel
theorem dX9_toldBy_244 : decode cX9_toldBy 244 = .ok (.if_icmp .ne 116, 3) := by decide +kernel
theorem dX9_toldBy_247 : decode cX9_toldBy 247 = .ok (.iinc 3 (-1), 3) := by decide +kernel
theorem dX9_toldBy_250 : decode cX9_toldBy 250 = .ok (.aload_n 0, 1) := by decide +kernel
theorem dX9_toldBy_251 : decode cX9_toldBy 251 = .ok (.getfield 78, 3) := by decide +kernel
theorem dX9_toldBy_254 : decode cX9_toldBy 254 = .ok (.iload_n 3, 1) := by decide +kernel
theorem dX9_toldBy_255 : decode cX9_toldBy 255 = .ok (.iconst 1, 1) := by decide +kernel
theorem dX9_toldBy_256 : decode cX9_toldBy 256 = .ok (.isub, 1) := by decide +kernel
theorem dX9_toldBy_257 : decode cX9_toldBy 257 = .ok (.iaload, 1) := by decide +kernel
theorem dX9_toldBy_258 : decode cX9_toldBy 258 = .ok (.iconst (-1), 1) := by decide +kernel
theorem dX9_toldBy_259 : decode cX9_toldBy 259 = .ok (.if_icmp .eq 13, 3) := by decide +kernel
theorem dX9_toldBy_262 : decode cX9_toldBy 262 = .ok (.aload_n 0, 1) := by decide +kernel
theorem dX9_toldBy_263 : decode cX9_toldBy 263 = .ok (.getfield 78, 3) := by decide +kernel
theorem dX9_toldBy_266 : decode cX9_toldBy 266 = .ok (.iload_n 3, 1) := by decide +kernel
theorem dX9_toldBy_267 : decode cX9_toldBy 267 = .ok (.iaload, 1) := by decide +kernel
theorem dX9_toldBy_268 : decode cX9_toldBy 268 = .ok (.iconst (-1), 1) := by decide +kernel
theorem dX9_toldBy_269 : decode cX9_toldBy 269 = .ok (.if_icmp .ne 7, 3) := by decide +kernel
theorem dX9_toldBy_272 : decode cX9_toldBy 272 = .ok (.iconst 1, 1) := by decide +kernel
theorem dX9_toldBy_273 : decode cX9_toldBy 273 = .ok (.goto 4, 3) := by decide +kernel
theorem dX9_toldBy_276 : decode cX9_toldBy 276 = .ok (.iconst 0, 1) := by decide +kernel
theorem dX9_toldBy_277 : decode cX9_toldBy 277 = .ok (.istore 7, 2) := by decide +kernel
theorem dX9_toldBy_279 : decode cX9_toldBy 279 = .ok (.iload 5, 2) := by decide +kernel
theorem dX9_toldBy_281 : decode cX9_toldBy 281 = .ok (.iconst 4, 1) := by decide +kernel
theorem dX9_toldBy_282 : decode cX9_toldBy 282 = .ok (.if_icmp .ne 40, 3) := by decide +kernel
theorem dX9_toldBy_285 : decode cX9_toldBy 285 = .ok (.aload_n 0, 1) := by decide +kernel
theorem dX9_toldBy_286 : decode cX9_toldBy 286 = .ok (.getfield 78, 3) := by decide +kernel
theorem dX9_toldBy_289 : decode cX9_toldBy 289 = .ok (.iload_n 3, 1) := by decide +kernel
theorem dX9_toldBy_290 : decode cX9_toldBy 290 = .ok (.iconst 1, 1) := by decide +kernel
theorem dX9_toldBy_291 : decode cX9_toldBy 291 = .ok (.isub, 1) := by decide +kernel
theorem dX9_toldBy_292 : decode cX9_toldBy 292 = .ok (.iload 7, 2) := by decide +kernel
theorem dX9_toldBy_294 : decode cX9_toldBy 294 = .ok (.ifCond .eq 7, 3) := by decide +kernel
theorem dX9_toldBy_297 : decode cX9_toldBy 297 = .ok (.iconst (-1), 1) := by decide +kernel
theorem dX9_toldBy_298 : decode cX9_toldBy 298 = .ok (.goto 20, 3) := by decide +kernel
theorem dX9_toldBy_301 : decode cX9_toldBy 301 = .ok (.aload_n 0, 1) := by decide +kernel
theorem dX9_toldBy_302 : decode cX9_toldBy 302 = .ok (.getfield 78, 3) := by decide +kernel
theorem dX9_toldBy_305 : decode cX9_toldBy 305 = .ok (.iload_n 3, 1) := by decide +kernel
theorem dX9_toldBy_306 : decode cX9_toldBy 306 = .ok (.iconst 1, 1) := by decide +kernel
theorem dX9_toldBy_307 : decode cX9_toldBy 307 = .ok (.isub, 1) := by decide +kernel
theorem dX9_toldBy_308 : decode cX9_toldBy 308 = .ok (.iaload, 1) := by decide +kernel
theorem dX9_toldBy_309 : decode cX9_toldBy 309 = .ok (.aload_n 0, 1) := by decide +kernel
theorem dX9_toldBy_310 : decode cX9_toldBy 310 = .ok (.getfield 78, 3) := by decide +kernel
theorem dX9_toldBy_313 : decode cX9_toldBy 313 = .ok (.iload_n 3, 1) := by decide +kernel
theorem dX9_toldBy_314 : decode cX9_toldBy 314 = .ok (.iaload, 1) := by decide +kernel
theorem dX9_toldBy_315 : decode cX9_toldBy 315 = .ok (.iadd, 1) := by decide +kernel
theorem dX9_toldBy_316 : decode cX9_toldBy 316 = .ok (.iconst 2, 1) := by decide +kernel
theorem dX9_toldBy_317 : decode cX9_toldBy 317 = .ok (.idiv, 1) := by decide +kernel
theorem dX9_toldBy_318 : decode cX9_toldBy 318 = .ok (.iastore, 1) := by decide +kernel
theorem dX9_toldBy_319 : decode cX9_toldBy 319 = .ok (.goto 38, 3) := by decide +kernel
theorem dX9_toldBy_322 : decode cX9_toldBy 322 = .ok (.aload_n 0, 1) := by decide +kernel
theorem dX9_toldBy_323 : decode cX9_toldBy 323 = .ok (.getfield 78, 3) := by decide +kernel
theorem dX9_toldBy_326 : decode cX9_toldBy 326 = .ok (.iload_n 3, 1) := by decide +kernel
theorem dX9_toldBy_327 : decode cX9_toldBy 327 = .ok (.iconst 1, 1) := by decide +kernel
theorem dX9_toldBy_328 : decode cX9_toldBy 328 = .ok (.isub, 1) := by decide +kernel
theorem dX9_toldBy_329 : decode cX9_toldBy 329 = .ok (.iload 7, 2) := by decide +kernel
theorem dX9_toldBy_331 : decode cX9_toldBy 331 = .ok (.ifCond .ne 24, 3) := by decide +kernel
theorem dX9_toldBy_334 : decode cX9_toldBy 334 = .ok (.aload_n 0, 1) := by decide +kernel
theorem dX9_toldBy_335 : decode cX9_toldBy 335 = .ok (.getfield 78, 3) := by decide +kernel
theorem dX9_toldBy_338 : decode cX9_toldBy 338 = .ok (.iload_n 3, 1) := by decide +kernel
theorem dX9_toldBy_339 : decode cX9_toldBy 339 = .ok (.iconst 1, 1) := by decide +kernel
theorem dX9_toldBy_340 : decode cX9_toldBy 340 = .ok (.isub, 1) := by decide +kernel
theorem dX9_toldBy_341 : decode cX9_toldBy 341 = .ok (.iaload, 1) := by decide +kernel
theorem dX9_toldBy_342 : decode cX9_toldBy 342 = .ok (.aload_n 0, 1) := by decide +kernel
theorem dX9_toldBy_343 : decode cX9_toldBy 343 = .ok (.getfield 78, 3) := by decide +kernel
theorem dX9_toldBy_346 : decode cX9_toldBy 346 = .ok (.iload_n 3, 1) := by decide +kernel
theorem dX9_toldBy_347 : decode cX9_toldBy 347 = .ok (.iaload, 1) := by decide +kernel
theorem dX9_toldBy_348 : decode cX9_toldBy 348 = .ok (.if_icmp .ge 7, 3) := by decide +kernel
theorem dX9_toldBy_351 : decode cX9_toldBy 351 = .ok (.iconst 1, 1) := by decide +kernel
theorem dX9_toldBy_352 : decode cX9_toldBy 352 = .ok (.goto 4, 3) := by decide +kernel
theorem dX9_toldBy_355 : decode cX9_toldBy 355 = .ok (.iconst 0, 1) := by decide +kernel
theorem dX9_toldBy_356 : decode cX9_toldBy 356 = .ok (.iastore, 1) := by decide +kernel
theorem dX9_toldBy_357 : decode cX9_toldBy 357 = .ok (.goto 145, 3) := by decide +kernel
theorem dX9_toldBy_360 : decode cX9_toldBy 360 = .ok (.iload 5, 2) := by decide +kernel
theorem dX9_toldBy_362 : decode cX9_toldBy 362 = .ok (.iconst 5, 1) := by decide +kernel
theorem dX9_toldBy_363 : decode cX9_toldBy 363 = .ok (.if_icmp .ne 44, 3) := by decide +kernel
theorem dX9_toldBy_366 : decode cX9_toldBy 366 = .ok (.aload_n 0, 1) := by decide +kernel
theorem dX9_toldBy_367 : decode cX9_toldBy 367 = .ok (.getfield 78, 3) := by decide +kernel
theorem dX9_toldBy_370 : decode cX9_toldBy 370 = .ok (.iload_n 3, 1) := by decide +kernel
theorem dX9_toldBy_371 : decode cX9_toldBy 371 = .ok (.iconst 1, 1) := by decide +kernel
theorem dX9_toldBy_372 : decode cX9_toldBy 372 = .ok (.isub, 1) := by decide +kernel
theorem dX9_toldBy_373 : decode cX9_toldBy 373 = .ok (.aload_n 0, 1) := by decide +kernel
theorem dX9_toldBy_374 : decode cX9_toldBy 374 = .ok (.getfield 78, 3) := by decide +kernel
theorem dX9_toldBy_377 : decode cX9_toldBy 377 = .ok (.iload_n 3, 1) := by decide +kernel
theorem dX9_toldBy_378 : decode cX9_toldBy 378 = .ok (.iconst 1, 1) := by decide +kernel
theorem dX9_toldBy_379 : decode cX9_toldBy 379 = .ok (.isub, 1) := by decide +kernel
theorem dX9_toldBy_380 : decode cX9_toldBy 380 = .ok (.iaload, 1) := by decide +kernel
theorem dX9_toldBy_381 : decode cX9_toldBy 381 = .ok (.iconst (-1), 1) := by decide +kernel
theorem dX9_toldBy_382 : decode cX9_toldBy 382 = .ok (.if_icmp .ne 7, 3) := by decide +kernel
theorem dX9_toldBy_385 : decode cX9_toldBy 385 = .ok (.iconst (-1), 1) := by decide +kernel
theorem dX9_toldBy_386 : decode cX9_toldBy 386 = .ok (.goto 17, 3) := by decide +kernel
theorem dX9_toldBy_389 : decode cX9_toldBy 389 = .ok (.aload_n 0, 1) := by decide +kernel
theorem dX9_toldBy_390 : decode cX9_toldBy 390 = .ok (.getfield 78, 3) := by decide +kernel
theorem dX9_toldBy_393 : decode cX9_toldBy 393 = .ok (.iload_n 3, 1) := by decide +kernel
theorem dX9_toldBy_394 : decode cX9_toldBy 394 = .ok (.iconst 1, 1) := by decide +kernel
theorem dX9_toldBy_395 : decode cX9_toldBy 395 = .ok (.isub, 1) := by decide +kernel
theorem dX9_toldBy_396 : decode cX9_toldBy 396 = .ok (.iaload, 1) := by decide +kernel
theorem dX9_toldBy_397 : decode cX9_toldBy 397 = .ok (.iload 6, 2) := by decide +kernel
theorem dX9_toldBy_399 : decode cX9_toldBy 399 = .ok (.iadd, 1) := by decide +kernel
theorem dX9_toldBy_400 : decode cX9_toldBy 400 = .ok (.invokestatic 262, 3) := by decide +kernel
theorem dX9_toldBy_403 : decode cX9_toldBy 403 = .ok (.iastore, 1) := by decide +kernel
theorem dX9_toldBy_404 : decode cX9_toldBy 404 = .ok (.goto 98, 3) := by decide +kernel
theorem dX9_toldBy_407 : decode cX9_toldBy 407 = .ok (.iload 5, 2) := by decide +kernel
theorem dX9_toldBy_409 : decode cX9_toldBy 409 = .ok (.bipush 6, 2) := by decide +kernel
theorem dX9_toldBy_411 : decode cX9_toldBy 411 = .ok (.if_icmp .ne 46, 3) := by decide +kernel
theorem dX9_toldBy_414 : decode cX9_toldBy 414 = .ok (.iinc 3 (-2), 3) := by decide +kernel
theorem dX9_toldBy_417 : decode cX9_toldBy 417 = .ok (.aload_n 0, 1) := by decide +kernel
theorem dX9_toldBy_418 : decode cX9_toldBy 418 = .ok (.getfield 78, 3) := by decide +kernel
theorem dX9_toldBy_421 : decode cX9_toldBy 421 = .ok (.iload_n 3, 1) := by decide +kernel
theorem dX9_toldBy_422 : decode cX9_toldBy 422 = .ok (.iconst 1, 1) := by decide +kernel
theorem dX9_toldBy_423 : decode cX9_toldBy 423 = .ok (.isub, 1) := by decide +kernel
theorem dX9_toldBy_424 : decode cX9_toldBy 424 = .ok (.aload_n 0, 1) := by decide +kernel
theorem dX9_toldBy_425 : decode cX9_toldBy 425 = .ok (.getfield 78, 3) := by decide +kernel
theorem dX9_toldBy_428 : decode cX9_toldBy 428 = .ok (.iload_n 3, 1) := by decide +kernel
theorem dX9_toldBy_429 : decode cX9_toldBy 429 = .ok (.iconst 1, 1) := by decide +kernel
theorem dX9_toldBy_430 : decode cX9_toldBy 430 = .ok (.isub, 1) := by decide +kernel
theorem dX9_toldBy_431 : decode cX9_toldBy 431 = .ok (.iaload, 1) := by decide +kernel
theorem dX9_toldBy_432 : decode cX9_toldBy 432 = .ok (.iconst 1, 1) := by decide +kernel
theorem dX9_toldBy_433 : decode cX9_toldBy 433 = .ok (.if_icmp .ne 12, 3) := by decide +kernel
theorem dX9_toldBy_436 : decode cX9_toldBy 436 = .ok (.aload_n 0, 1) := by decide +kernel
theorem dX9_toldBy_437 : decode cX9_toldBy 437 = .ok (.getfield 78, 3) := by decide +kernel
theorem dX9_toldBy_440 : decode cX9_toldBy 440 = .ok (.iload_n 3, 1) := by decide +kernel
theorem dX9_toldBy_441 : decode cX9_toldBy 441 = .ok (.iaload, 1) := by decide +kernel
theorem dX9_toldBy_442 : decode cX9_toldBy 442 = .ok (.goto 11, 3) := by decide +kernel
theorem dX9_toldBy_445 : decode cX9_toldBy 445 = .ok (.aload_n 0, 1) := by decide +kernel
theorem dX9_toldBy_446 : decode cX9_toldBy 446 = .ok (.getfield 78, 3) := by decide +kernel
theorem dX9_toldBy_449 : decode cX9_toldBy 449 = .ok (.iload_n 3, 1) := by decide +kernel
theorem dX9_toldBy_450 : decode cX9_toldBy 450 = .ok (.iconst 1, 1) := by decide +kernel
theorem dX9_toldBy_451 : decode cX9_toldBy 451 = .ok (.iadd, 1) := by decide +kernel
theorem dX9_toldBy_452 : decode cX9_toldBy 452 = .ok (.iaload, 1) := by decide +kernel
theorem dX9_toldBy_453 : decode cX9_toldBy 453 = .ok (.iastore, 1) := by decide +kernel
theorem dX9_toldBy_454 : decode cX9_toldBy 454 = .ok (.goto 48, 3) := by decide +kernel
theorem dX9_toldBy_457 : decode cX9_toldBy 457 = .ok (.aload_n 0, 1) := by decide +kernel
theorem dX9_toldBy_458 : decode cX9_toldBy 458 = .ok (.getfield 78, 3) := by decide +kernel
theorem dX9_toldBy_461 : decode cX9_toldBy 461 = .ok (.iload_n 3, 1) := by decide +kernel
theorem dX9_toldBy_462 : decode cX9_toldBy 462 = .ok (.iconst 1, 1) := by decide +kernel
theorem dX9_toldBy_463 : decode cX9_toldBy 463 = .ok (.isub, 1) := by decide +kernel
theorem dX9_toldBy_464 : decode cX9_toldBy 464 = .ok (.iload 5, 2) := by decide +kernel
theorem dX9_toldBy_466 : decode cX9_toldBy 466 = .ok (.bipush 7, 2) := by decide +kernel
theorem dX9_toldBy_468 : decode cX9_toldBy 468 = .ok (.if_icmp .ne 16, 3) := by decide +kernel
theorem dX9_toldBy_471 : decode cX9_toldBy 471 = .ok (.iconst 1, 1) := by decide +kernel
theorem dX9_toldBy_472 : decode cX9_toldBy 472 = .ok (.aload_n 0, 1) := by decide +kernel
theorem dX9_toldBy_473 : decode cX9_toldBy 473 = .ok (.getfield 78, 3) := by decide +kernel
theorem dX9_toldBy_476 : decode cX9_toldBy 476 = .ok (.iload_n 3, 1) := by decide +kernel
theorem dX9_toldBy_477 : decode cX9_toldBy 477 = .ok (.iconst 1, 1) := by decide +kernel
theorem dX9_toldBy_478 : decode cX9_toldBy 478 = .ok (.isub, 1) := by decide +kernel
theorem dX9_toldBy_479 : decode cX9_toldBy 479 = .ok (.iaload, 1) := by decide +kernel
theorem dX9_toldBy_480 : decode cX9_toldBy 480 = .ok (.isub, 1) := by decide +kernel
theorem dX9_toldBy_481 : decode cX9_toldBy 481 = .ok (.goto 20, 3) := by decide +kernel
theorem dX9_toldBy_484 : decode cX9_toldBy 484 = .ok (.aload_n 0, 1) := by decide +kernel
theorem dX9_toldBy_485 : decode cX9_toldBy 485 = .ok (.getfield 78, 3) := by decide +kernel
theorem dX9_toldBy_488 : decode cX9_toldBy 488 = .ok (.iload_n 3, 1) := by decide +kernel
theorem dX9_toldBy_489 : decode cX9_toldBy 489 = .ok (.iconst 1, 1) := by decide +kernel
theorem dX9_toldBy_490 : decode cX9_toldBy 490 = .ok (.isub, 1) := by decide +kernel
theorem dX9_toldBy_491 : decode cX9_toldBy 491 = .ok (.iaload, 1) := by decide +kernel
theorem dX9_toldBy_492 : decode cX9_toldBy 492 = .ok (.iconst (-1), 1) := by decide +kernel
theorem dX9_toldBy_493 : decode cX9_toldBy 493 = .ok (.if_icmp .ne 7, 3) := by decide +kernel
theorem dX9_toldBy_496 : decode cX9_toldBy 496 = .ok (.iconst 1, 1) := by decide +kernel
theorem dX9_toldBy_497 : decode cX9_toldBy 497 = .ok (.goto 4, 3) := by decide +kernel
theorem dX9_toldBy_500 : decode cX9_toldBy 500 = .ok (.iconst 0, 1) := by decide +kernel
theorem dX9_toldBy_501 : decode cX9_toldBy 501 = .ok (.iastore, 1) := by decide +kernel
theorem dX9_toldBy_502 : decode cX9_toldBy 502 = .ok (.goto (-497), 3) := by decide +kernel
theorem dX9_toldBy_505 : decode cX9_toldBy 505 = .ok (.aload_n 0, 1) := by decide +kernel
theorem dX9_toldBy_506 : decode cX9_toldBy 506 = .ok (.getfield 78, 3) := by decide +kernel
theorem dX9_toldBy_509 : decode cX9_toldBy 509 = .ok (.iconst 0, 1) := by decide +kernel
theorem dX9_toldBy_510 : decode cX9_toldBy 510 = .ok (.iaload, 1) := by decide +kernel
theorem dX9_toldBy_511 : decode cX9_toldBy 511 = .ok (.ireturn, 1) := by decide +kernel
theorem dX9_lawful_0 : decode cX9_lawful 0 = .ok (.aload_n 0, 1) := by decide +kernel
theorem dX9_lawful_1 : decode cX9_lawful 1 = .ok (.iconst 0, 1) := by decide +kernel
theorem dX9_lawful_2 : decode cX9_lawful 2 = .ok (.putfield 102, 3) := by decide +kernel
theorem dX9_lawful_5 : decode cX9_lawful 5 = .ok (.aload_n 0, 1) := by decide +kernel
theorem dX9_lawful_6 : decode cX9_lawful 6 = .ok (.iload_n 1, 1) := by decide +kernel
theorem dX9_lawful_7 : decode cX9_lawful 7 = .ok (.invokevirtual 259, 3) := by decide +kernel
theorem dX9_lawful_10 : decode cX9_lawful 10 = .ok (.ifCond .eq 32, 3) := by decide +kernel
theorem dX9_lawful_13 : decode cX9_lawful 13 = .ok (.aload_n 0, 1) := by decide +kernel
theorem dX9_lawful_14 : decode cX9_lawful 14 = .ok (.iload_n 2, 1) := by decide +kernel
theorem dX9_lawful_15 : decode cX9_lawful 15 = .ok (.invokevirtual 275, 3) := by decide +kernel
theorem dX9_lawful_18 : decode cX9_lawful 18 = .ok (.ifCond .eq 24, 3) := by decide +kernel
theorem dX9_lawful_21 : decode cX9_lawful 21 = .ok (.aload_n 0, 1) := by decide +kernel
theorem dX9_lawful_22 : decode cX9_lawful 22 = .ok (.aload_n 0, 1) := by decide +kernel
theorem dX9_lawful_23 : decode cX9_lawful 23 = .ok (.getfield 233, 3) := by decide +kernel
theorem dX9_lawful_26 : decode cX9_lawful 26 = .ok (.iconst 2, 1) := by decide +kernel
theorem dX9_lawful_27 : decode cX9_lawful 27 = .ok (.invokevirtual 207, 3) := by decide +kernel
theorem dX9_lawful_30 : decode cX9_lawful 30 = .ok (.ifCond .eq 12, 3) := by decide +kernel
theorem dX9_lawful_33 : decode cX9_lawful 33 = .ok (.aload_n 0, 1) := by decide +kernel
theorem dX9_lawful_34 : decode cX9_lawful 34 = .ok (.iload_n 1, 1) := by decide +kernel
theorem dX9_lawful_35 : decode cX9_lawful 35 = .ok (.iload_n 2, 1) := by decide +kernel
theorem dX9_lawful_36 : decode cX9_lawful 36 = .ok (.invokevirtual 354, 3) := by decide +kernel
theorem dX9_lawful_39 : decode cX9_lawful 39 = .ok (.goto 4, 3) := by decide +kernel
theorem dX9_lawful_42 : decode cX9_lawful 42 = .ok (.iconst 0, 1) := by decide +kernel
theorem dX9_lawful_43 : decode cX9_lawful 43 = .ok (.ireturn, 1) := by decide +kernel
theorem dX9_judged_0 : decode cX9_judged 0 = .ok (.aload_n 0, 1) := by decide +kernel
theorem dX9_judged_1 : decode cX9_judged 1 = .ok (.iconst 0, 1) := by decide +kernel
theorem dX9_judged_2 : decode cX9_judged 2 = .ok (.putfield 102, 3) := by decide +kernel
theorem dX9_judged_5 : decode cX9_judged 5 = .ok (.aload_n 0, 1) := by decide +kernel
theorem dX9_judged_6 : decode cX9_judged 6 = .ok (.iload_n 1, 1) := by decide +kernel
theorem dX9_judged_7 : decode cX9_judged 7 = .ok (.invokevirtual 275, 3) := by decide +kernel
theorem dX9_judged_10 : decode cX9_judged 10 = .ok (.ifCond .eq 24, 3) := by decide +kernel
theorem dX9_judged_13 : decode cX9_judged 13 = .ok (.aload_n 0, 1) := by decide +kernel
theorem dX9_judged_14 : decode cX9_judged 14 = .ok (.iload_n 2, 1) := by decide +kernel
theorem dX9_judged_15 : decode cX9_judged 15 = .ok (.iconst 3, 1) := by decide +kernel
theorem dX9_judged_16 : decode cX9_judged 16 = .ok (.invokevirtual 246, 3) := by decide +kernel
theorem dX9_judged_19 : decode cX9_judged 19 = .ok (.ifCond .eq 15, 3) := by decide +kernel
theorem dX9_judged_22 : decode cX9_judged 22 = .ok (.aload_n 0, 1) := by decide +kernel
theorem dX9_judged_23 : decode cX9_judged 23 = .ok (.aload_n 0, 1) := by decide +kernel
theorem dX9_judged_24 : decode cX9_judged 24 = .ok (.getfield 233, 3) := by decide +kernel
theorem dX9_judged_27 : decode cX9_judged 27 = .ok (.iconst 2, 1) := by decide +kernel
theorem dX9_judged_28 : decode cX9_judged 28 = .ok (.invokevirtual 207, 3) := by decide +kernel
theorem dX9_judged_31 : decode cX9_judged 31 = .ok (.ifCond .ne 5, 3) := by decide +kernel
theorem dX9_judged_34 : decode cX9_judged 34 = .ok (.iconst 0, 1) := by decide +kernel
theorem dX9_judged_35 : decode cX9_judged 35 = .ok (.ireturn, 1) := by decide +kernel
theorem dX9_judged_36 : decode cX9_judged 36 = .ok (.iconst 0, 1) := by decide +kernel
theorem dX9_judged_37 : decode cX9_judged 37 = .ok (.istore_n 3, 1) := by decide +kernel
theorem dX9_judged_38 : decode cX9_judged 38 = .ok (.iconst 0, 1) := by decide +kernel
theorem dX9_judged_39 : decode cX9_judged 39 = .ok (.istore 4, 2) := by decide +kernel
theorem dX9_judged_41 : decode cX9_judged 41 = .ok (.iconst (-1), 1) := by decide +kernel
theorem dX9_judged_42 : decode cX9_judged 42 = .ok (.istore 5, 2) := by decide +kernel
theorem dX9_judged_44 : decode cX9_judged 44 = .ok (.iconst 0, 1) := by decide +kernel
theorem dX9_judged_45 : decode cX9_judged 45 = .ok (.istore 6, 2) := by decide +kernel
theorem dX9_judged_47 : decode cX9_judged 47 = .ok (.iconst 0, 1) := by decide +kernel
theorem dX9_judged_48 : decode cX9_judged 48 = .ok (.istore 7, 2) := by decide +kernel
theorem dX9_judged_50 : decode cX9_judged 50 = .ok (.iconst 0, 1) := by decide +kernel
theorem dX9_judged_51 : decode cX9_judged 51 = .ok (.istore 8, 2) := by decide +kernel
theorem dX9_judged_53 : decode cX9_judged 53 = .ok (.iload 8, 2) := by decide +kernel
theorem dX9_judged_55 : decode cX9_judged 55 = .ok (.sipush 365, 3) := by decide +kernel
theorem dX9_judged_58 : decode cX9_judged 58 = .ok (.if_icmp .ge 157, 3) := by decide +kernel
theorem dX9_judged_61 : decode cX9_judged 61 = .ok (.aload_n 0, 1) := by decide +kernel
theorem dX9_judged_62 : decode cX9_judged 62 = .ok (.iload 8, 2) := by decide +kernel
theorem dX9_judged_64 : decode cX9_judged 64 = .ok (.iload_n 1, 1) := by decide +kernel
theorem dX9_judged_65 : decode cX9_judged 65 = .ok (.invokevirtual 354, 3) := by decide +kernel
theorem dX9_judged_68 : decode cX9_judged 68 = .ok (.istore 9, 2) := by decide +kernel
theorem dX9_judged_70 : decode cX9_judged 70 = .ok (.iload 9, 2) := by decide +kernel
theorem dX9_judged_72 : decode cX9_judged 72 = .ok (.iconst (-1), 1) := by decide +kernel
theorem dX9_judged_73 : decode cX9_judged 73 = .ok (.if_icmp .ne 9, 3) := by decide +kernel
theorem dX9_judged_76 : decode cX9_judged 76 = .ok (.sipush 1440, 3) := by decide +kernel
theorem dX9_judged_79 : decode cX9_judged 79 = .ok (.goto 9, 3) := by decide +kernel
theorem dX9_judged_82 : decode cX9_judged 82 = .ok (.iload 9, 2) := by decide +kernel
theorem dX9_judged_84 : decode cX9_judged 84 = .ok (.iload_n 1, 1) := by decide +kernel
theorem dX9_judged_85 : decode cX9_judged 85 = .ok (.invokestatic 307, 3) := by decide +kernel
theorem dX9_judged_88 : decode cX9_judged 88 = .ok (.istore 10, 2) := by decide +kernel
theorem dX9_judged_90 : decode cX9_judged 90 = .ok (.iconst 1, 1) := by decide +kernel
theorem dX9_judged_91 : decode cX9_judged 91 = .ok (.istore 11, 2) := by decide +kernel
theorem dX9_judged_93 : decode cX9_judged 93 = .ok (.iconst 0, 1) := by decide +kernel
theorem dX9_judged_94 : decode cX9_judged 94 = .ok (.istore 12, 2) := by decide +kernel
theorem dX9_judged_96 : decode cX9_judged 96 = .ok (.iload 12, 2) := by decide +kernel
theorem dX9_judged_98 : decode cX9_judged 98 = .ok (.aload_n 0, 1) := by decide +kernel
theorem dX9_judged_99 : decode cX9_judged 99 = .ok (.getfield 214, 3) := by decide +kernel
theorem dX9_judged_102 : decode cX9_judged 102 = .ok (.if_icmp .ge 49, 3) := by decide +kernel
theorem dX9_judged_105 : decode cX9_judged 105 = .ok (.aload_n 0, 1) := by decide +kernel
theorem dX9_judged_106 : decode cX9_judged 106 = .ok (.iload 12, 2) := by decide +kernel
theorem dX9_judged_108 : decode cX9_judged 108 = .ok (.iload 8, 2) := by decide +kernel
theorem dX9_judged_110 : decode cX9_judged 110 = .ok (.iload_n 1, 1) := by decide +kernel
theorem dX9_judged_111 : decode cX9_judged 111 = .ok (.invokevirtual 278, 3) := by decide +kernel
theorem dX9_judged_114 : decode cX9_judged 114 = .ok (.istore 13, 2) := by decide +kernel
theorem dX9_judged_116 : decode cX9_judged 116 = .ok (.iload 11, 2) := by decide +kernel
theorem dX9_judged_118 : decode cX9_judged 118 = .ok (.ifCond .eq 24, 3) := by decide +kernel
theorem dX9_judged_121 : decode cX9_judged 121 = .ok (.iload 13, 2) := by decide +kernel
theorem dX9_judged_123 : decode cX9_judged 123 = .ok (.iconst (-1), 1) := by decide +kernel
theorem dX9_judged_124 : decode cX9_judged 124 = .ok (.if_icmp .eq 14, 3) := by decide +kernel
theorem dX9_judged_127 : decode cX9_judged 127 = .ok (.iload 13, 2) := by decide +kernel
theorem dX9_judged_129 : decode cX9_judged 129 = .ok (.iload_n 1, 1) := by decide +kernel
theorem dX9_judged_130 : decode cX9_judged 130 = .ok (.invokestatic 307, 3) := by decide +kernel
theorem dX9_judged_133 : decode cX9_judged 133 = .ok (.iload 10, 2) := by decide +kernel
theorem dX9_judged_135 : decode cX9_judged 135 = .ok (.if_icmp .lt 7, 3) := by decide +kernel
theorem dX9_judged_138 : decode cX9_judged 138 = .ok (.iconst 1, 1) := by decide +kernel
theorem dX9_judged_139 : decode cX9_judged 139 = .ok (.goto 4, 3) := by decide +kernel
theorem dX9_judged_142 : decode cX9_judged 142 = .ok (.iconst 0, 1) := by decide +kernel
theorem dX9_judged_143 : decode cX9_judged 143 = .ok (.istore 11, 2) := by decide +kernel
theorem dX9_judged_145 : decode cX9_judged 145 = .ok (.iinc 12 1, 3) := by decide +kernel
theorem dX9_judged_148 : decode cX9_judged 148 = .ok (.goto (-52), 3) := by decide +kernel
theorem dX9_judged_151 : decode cX9_judged 151 = .ok (.iload 7, 2) := by decide +kernel
theorem dX9_judged_153 : decode cX9_judged 153 = .ok (.iload 11, 2) := by decide +kernel
theorem dX9_judged_155 : decode cX9_judged 155 = .ok (.ifCond .eq 7, 3) := by decide +kernel
theorem dX9_judged_158 : decode cX9_judged 158 = .ok (.iconst 1, 1) := by decide +kernel
theorem dX9_judged_159 : decode cX9_judged 159 = .ok (.goto 4, 3) := by decide +kernel
theorem dX9_judged_162 : decode cX9_judged 162 = .ok (.iconst 0, 1) := by decide +kernel
theorem dX9_judged_163 : decode cX9_judged 163 = .ok (.iadd, 1) := by decide +kernel
theorem dX9_judged_164 : decode cX9_judged 164 = .ok (.istore 7, 2) := by decide +kernel
theorem dX9_judged_166 : decode cX9_judged 166 = .ok (.iload 9, 2) := by decide +kernel
theorem dX9_judged_168 : decode cX9_judged 168 = .ok (.iconst (-1), 1) := by decide +kernel
theorem dX9_judged_169 : decode cX9_judged 169 = .ok (.if_icmp .ne 6, 3) := by decide +kernel
theorem dX9_judged_172 : decode cX9_judged 172 = .ok (.goto 37, 3) := by decide +kernel
theorem dX9_judged_175 : decode cX9_judged 175 = .ok (.iinc 3 1, 3) := by decide +kernel
theorem dX9_judged_178 : decode cX9_judged 178 = .ok (.iload 4, 2) := by decide +kernel
theorem dX9_judged_180 : decode cX9_judged 180 = .ok (.iload 10, 2) := by decide +kernel
theorem dX9_judged_182 : decode cX9_judged 182 = .ok (.iadd, 1) := by decide +kernel
theorem dX9_judged_183 : decode cX9_judged 183 = .ok (.istore 4, 2) := by decide +kernel
theorem dX9_judged_185 : decode cX9_judged 185 = .ok (.iload 5, 2) := by decide +kernel
theorem dX9_judged_187 : decode cX9_judged 187 = .ok (.iconst (-1), 1) := by decide +kernel
theorem dX9_judged_188 : decode cX9_judged 188 = .ok (.if_icmp .eq 13, 3) := by decide +kernel
theorem dX9_judged_191 : decode cX9_judged 191 = .ok (.iload 10, 2) := by decide +kernel
theorem dX9_judged_193 : decode cX9_judged 193 = .ok (.iload 6, 2) := by decide +kernel
theorem dX9_judged_195 : decode cX9_judged 195 = .ok (.if_icmp .gt 6, 3) := by decide +kernel
theorem dX9_judged_198 : decode cX9_judged 198 = .ok (.goto 11, 3) := by decide +kernel
theorem dX9_judged_201 : decode cX9_judged 201 = .ok (.iload 8, 2) := by decide +kernel
theorem dX9_judged_203 : decode cX9_judged 203 = .ok (.istore 5, 2) := by decide +kernel
theorem dX9_judged_205 : decode cX9_judged 205 = .ok (.iload 10, 2) := by decide +kernel
theorem dX9_judged_207 : decode cX9_judged 207 = .ok (.istore 6, 2) := by decide +kernel
theorem dX9_judged_209 : decode cX9_judged 209 = .ok (.iinc 8 1, 3) := by decide +kernel
theorem dX9_judged_212 : decode cX9_judged 212 = .ok (.goto (-159), 3) := by decide +kernel
theorem dX9_judged_215 : decode cX9_judged 215 = .ok (.iload_n 2, 1) := by decide +kernel
theorem dX9_judged_216 : decode cX9_judged 216 = .ok (.ifCond .ne 7, 3) := by decide +kernel
theorem dX9_judged_219 : decode cX9_judged 219 = .ok (.iload_n 3, 1) := by decide +kernel
theorem dX9_judged_220 : decode cX9_judged 220 = .ok (.goto 25, 3) := by decide +kernel
theorem dX9_judged_223 : decode cX9_judged 223 = .ok (.iload_n 2, 1) := by decide +kernel
theorem dX9_judged_224 : decode cX9_judged 224 = .ok (.iconst 1, 1) := by decide +kernel
theorem dX9_judged_225 : decode cX9_judged 225 = .ok (.if_icmp .ne 8, 3) := by decide +kernel
theorem dX9_judged_228 : decode cX9_judged 228 = .ok (.iload 4, 2) := by decide +kernel
theorem dX9_judged_230 : decode cX9_judged 230 = .ok (.goto 15, 3) := by decide +kernel
theorem dX9_judged_233 : decode cX9_judged 233 = .ok (.iload_n 2, 1) := by decide +kernel
theorem dX9_judged_234 : decode cX9_judged 234 = .ok (.iconst 2, 1) := by decide +kernel
theorem dX9_judged_235 : decode cX9_judged 235 = .ok (.if_icmp .ne 8, 3) := by decide +kernel
theorem dX9_judged_238 : decode cX9_judged 238 = .ok (.iload 5, 2) := by decide +kernel
theorem dX9_judged_240 : decode cX9_judged 240 = .ok (.goto 5, 3) := by decide +kernel
theorem dX9_judged_243 : decode cX9_judged 243 = .ok (.iload 7, 2) := by decide +kernel
theorem dX9_judged_245 : decode cX9_judged 245 = .ok (.ireturn, 1) := by decide +kernel
theorem dX9_image_0 : decode cX9_image 0 = .ok (.aload_n 0, 1) := by decide +kernel
theorem dX9_image_1 : decode cX9_image 1 = .ok (.iconst 0, 1) := by decide +kernel
theorem dX9_image_2 : decode cX9_image 2 = .ok (.putfield 102, 3) := by decide +kernel
theorem dX9_image_5 : decode cX9_image 5 = .ok (.aload_n 0, 1) := by decide +kernel
theorem dX9_image_6 : decode cX9_image 6 = .ok (.iconst 1, 1) := by decide +kernel
theorem dX9_image_7 : decode cX9_image 7 = .ok (.putfield 236, 3) := by decide +kernel
theorem dX9_image_10 : decode cX9_image 10 = .ok (.aload_n 0, 1) := by decide +kernel
theorem dX9_image_11 : decode cX9_image 11 = .ok (.getfield 90, 3) := by decide +kernel
theorem dX9_image_14 : decode cX9_image 14 = .ok (.iconst 0, 1) := by decide +kernel
theorem dX9_image_15 : decode cX9_image 15 = .ok (.aload_n 0, 1) := by decide +kernel
theorem dX9_image_16 : decode cX9_image 16 = .ok (.getfield 224, 3) := by decide +kernel
theorem dX9_image_19 : decode cX9_image 19 = .ok (.iastore, 1) := by decide +kernel
theorem dX9_image_20 : decode cX9_image 20 = .ok (.aload_n 0, 1) := by decide +kernel
theorem dX9_image_21 : decode cX9_image 21 = .ok (.getfield 90, 3) := by decide +kernel
theorem dX9_image_24 : decode cX9_image 24 = .ok (.iconst 1, 1) := by decide +kernel
theorem dX9_image_25 : decode cX9_image 25 = .ok (.aload_n 0, 1) := by decide +kernel
theorem dX9_image_26 : decode cX9_image 26 = .ok (.getfield 227, 3) := by decide +kernel
theorem dX9_image_29 : decode cX9_image 29 = .ok (.iastore, 1) := by decide +kernel
theorem dX9_image_30 : decode cX9_image 30 = .ok (.aload_n 0, 1) := by decide +kernel
theorem dX9_image_31 : decode cX9_image 31 = .ok (.getfield 90, 3) := by decide +kernel
theorem dX9_image_34 : decode cX9_image 34 = .ok (.iconst 2, 1) := by decide +kernel
theorem dX9_image_35 : decode cX9_image 35 = .ok (.aload_n 0, 1) := by decide +kernel
theorem dX9_image_36 : decode cX9_image 36 = .ok (.getfield 230, 3) := by decide +kernel
theorem dX9_image_39 : decode cX9_image 39 = .ok (.iastore, 1) := by decide +kernel
theorem dX9_image_40 : decode cX9_image 40 = .ok (.aload_n 0, 1) := by decide +kernel
theorem dX9_image_41 : decode cX9_image 41 = .ok (.aload_n 0, 1) := by decide +kernel
theorem dX9_image_42 : decode cX9_image 42 = .ok (.getfield 54, 3) := by decide +kernel
theorem dX9_image_45 : decode cX9_image 45 = .ok (.aload_n 0, 1) := by decide +kernel
theorem dX9_image_46 : decode cX9_image 46 = .ok (.getfield 93, 3) := by decide +kernel
theorem dX9_image_49 : decode cX9_image 49 = .ok (.invokevirtual 220, 3) := by decide +kernel
theorem dX9_image_52 : decode cX9_image 52 = .ok (.aload_n 0, 1) := by decide +kernel
theorem dX9_image_53 : decode cX9_image 53 = .ok (.aload_n 0, 1) := by decide +kernel
theorem dX9_image_54 : decode cX9_image 54 = .ok (.getfield 63, 3) := by decide +kernel
theorem dX9_image_57 : decode cX9_image 57 = .ok (.aload_n 0, 1) := by decide +kernel
theorem dX9_image_58 : decode cX9_image 58 = .ok (.getfield 96, 3) := by decide +kernel
theorem dX9_image_61 : decode cX9_image 61 = .ok (.invokevirtual 220, 3) := by decide +kernel
theorem dX9_image_64 : decode cX9_image 64 = .ok (.aload_n 0, 1) := by decide +kernel
theorem dX9_image_65 : decode cX9_image 65 = .ok (.aload_n 0, 1) := by decide +kernel
theorem dX9_image_66 : decode cX9_image 66 = .ok (.getfield 51, 3) := by decide +kernel
theorem dX9_image_69 : decode cX9_image 69 = .ok (.aload_n 0, 1) := by decide +kernel
theorem dX9_image_70 : decode cX9_image 70 = .ok (.getfield 99, 3) := by decide +kernel
theorem dX9_image_73 : decode cX9_image 73 = .ok (.invokevirtual 220, 3) := by decide +kernel
theorem dX9_image_76 : decode cX9_image 76 = .ok (.return_, 1) := by decide +kernel
theorem dX9_restore_0 : decode cX9_restore 0 = .ok (.aload_n 0, 1) := by decide +kernel
theorem dX9_restore_1 : decode cX9_restore 1 = .ok (.iconst 0, 1) := by decide +kernel
theorem dX9_restore_2 : decode cX9_restore 2 = .ok (.putfield 102, 3) := by decide +kernel
theorem dX9_restore_5 : decode cX9_restore 5 = .ok (.aload_n 0, 1) := by decide +kernel
theorem dX9_restore_6 : decode cX9_restore 6 = .ok (.getfield 236, 3) := by decide +kernel
theorem dX9_restore_9 : decode cX9_restore 9 = .ok (.ifCond .ne 5, 3) := by decide +kernel
theorem dX9_restore_12 : decode cX9_restore 12 = .ok (.iconst 0, 1) := by decide +kernel
theorem dX9_restore_13 : decode cX9_restore 13 = .ok (.ireturn, 1) := by decide +kernel
theorem dX9_restore_14 : decode cX9_restore 14 = .ok (.aload_n 0, 1) := by decide +kernel
theorem dX9_restore_15 : decode cX9_restore 15 = .ok (.aload_n 0, 1) := by decide +kernel
theorem dX9_restore_16 : decode cX9_restore 16 = .ok (.getfield 90, 3) := by decide +kernel
theorem dX9_restore_19 : decode cX9_restore 19 = .ok (.iconst 0, 1) := by decide +kernel
theorem dX9_restore_20 : decode cX9_restore 20 = .ok (.iaload, 1) := by decide +kernel
theorem dX9_restore_21 : decode cX9_restore 21 = .ok (.putfield 224, 3) := by decide +kernel
theorem dX9_restore_24 : decode cX9_restore 24 = .ok (.aload_n 0, 1) := by decide +kernel
theorem dX9_restore_25 : decode cX9_restore 25 = .ok (.aload_n 0, 1) := by decide +kernel
theorem dX9_restore_26 : decode cX9_restore 26 = .ok (.getfield 90, 3) := by decide +kernel
theorem dX9_restore_29 : decode cX9_restore 29 = .ok (.iconst 1, 1) := by decide +kernel
theorem dX9_restore_30 : decode cX9_restore 30 = .ok (.iaload, 1) := by decide +kernel
theorem dX9_restore_31 : decode cX9_restore 31 = .ok (.putfield 227, 3) := by decide +kernel
theorem dX9_restore_34 : decode cX9_restore 34 = .ok (.aload_n 0, 1) := by decide +kernel
theorem dX9_restore_35 : decode cX9_restore 35 = .ok (.aload_n 0, 1) := by decide +kernel
theorem dX9_restore_36 : decode cX9_restore 36 = .ok (.getfield 90, 3) := by decide +kernel
theorem dX9_restore_39 : decode cX9_restore 39 = .ok (.iconst 2, 1) := by decide +kernel
theorem dX9_restore_40 : decode cX9_restore 40 = .ok (.iaload, 1) := by decide +kernel
theorem dX9_restore_41 : decode cX9_restore 41 = .ok (.putfield 230, 3) := by decide +kernel
theorem dX9_restore_44 : decode cX9_restore 44 = .ok (.aload_n 0, 1) := by decide +kernel
theorem dX9_restore_45 : decode cX9_restore 45 = .ok (.aload_n 0, 1) := by decide +kernel
theorem dX9_restore_46 : decode cX9_restore 46 = .ok (.getfield 93, 3) := by decide +kernel
theorem dX9_restore_49 : decode cX9_restore 49 = .ok (.aload_n 0, 1) := by decide +kernel
theorem dX9_restore_50 : decode cX9_restore 50 = .ok (.getfield 54, 3) := by decide +kernel
theorem dX9_restore_53 : decode cX9_restore 53 = .ok (.invokevirtual 220, 3) := by decide +kernel
theorem dX9_restore_56 : decode cX9_restore 56 = .ok (.aload_n 0, 1) := by decide +kernel
theorem dX9_restore_57 : decode cX9_restore 57 = .ok (.aload_n 0, 1) := by decide +kernel
theorem dX9_restore_58 : decode cX9_restore 58 = .ok (.getfield 96, 3) := by decide +kernel
theorem dX9_restore_61 : decode cX9_restore 61 = .ok (.aload_n 0, 1) := by decide +kernel
theorem dX9_restore_62 : decode cX9_restore 62 = .ok (.getfield 63, 3) := by decide +kernel
theorem dX9_restore_65 : decode cX9_restore 65 = .ok (.invokevirtual 220, 3) := by decide +kernel
theorem dX9_restore_68 : decode cX9_restore 68 = .ok (.aload_n 0, 1) := by decide +kernel
theorem dX9_restore_69 : decode cX9_restore 69 = .ok (.aload_n 0, 1) := by decide +kernel
theorem dX9_restore_70 : decode cX9_restore 70 = .ok (.getfield 99, 3) := by decide +kernel
theorem dX9_restore_73 : decode cX9_restore 73 = .ok (.aload_n 0, 1) := by decide +kernel
theorem dX9_restore_74 : decode cX9_restore 74 = .ok (.getfield 51, 3) := by decide +kernel
theorem dX9_restore_77 : decode cX9_restore 77 = .ok (.invokevirtual 220, 3) := by decide +kernel
theorem dX9_restore_80 : decode cX9_restore 80 = .ok (.iconst 1, 1) := by decide +kernel
theorem dX9_restore_81 : decode cX9_restore 81 = .ok (.ireturn, 1) := by decide +kernel
