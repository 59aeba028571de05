theorem dX8_init_0 : decode cX8_init 0 = .ok (.aload_n 0, 1) := by decide +kernel
theorem dX8_init_1 : decode cX8_init 1 = .ok (.invokespecial 1, 3) := by decide +kernel
theorem dX8_init_4 : decode cX8_init 4 = .ok (.aload_n 0, 1) := by decide +kernel
theorem dX8_init_5 : decode cX8_init 5 = .ok (.sipush 700, 3) := by decide +kernel
theorem dX8_init_8 : decode cX8_init 8 = .ok (.newarray .byte, 2) := by decide +kernel
theorem dX8_init_10 : decode cX8_init 10 = .ok (.putfield 9, 3) := by decide +kernel
theorem dX8_init_13 : decode cX8_init 13 = .ok (.aload_n 0, 1) := by decide +kernel
theorem dX8_init_14 : decode cX8_init 14 = .ok (.iconst 0, 1) := by decide +kernel
theorem dX8_init_15 : decode cX8_init 15 = .ok (.putfield 13, 3) := by decide +kernel
theorem dX8_init_18 : decode cX8_init 18 = .ok (.aload_n 0, 1) := by decide +kernel
theorem dX8_init_19 : decode cX8_init 19 = .ok (.iconst (-1), 1) := by decide +kernel
theorem dX8_init_20 : decode cX8_init 20 = .ok (.putfield 17, 3) := by decide +kernel
theorem dX8_init_23 : decode cX8_init 23 = .ok (.aload_n 0, 1) := by decide +kernel
theorem dX8_init_24 : decode cX8_init 24 = .ok (.iconst 4, 1) := by decide +kernel
theorem dX8_init_25 : decode cX8_init 25 = .ok (.newarray .int, 2) := by decide +kernel
theorem dX8_init_27 : decode cX8_init 27 = .ok (.putfield 20, 3) := by decide +kernel
theorem dX8_init_30 : decode cX8_init 30 = .ok (.aload_n 0, 1) := by decide +kernel
theorem dX8_init_31 : decode cX8_init 31 = .ok (.new 24, 3) := by decide +kernel
theorem dX8_init_34 : decode cX8_init 34 = .ok (.dup, 1) := by decide +kernel
theorem dX8_init_35 : decode cX8_init 35 = .ok (.invokespecial 26, 3) := by decide +kernel
theorem dX8_init_38 : decode cX8_init 38 = .ok (.putfield 27, 3) := by decide +kernel
theorem dX8_init_41 : decode cX8_init 41 = .ok (.aload_n 0, 1) := by decide +kernel
theorem dX8_init_42 : decode cX8_init 42 = .ok (.new 31, 3) := by decide +kernel
theorem dX8_init_45 : decode cX8_init 45 = .ok (.dup, 1) := by decide +kernel
theorem dX8_init_46 : decode cX8_init 46 = .ok (.invokespecial 33, 3) := by decide +kernel
theorem dX8_init_49 : decode cX8_init 49 = .ok (.putfield 34, 3) := by decide +kernel
theorem dX8_init_52 : decode cX8_init 52 = .ok (.aload_n 0, 1) := by decide +kernel
theorem dX8_init_53 : decode cX8_init 53 = .ok (.new 38, 3) := by decide +kernel
theorem dX8_init_56 : decode cX8_init 56 = .ok (.dup, 1) := by decide +kernel
theorem dX8_init_57 : decode cX8_init 57 = .ok (.invokespecial 40, 3) := by decide +kernel
theorem dX8_init_60 : decode cX8_init 60 = .ok (.putfield 41, 3) := by decide +kernel
theorem dX8_init_63 : decode cX8_init 63 = .ok (.aload_n 0, 1) := by decide +kernel
theorem dX8_init_64 : decode cX8_init 64 = .ok (.new 45, 3) := by decide +kernel
theorem dX8_init_67 : decode cX8_init 67 = .ok (.dup, 1) := by decide +kernel
theorem dX8_init_68 : decode cX8_init 68 = .ok (.invokespecial 47, 3) := by decide +kernel
theorem dX8_init_71 : decode cX8_init 71 = .ok (.putfield 48, 3) := by decide +kernel
theorem dX8_init_74 : decode cX8_init 74 = .ok (.aload_n 0, 1) := by decide +kernel
theorem dX8_init_75 : decode cX8_init 75 = .ok (.new 45, 3) := by decide +kernel
theorem dX8_init_78 : decode cX8_init 78 = .ok (.dup, 1) := by decide +kernel
theorem dX8_init_79 : decode cX8_init 79 = .ok (.invokespecial 47, 3) := by decide +kernel
theorem dX8_init_82 : decode cX8_init 82 = .ok (.putfield 52, 3) := by decide +kernel
theorem dX8_init_85 : decode cX8_init 85 = .ok (.aload_n 0, 1) := by decide +kernel
theorem dX8_init_86 : decode cX8_init 86 = .ok (.new 55, 3) := by decide +kernel
theorem dX8_init_89 : decode cX8_init 89 = .ok (.dup, 1) := by decide +kernel
theorem dX8_init_90 : decode cX8_init 90 = .ok (.invokespecial 57, 3) := by decide +kernel
theorem dX8_init_93 : decode cX8_init 93 = .ok (.putfield 58, 3) := by decide +kernel
theorem dX8_init_96 : decode cX8_init 96 = .ok (.aload_n 0, 1) := by decide +kernel
theorem dX8_init_97 : decode cX8_init 97 = .ok (.new 55, 3) := by decide +kernel
theorem dX8_init_100 : decode cX8_init 100 = .ok (.dup, 1) := by decide +kernel
theorem dX8_init_101 : decode cX8_init 101 = .ok (.invokespecial 57, 3) := by decide +kernel
theorem dX8_init_104 : decode cX8_init 104 = .ok (.putfield 62, 3) := by decide +kernel
theorem dX8_init_107 : decode cX8_init 107 = .ok (.aload_n 0, 1) := by decide +kernel
theorem dX8_init_108 : decode cX8_init 108 = .ok (.iconst 0, 1) := by decide +kernel
theorem dX8_init_109 : decode cX8_init 109 = .ok (.putfield 65, 3) := by decide +kernel
theorem dX8_init_112 : decode cX8_init 112 = .ok (.aload_n 0, 1) := by decide +kernel
theorem dX8_init_113 : decode cX8_init 113 = .ok (.new 69, 3) := by decide +kernel
theorem dX8_init_116 : decode cX8_init 116 = .ok (.dup, 1) := by decide +kernel
theorem dX8_init_117 : decode cX8_init 117 = .ok (.invokespecial 71, 3) := by decide +kernel
theorem dX8_init_120 : decode cX8_init 120 = .ok (.putfield 72, 3) := by decide +kernel
theorem dX8_init_123 : decode cX8_init 123 = .ok (.aload_n 0, 1) := by decide +kernel
theorem dX8_init_124 : decode cX8_init 124 = .ok (.new 69, 3) := by decide +kernel
theorem dX8_init_127 : decode cX8_init 127 = .ok (.dup, 1) := by decide +kernel
theorem dX8_init_128 : decode cX8_init 128 = .ok (.invokespecial 71, 3) := by decide +kernel
theorem dX8_init_131 : decode cX8_init 131 = .ok (.putfield 76, 3) := by decide +kernel
theorem dX8_init_134 : decode cX8_init 134 = .ok (.aload_n 0, 1) := by decide +kernel
theorem dX8_init_135 : decode cX8_init 135 = .ok (.iconst 0, 1) := by decide +kernel
theorem dX8_init_136 : decode cX8_init 136 = .ok (.putfield 79, 3) := by decide +kernel
theorem dX8_init_139 : decode cX8_init 139 = .ok (.aload_n 0, 1) := by decide +kernel
theorem dX8_init_140 : decode cX8_init 140 = .ok (.new 82, 3) := by decide +kernel
theorem dX8_init_143 : decode cX8_init 143 = .ok (.dup, 1) := by decide +kernel
theorem dX8_init_144 : decode cX8_init 144 = .ok (.invokespecial 84, 3) := by decide +kernel
theorem dX8_init_147 : decode cX8_init 147 = .ok (.putfield 85, 3) := by decide +kernel
theorem dX8_init_150 : decode cX8_init 150 = .ok (.aload_n 0, 1) := by decide +kernel
theorem dX8_init_151 : decode cX8_init 151 = .ok (.new 89, 3) := by decide +kernel
theorem dX8_init_154 : decode cX8_init 154 = .ok (.dup, 1) := by decide +kernel
theorem dX8_init_155 : decode cX8_init 155 = .ok (.invokespecial 91, 3) := by decide +kernel
theorem dX8_init_158 : decode cX8_init 158 = .ok (.putfield 92, 3) := by decide +kernel
theorem dX8_init_161 : decode cX8_init 161 = .ok (.aload_n 0, 1) := by decide +kernel
theorem dX8_init_162 : decode cX8_init 162 = .ok (.bipush 9, 2) := by decide +kernel
theorem dX8_init_164 : decode cX8_init 164 = .ok (.newarray .int, 2) := by decide +kernel
theorem dX8_init_166 : decode cX8_init 166 = .ok (.putfield 96, 3) := by decide +kernel
theorem dX8_init_169 : decode cX8_init 169 = .ok (.aload_n 0, 1) := by decide +kernel
theorem dX8_init_170 : decode cX8_init 170 = .ok (.bipush 9, 2) := by decide +kernel
theorem dX8_init_172 : decode cX8_init 172 = .ok (.newarray .int, 2) := by decide +kernel
theorem dX8_init_174 : decode cX8_init 174 = .ok (.putfield 99, 3) := by decide +kernel
theorem dX8_init_177 : decode cX8_init 177 = .ok (.aload_n 0, 1) := by decide +kernel
theorem dX8_init_178 : decode cX8_init 178 = .ok (.bipush 14, 2) := by decide +kernel
theorem dX8_init_180 : decode cX8_init 180 = .ok (.newarray .int, 2) := by decide +kernel
theorem dX8_init_182 : decode cX8_init 182 = .ok (.putfield 102, 3) := by decide +kernel
theorem dX8_init_185 : decode cX8_init 185 = .ok (.return_, 1) := by decide +kernel
theorem dX8_feed_0 : decode cX8_feed 0 = .ok (.aload_n 0, 1) := by decide +kernel
theorem dX8_feed_1 : decode cX8_feed 1 = .ok (.getfield 13, 3) := by decide +kernel
theorem dX8_feed_4 : decode cX8_feed 4 = .ok (.bipush 20, 2) := by decide +kernel
theorem dX8_feed_6 : decode cX8_feed 6 = .ok (.iadd, 1) := by decide +kernel
theorem dX8_feed_7 : decode cX8_feed 7 = .ok (.sipush 700, 3) := by decide +kernel
theorem dX8_feed_10 : decode cX8_feed 10 = .ok (.if_icmp .le 5, 3) := by decide +kernel
theorem dX8_feed_13 : decode cX8_feed 13 = .ok (.iconst (-1), 1) := by decide +kernel
theorem dX8_feed_14 : decode cX8_feed 14 = .ok (.ireturn, 1) := by decide +kernel
theorem dX8_feed_15 : decode cX8_feed 15 = .ok (.aload_n 0, 1) := by decide +kernel
theorem dX8_feed_16 : decode cX8_feed 16 = .ok (.iload_n 1, 1) := by decide +kernel
theorem dX8_feed_17 : decode cX8_feed 17 = .ok (.invokevirtual 105, 3) := by decide +kernel
theorem dX8_feed_20 : decode cX8_feed 20 = .ok (.aload_n 0, 1) := by decide +kernel
theorem dX8_feed_21 : decode cX8_feed 21 = .ok (.iload_n 2, 1) := by decide +kernel
theorem dX8_feed_22 : decode cX8_feed 22 = .ok (.invokevirtual 105, 3) := by decide +kernel
theorem dX8_feed_25 : decode cX8_feed 25 = .ok (.aload_n 0, 1) := by decide +kernel
theorem dX8_feed_26 : decode cX8_feed 26 = .ok (.iload_n 3, 1) := by decide +kernel
theorem dX8_feed_27 : decode cX8_feed 27 = .ok (.invokevirtual 105, 3) := by decide +kernel
theorem dX8_feed_30 : decode cX8_feed 30 = .ok (.aload_n 0, 1) := by decide +kernel
theorem dX8_feed_31 : decode cX8_feed 31 = .ok (.iload 4, 2) := by decide +kernel
theorem dX8_feed_33 : decode cX8_feed 33 = .ok (.invokevirtual 105, 3) := by decide +kernel
theorem dX8_feed_36 : decode cX8_feed 36 = .ok (.aload_n 0, 1) := by decide +kernel
theorem dX8_feed_37 : decode cX8_feed 37 = .ok (.iload 5, 2) := by decide +kernel
theorem dX8_feed_39 : decode cX8_feed 39 = .ok (.invokevirtual 105, 3) := by decide +kernel
theorem dX8_feed_42 : decode cX8_feed 42 = .ok (.aload_n 0, 1) := by decide +kernel
theorem dX8_feed_43 : decode cX8_feed 43 = .ok (.getfield 13, 3) := by decide +kernel
theorem dX8_feed_46 : decode cX8_feed 46 = .ok (.ireturn, 1) := by decide +kernel
theorem dX8_putBytes_0 : decode cX8_putBytes 0 = .ok (.bipush 24, 2) := by decide +kernel
theorem dX8_putBytes_2 : decode cX8_putBytes 2 = .ok (.istore_n 2, 1) := by decide +kernel
theorem dX8_putBytes_3 : decode cX8_putBytes 3 = .ok (.iload_n 2, 1) := by decide +kernel
theorem dX8_putBytes_4 : decode cX8_putBytes 4 = .ok (.ifCond .lt 44, 3) := by decide +kernel
theorem dX8_putBytes_7 : decode cX8_putBytes 7 = .ok (.aload_n 0, 1) := by decide +kernel
theorem dX8_putBytes_8 : decode cX8_putBytes 8 = .ok (.getfield 13, 3) := by decide +kernel
theorem dX8_putBytes_11 : decode cX8_putBytes 11 = .ok (.aload_n 0, 1) := by decide +kernel
theorem dX8_putBytes_12 : decode cX8_putBytes 12 = .ok (.getfield 9, 3) := by decide +kernel
theorem dX8_putBytes_15 : decode cX8_putBytes 15 = .ok (.arraylength, 1) := by decide +kernel
theorem dX8_putBytes_16 : decode cX8_putBytes 16 = .ok (.if_icmp .ge 26, 3) := by decide +kernel
theorem dX8_putBytes_19 : decode cX8_putBytes 19 = .ok (.aload_n 0, 1) := by decide +kernel
theorem dX8_putBytes_20 : decode cX8_putBytes 20 = .ok (.getfield 9, 3) := by decide +kernel
theorem dX8_putBytes_23 : decode cX8_putBytes 23 = .ok (.aload_n 0, 1) := by decide +kernel
theorem dX8_putBytes_24 : decode cX8_putBytes 24 = .ok (.getfield 13, 3) := by decide +kernel
theorem dX8_putBytes_27 : decode cX8_putBytes 27 = .ok (.iload_n 1, 1) := by decide +kernel
theorem dX8_putBytes_28 : decode cX8_putBytes 28 = .ok (.iload_n 2, 1) := by decide +kernel
theorem dX8_putBytes_29 : decode cX8_putBytes 29 = .ok (.ishr, 1) := by decide +kernel
theorem dX8_putBytes_30 : decode cX8_putBytes 30 = .ok (.i2b, 1) := by decide +kernel
theorem dX8_putBytes_31 : decode cX8_putBytes 31 = .ok (.bastore, 1) := by decide +kernel
theorem dX8_putBytes_32 : decode cX8_putBytes 32 = .ok (.aload_n 0, 1) := by decide +kernel
theorem dX8_putBytes_33 : decode cX8_putBytes 33 = .ok (.dup, 1) := by decide +kernel
theorem dX8_putBytes_34 : decode cX8_putBytes 34 = .ok (.getfield 13, 3) := by decide +kernel
theorem dX8_putBytes_37 : decode cX8_putBytes 37 = .ok (.iconst 1, 1) := by decide +kernel
theorem dX8_putBytes_38 : decode cX8_putBytes 38 = .ok (.iadd, 1) := by decide +kernel
theorem dX8_putBytes_39 : decode cX8_putBytes 39 = .ok (.putfield 13, 3) := by decide +kernel
theorem dX8_putBytes_42 : decode cX8_putBytes 42 = .ok (.iinc 2 (-8), 3) := by decide +kernel
theorem dX8_putBytes_45 : decode cX8_putBytes 45 = .ok (.goto (-42), 3) := by decide +kernel
theorem dX8_putBytes_48 : decode cX8_putBytes 48 = .ok (.return_, 1) := by decide +kernel
theorem dX8_port_0 : decode cX8_port 0 = .ok (.aload_n 0, 1) := by decide +kernel
theorem dX8_port_1 : decode cX8_port 1 = .ok (.iload_n 1, 1) := by decide +kernel
theorem dX8_port_2 : decode cX8_port 2 = .ok (.invokevirtual 109, 3) := by decide +kernel
theorem dX8_port_5 : decode cX8_port 5 = .ok (.aload_n 0, 1) := by decide +kernel
theorem dX8_port_6 : decode cX8_port 6 = .ok (.iconst 0, 1) := by decide +kernel
theorem dX8_port_7 : decode cX8_port 7 = .ok (.putfield 13, 3) := by decide +kernel
theorem dX8_port_10 : decode cX8_port 10 = .ok (.aload_n 0, 1) := by decide +kernel
theorem dX8_port_11 : decode cX8_port 11 = .ok (.getfield 27, 3) := by decide +kernel
theorem dX8_port_14 : decode cX8_port 14 = .ok (.aload_n 0, 1) := by decide +kernel
theorem dX8_port_15 : decode cX8_port 15 = .ok (.getfield 9, 3) := by decide +kernel
theorem dX8_port_18 : decode cX8_port 18 = .ok (.iload_n 1, 1) := by decide +kernel
theorem dX8_port_19 : decode cX8_port 19 = .ok (.invokevirtual 112, 3) := by decide +kernel
theorem dX8_port_22 : decode cX8_port 22 = .ok (.aload_n 0, 1) := by decide +kernel
theorem dX8_port_23 : decode cX8_port 23 = .ok (.getfield 34, 3) := by decide +kernel
theorem dX8_port_26 : decode cX8_port 26 = .ok (.aload_n 0, 1) := by decide +kernel
theorem dX8_port_27 : decode cX8_port 27 = .ok (.getfield 52, 3) := by decide +kernel
theorem dX8_port_30 : decode cX8_port 30 = .ok (.aload_n 0, 1) := by decide +kernel
theorem dX8_port_31 : decode cX8_port 31 = .ok (.getfield 27, 3) := by decide +kernel
theorem dX8_port_34 : decode cX8_port 34 = .ok (.invokevirtual 116, 3) := by decide +kernel
theorem dX8_port_37 : decode cX8_port 37 = .ok (.ifCond .ne 8, 3) := by decide +kernel
theorem dX8_port_40 : decode cX8_port 40 = .ok (.aload_n 0, 1) := by decide +kernel
theorem dX8_port_41 : decode cX8_port 41 = .ok (.invokevirtual 120, 3) := by decide +kernel
theorem dX8_port_44 : decode cX8_port 44 = .ok (.ireturn, 1) := by decide +kernel
theorem dX8_port_45 : decode cX8_port 45 = .ok (.aload_n 0, 1) := by decide +kernel
theorem dX8_port_46 : decode cX8_port 46 = .ok (.getfield 52, 3) := by decide +kernel
theorem dX8_port_49 : decode cX8_port 49 = .ok (.astore_n 2, 1) := by decide +kernel
theorem dX8_port_50 : decode cX8_port 50 = .ok (.aload_n 0, 1) := by decide +kernel
theorem dX8_port_51 : decode cX8_port 51 = .ok (.aload_n 0, 1) := by decide +kernel
theorem dX8_port_52 : decode cX8_port 52 = .ok (.getfield 48, 3) := by decide +kernel
theorem dX8_port_55 : decode cX8_port 55 = .ok (.putfield 52, 3) := by decide +kernel
theorem dX8_port_58 : decode cX8_port 58 = .ok (.aload_n 0, 1) := by decide +kernel
theorem dX8_port_59 : decode cX8_port 59 = .ok (.aload_n 2, 1) := by decide +kernel
theorem dX8_port_60 : decode cX8_port 60 = .ok (.putfield 48, 3) := by decide +kernel
theorem dX8_port_63 : decode cX8_port 63 = .ok (.aload_n 0, 1) := by decide +kernel
theorem dX8_port_64 : decode cX8_port 64 = .ok (.getfield 72, 3) := by decide +kernel
theorem dX8_port_67 : decode cX8_port 67 = .ok (.invokevirtual 124, 3) := by decide +kernel
theorem dX8_port_70 : decode cX8_port 70 = .ok (.aload_n 0, 1) := by decide +kernel
theorem dX8_port_71 : decode cX8_port 71 = .ok (.iconst 0, 1) := by decide +kernel
theorem dX8_port_72 : decode cX8_port 72 = .ok (.putfield 79, 3) := by decide +kernel
theorem dX8_port_75 : decode cX8_port 75 = .ok (.aload_n 0, 1) := by decide +kernel
theorem dX8_port_76 : decode cX8_port 76 = .ok (.iconst 0, 1) := by decide +kernel
theorem dX8_port_77 : decode cX8_port 77 = .ok (.putfield 65, 3) := by decide +kernel
theorem dX8_port_80 : decode cX8_port 80 = .ok (.aload_n 0, 1) := by decide +kernel
theorem dX8_port_81 : decode cX8_port 81 = .ok (.iconst (-1), 1) := by decide +kernel
theorem dX8_port_82 : decode cX8_port 82 = .ok (.putfield 17, 3) := by decide +kernel
theorem dX8_port_85 : decode cX8_port 85 = .ok (.iconst 0, 1) := by decide +kernel
theorem dX8_port_86 : decode cX8_port 86 = .ok (.ireturn, 1) := by decide +kernel
theorem dX8_law_0 : decode cX8_law 0 = .ok (.aload_n 0, 1) := by decide +kernel
theorem dX8_law_1 : decode cX8_law 1 = .ok (.iload_n 1, 1) := by decide +kernel
theorem dX8_law_2 : decode cX8_law 2 = .ok (.invokevirtual 109, 3) := by decide +kernel
theorem dX8_law_5 : decode cX8_law 5 = .ok (.aload_n 0, 1) := by decide +kernel
theorem dX8_law_6 : decode cX8_law 6 = .ok (.iconst 0, 1) := by decide +kernel
theorem dX8_law_7 : decode cX8_law 7 = .ok (.putfield 13, 3) := by decide +kernel
theorem dX8_law_10 : decode cX8_law 10 = .ok (.aload_n 0, 1) := by decide +kernel
theorem dX8_law_11 : decode cX8_law 11 = .ok (.getfield 27, 3) := by decide +kernel
theorem dX8_law_14 : decode cX8_law 14 = .ok (.aload_n 0, 1) := by decide +kernel
theorem dX8_law_15 : decode cX8_law 15 = .ok (.getfield 9, 3) := by decide +kernel
theorem dX8_law_18 : decode cX8_law 18 = .ok (.iload_n 1, 1) := by decide +kernel
theorem dX8_law_19 : decode cX8_law 19 = .ok (.invokevirtual 112, 3) := by decide +kernel
theorem dX8_law_22 : decode cX8_law 22 = .ok (.aload_n 0, 1) := by decide +kernel
theorem dX8_law_23 : decode cX8_law 23 = .ok (.getfield 41, 3) := by decide +kernel
theorem dX8_law_26 : decode cX8_law 26 = .ok (.aload_n 0, 1) := by decide +kernel
theorem dX8_law_27 : decode cX8_law 27 = .ok (.getfield 62, 3) := by decide +kernel
theorem dX8_law_30 : decode cX8_law 30 = .ok (.aload_n 0, 1) := by decide +kernel
theorem dX8_law_31 : decode cX8_law 31 = .ok (.getfield 27, 3) := by decide +kernel
theorem dX8_law_34 : decode cX8_law 34 = .ok (.aload_n 0, 1) := by decide +kernel
theorem dX8_law_35 : decode cX8_law 35 = .ok (.getfield 48, 3) := by decide +kernel
theorem dX8_law_38 : decode cX8_law 38 = .ok (.getfield 127, 3) := by decide +kernel
theorem dX8_law_41 : decode cX8_law 41 = .ok (.invokevirtual 130, 3) := by decide +kernel
theorem dX8_law_44 : decode cX8_law 44 = .ok (.ifCond .ne 8, 3) := by decide +kernel
theorem dX8_law_47 : decode cX8_law 47 = .ok (.aload_n 0, 1) := by decide +kernel
theorem dX8_law_48 : decode cX8_law 48 = .ok (.invokevirtual 120, 3) := by decide +kernel
theorem dX8_law_51 : decode cX8_law 51 = .ok (.ireturn, 1) := by decide +kernel
theorem dX8_law_52 : decode cX8_law 52 = .ok (.aload_n 0, 1) := by decide +kernel
theorem dX8_law_53 : decode cX8_law 53 = .ok (.getfield 62, 3) := by decide +kernel
theorem dX8_law_56 : decode cX8_law 56 = .ok (.astore_n 2, 1) := by decide +kernel
theorem dX8_law_57 : decode cX8_law 57 = .ok (.aload_n 0, 1) := by decide +kernel
theorem dX8_law_58 : decode cX8_law 58 = .ok (.aload_n 0, 1) := by decide +kernel
theorem dX8_law_59 : decode cX8_law 59 = .ok (.getfield 58, 3) := by decide +kernel
theorem dX8_law_62 : decode cX8_law 62 = .ok (.putfield 62, 3) := by decide +kernel
theorem dX8_law_65 : decode cX8_law 65 = .ok (.aload_n 0, 1) := by decide +kernel
theorem dX8_law_66 : decode cX8_law 66 = .ok (.aload_n 2, 1) := by decide +kernel
theorem dX8_law_67 : decode cX8_law 67 = .ok (.putfield 58, 3) := by decide +kernel
theorem dX8_law_70 : decode cX8_law 70 = .ok (.aload_n 0, 1) := by decide +kernel
theorem dX8_law_71 : decode cX8_law 71 = .ok (.iconst 1, 1) := by decide +kernel
theorem dX8_law_72 : decode cX8_law 72 = .ok (.putfield 65, 3) := by decide +kernel
theorem dX8_law_75 : decode cX8_law 75 = .ok (.aload_n 0, 1) := by decide +kernel
theorem dX8_law_76 : decode cX8_law 76 = .ok (.iconst (-1), 1) := by decide +kernel
theorem dX8_law_77 : decode cX8_law 77 = .ok (.putfield 17, 3) := by decide +kernel
theorem dX8_law_80 : decode cX8_law 80 = .ok (.iconst 0, 1) := by decide +kernel
theorem dX8_law_81 : decode cX8_law 81 = .ok (.ireturn, 1) := by decide +kernel
theorem dX8_refuseText_0 : decode cX8_refuseText 0 = .ok (.aload_n 0, 1) := by decide +kernel
theorem dX8_refuseText_1 : decode cX8_refuseText 1 = .ok (.getfield 20, 3) := by decide +kernel
theorem dX8_refuseText_4 : decode cX8_refuseText 4 = .ok (.iconst 0, 1) := by decide +kernel
theorem dX8_refuseText_5 : decode cX8_refuseText 5 = .ok (.dup2, 1) := by decide +kernel
theorem dX8_refuseText_6 : decode cX8_refuseText 6 = .ok (.iaload, 1) := by decide +kernel
theorem dX8_refuseText_7 : decode cX8_refuseText 7 = .ok (.iconst 1, 1) := by decide +kernel
theorem dX8_refuseText_8 : decode cX8_refuseText 8 = .ok (.iadd, 1) := by decide +kernel
theorem dX8_refuseText_9 : decode cX8_refuseText 9 = .ok (.iastore, 1) := by decide +kernel
theorem dX8_refuseText_10 : decode cX8_refuseText 10 = .ok (.aload_n 0, 1) := by decide +kernel
theorem dX8_refuseText_11 : decode cX8_refuseText 11 = .ok (.aload_n 0, 1) := by decide +kernel
theorem dX8_refuseText_12 : decode cX8_refuseText 12 = .ok (.getfield 27, 3) := by decide +kernel
theorem dX8_refuseText_15 : decode cX8_refuseText 15 = .ok (.getfield 133, 3) := by decide +kernel
theorem dX8_refuseText_18 : decode cX8_refuseText 18 = .ok (.putfield 17, 3) := by decide +kernel
theorem dX8_refuseText_21 : decode cX8_refuseText 21 = .ok (.aload_n 0, 1) := by decide +kernel
theorem dX8_refuseText_22 : decode cX8_refuseText 22 = .ok (.getfield 27, 3) := by decide +kernel
theorem dX8_refuseText_25 : decode cX8_refuseText 25 = .ok (.getfield 136, 3) := by decide +kernel
theorem dX8_refuseText_28 : decode cX8_refuseText 28 = .ok (.ireturn, 1) := by decide +kernel
theorem dX8_lawful_0 : decode cX8_lawful 0 = .ok (.iload_n 1, 1) := by decide +kernel
theorem dX8_lawful_1 : decode cX8_lawful 1 = .ok (.invokestatic 139, 3) := by decide +kernel
theorem dX8_lawful_4 : decode cX8_lawful 4 = .ok (.iload_n 2, 1) := by decide +kernel
theorem dX8_lawful_5 : decode cX8_lawful 5 = .ok (.invokestatic 142, 3) := by decide +kernel
theorem dX8_lawful_8 : decode cX8_lawful 8 = .ok (.aload_n 0, 1) := by decide +kernel
theorem dX8_lawful_9 : decode cX8_lawful 9 = .ok (.invokevirtual 145, 3) := by decide +kernel
theorem dX8_lawful_12 : decode cX8_lawful 12 = .ok (.aload_n 0, 1) := by decide +kernel
theorem dX8_lawful_13 : decode cX8_lawful 13 = .ok (.iload_n 1, 1) := by decide +kernel
theorem dX8_lawful_14 : decode cX8_lawful 14 = .ok (.iload_n 2, 1) := by decide +kernel
theorem dX8_lawful_15 : decode cX8_lawful 15 = .ok (.invokevirtual 148, 3) := by decide +kernel
theorem dX8_lawful_18 : decode cX8_lawful 18 = .ok (.ireturn, 1) := by decide +kernel
theorem dX8_lawTells_0 : decode cX8_lawTells 0 = .ok (.aload_n 0, 1) := by decide +kernel
theorem dX8_lawTells_1 : decode cX8_lawTells 1 = .ok (.iload_n 1, 1) := by decide +kernel
theorem dX8_lawTells_2 : decode cX8_lawTells 2 = .ok (.iload_n 2, 1) := by decide +kernel
theorem dX8_lawTells_3 : decode cX8_lawTells 3 = .ok (.invokevirtual 152, 3) := by decide +kernel
theorem dX8_lawTells_6 : decode cX8_lawTells 6 = .ok (.aload_n 0, 1) := by decide +kernel
theorem dX8_lawTells_7 : decode cX8_lawTells 7 = .ok (.getfield 58, 3) := by decide +kernel
theorem dX8_lawTells_10 : decode cX8_lawTells 10 = .ok (.aload_n 0, 1) := by decide +kernel
theorem dX8_lawTells_11 : decode cX8_lawTells 11 = .ok (.getfield 96, 3) := by decide +kernel
theorem dX8_lawTells_14 : decode cX8_lawTells 14 = .ok (.iload_n 1, 1) := by decide +kernel
theorem dX8_lawTells_15 : decode cX8_lawTells 15 = .ok (.bipush 31, 2) := by decide +kernel
theorem dX8_lawTells_17 : decode cX8_lawTells 17 = .ok (.idiv, 1) := by decide +kernel
theorem dX8_lawTells_18 : decode cX8_lawTells 18 = .ok (.invokevirtual 156, 3) := by decide +kernel
theorem dX8_lawTells_21 : decode cX8_lawTells 21 = .ok (.ireturn, 1) := by decide +kernel
theorem dX8_judged_0 : decode cX8_judged 0 = .ok (.iload_n 1, 1) := by decide +kernel
theorem dX8_judged_1 : decode cX8_judged 1 = .ok (.invokestatic 142, 3) := by decide +kernel
theorem dX8_judged_4 : decode cX8_judged 4 = .ok (.iload_n 2, 1) := by decide +kernel
theorem dX8_judged_5 : decode cX8_judged 5 = .ok (.iconst 3, 1) := by decide +kernel
theorem dX8_judged_6 : decode cX8_judged 6 = .ok (.invokestatic 160, 3) := by decide +kernel
theorem dX8_judged_9 : decode cX8_judged 9 = .ok (.aload_n 0, 1) := by decide +kernel
theorem dX8_judged_10 : decode cX8_judged 10 = .ok (.invokevirtual 145, 3) := by decide +kernel
theorem dX8_judged_13 : decode cX8_judged 13 = .ok (.aload_n 0, 1) := by decide +kernel
theorem dX8_judged_14 : decode cX8_judged 14 = .ok (.getfield 92, 3) := by decide +kernel
theorem dX8_judged_17 : decode cX8_judged 17 = .ok (.invokevirtual 163, 3) := by decide +kernel
theorem dX8_judged_20 : decode cX8_judged 20 = .ok (.iconst 0, 1) := by decide +kernel
theorem dX8_judged_21 : decode cX8_judged 21 = .ok (.istore_n 3, 1) := by decide +kernel
theorem dX8_judged_22 : decode cX8_judged 22 = .ok (.iconst 0, 1) := by decide +kernel
theorem dX8_judged_23 : decode cX8_judged 23 = .ok (.istore 4, 2) := by decide +kernel
theorem dX8_judged_25 : decode cX8_judged 25 = .ok (.iload 4, 2) := by decide +kernel
theorem dX8_judged_27 : decode cX8_judged 27 = .ok (.sipush 365, 3) := by decide +kernel
theorem dX8_judged_30 : decode cX8_judged 30 = .ok (.if_icmp .ge 43, 3) := by decide +kernel
theorem dX8_judged_33 : decode cX8_judged 33 = .ok (.aload_n 0, 1) := by decide +kernel
theorem dX8_judged_34 : decode cX8_judged 34 = .ok (.iload 4, 2) := by decide +kernel
theorem dX8_judged_36 : decode cX8_judged 36 = .ok (.iload_n 1, 1) := by decide +kernel
theorem dX8_judged_37 : decode cX8_judged 37 = .ok (.invokevirtual 148, 3) := by decide +kernel
theorem dX8_judged_40 : decode cX8_judged 40 = .ok (.istore 5, 2) := by decide +kernel
theorem dX8_judged_42 : decode cX8_judged 42 = .ok (.aload_n 0, 1) := by decide +kernel
theorem dX8_judged_43 : decode cX8_judged 43 = .ok (.getfield 92, 3) := by decide +kernel
theorem dX8_judged_46 : decode cX8_judged 46 = .ok (.iload 4, 2) := by decide +kernel
theorem dX8_judged_48 : decode cX8_judged 48 = .ok (.iload 5, 2) := by decide +kernel
theorem dX8_judged_50 : decode cX8_judged 50 = .ok (.iload_n 1, 1) := by decide +kernel
theorem dX8_judged_51 : decode cX8_judged 51 = .ok (.invokevirtual 164, 3) := by decide +kernel
theorem dX8_judged_54 : decode cX8_judged 54 = .ok (.aload_n 0, 1) := by decide +kernel
theorem dX8_judged_55 : decode cX8_judged 55 = .ok (.iload 5, 2) := by decide +kernel
theorem dX8_judged_57 : decode cX8_judged 57 = .ok (.iload_n 1, 1) := by decide +kernel
theorem dX8_judged_58 : decode cX8_judged 58 = .ok (.invokevirtual 168, 3) := by decide +kernel
theorem dX8_judged_61 : decode cX8_judged 61 = .ok (.ifCond .ne 6, 3) := by decide +kernel
theorem dX8_judged_64 : decode cX8_judged 64 = .ok (.iinc 3 1, 3) := by decide +kernel
theorem dX8_judged_67 : decode cX8_judged 67 = .ok (.iinc 4 1, 3) := by decide +kernel
theorem dX8_judged_70 : decode cX8_judged 70 = .ok (.goto (-45), 3) := by decide +kernel
theorem dX8_judged_73 : decode cX8_judged 73 = .ok (.iload_n 2, 1) := by decide +kernel
theorem dX8_judged_74 : decode cX8_judged 74 = .ok (.tableswitch 50 0 2 #[26, 34, 42], 26) := by decide +kernel
theorem dX8_judged_100 : decode cX8_judged 100 = .ok (.aload_n 0, 1) := by decide +kernel
theorem dX8_judged_101 : decode cX8_judged 101 = .ok (.getfield 92, 3) := by decide +kernel
theorem dX8_judged_104 : decode cX8_judged 104 = .ok (.getfield 172, 3) := by decide +kernel
theorem dX8_judged_107 : decode cX8_judged 107 = .ok (.ireturn, 1) := by decide +kernel
theorem dX8_judged_108 : decode cX8_judged 108 = .ok (.aload_n 0, 1) := by decide +kernel
theorem dX8_judged_109 : decode cX8_judged 109 = .ok (.getfield 92, 3) := by decide +kernel
theorem dX8_judged_112 : decode cX8_judged 112 = .ok (.getfield 175, 3) := by decide +kernel
theorem dX8_judged_115 : decode cX8_judged 115 = .ok (.ireturn, 1) := by decide +kernel
theorem dX8_judged_116 : decode cX8_judged 116 = .ok (.aload_n 0, 1) := by decide +kernel
theorem dX8_judged_117 : decode cX8_judged 117 = .ok (.getfield 92, 3) := by decide +kernel
theorem dX8_judged_120 : decode cX8_judged 120 = .ok (.getfield 178, 3) := by decide +kernel
theorem dX8_judged_123 : decode cX8_judged 123 = .ok (.ireturn, 1) := by decide +kernel
theorem dX8_judged_124 : decode cX8_judged 124 = .ok (.iload_n 3, 1) := by decide +kernel
theorem dX8_judged_125 : decode cX8_judged 125 = .ok (.ireturn, 1) := by decide +kernel
theorem dX8_isBeaten_0 : decode cX8_isBeaten 0 = .ok (.iload_n 1, 1) := by decide +kernel
theorem dX8_isBeaten_1 : decode cX8_isBeaten 1 = .ok (.iconst (-1), 1) := by decide +kernel
theorem dX8_isBeaten_2 : decode cX8_isBeaten 2 = .ok (.if_icmp .ne 9, 3) := by decide +kernel
theorem dX8_isBeaten_5 : decode cX8_isBeaten 5 = .ok (.sipush 1440, 3) := by decide +kernel
theorem dX8_isBeaten_8 : decode cX8_isBeaten 8 = .ok (.goto 8, 3) := by decide +kernel
theorem dX8_isBeaten_11 : decode cX8_isBeaten 11 = .ok (.iload_n 1, 1) := by decide +kernel
theorem dX8_isBeaten_12 : decode cX8_isBeaten 12 = .ok (.iload_n 2, 1) := by decide +kernel
theorem dX8_isBeaten_13 : decode cX8_isBeaten 13 = .ok (.invokestatic 181, 3) := by decide +kernel
theorem dX8_isBeaten_16 : decode cX8_isBeaten 16 = .ok (.istore_n 3, 1) := by decide +kernel
theorem dX8_isBeaten_17 : decode cX8_isBeaten 17 = .ok (.iconst 0, 1) := by decide +kernel
theorem dX8_isBeaten_18 : decode cX8_isBeaten 18 = .ok (.istore 4, 2) := by decide +kernel
theorem dX8_isBeaten_20 : decode cX8_isBeaten 20 = .ok (.iload 4, 2) := by decide +kernel
theorem dX8_isBeaten_22 : decode cX8_isBeaten 22 = .ok (.aload_n 0, 1) := by decide +kernel
theorem dX8_isBeaten_23 : decode cX8_isBeaten 23 = .ok (.getfield 48, 3) := by decide +kernel
theorem dX8_isBeaten_26 : decode cX8_isBeaten 26 = .ok (.getfield 127, 3) := by decide +kernel
theorem dX8_isBeaten_29 : decode cX8_isBeaten 29 = .ok (.if_icmp .ge 37, 3) := by decide +kernel
theorem dX8_isBeaten_32 : decode cX8_isBeaten 32 = .ok (.aload_n 0, 1) := by decide +kernel
theorem dX8_isBeaten_33 : decode cX8_isBeaten 33 = .ok (.getfield 96, 3) := by decide +kernel
theorem dX8_isBeaten_36 : decode cX8_isBeaten 36 = .ok (.iload 4, 2) := by decide +kernel
theorem dX8_isBeaten_38 : decode cX8_isBeaten 38 = .ok (.iaload, 1) := by decide +kernel
theorem dX8_isBeaten_39 : decode cX8_isBeaten 39 = .ok (.iconst (-1), 1) := by decide +kernel
theorem dX8_isBeaten_40 : decode cX8_isBeaten 40 = .ok (.if_icmp .eq 20, 3) := by decide +kernel
theorem dX8_isBeaten_43 : decode cX8_isBeaten 43 = .ok (.aload_n 0, 1) := by decide +kernel
theorem dX8_isBeaten_44 : decode cX8_isBeaten 44 = .ok (.getfield 96, 3) := by decide +kernel
theorem dX8_isBeaten_47 : decode cX8_isBeaten 47 = .ok (.iload 4, 2) := by decide +kernel
theorem dX8_isBeaten_49 : decode cX8_isBeaten 49 = .ok (.iaload, 1) := by decide +kernel
theorem dX8_isBeaten_50 : decode cX8_isBeaten 50 = .ok (.iload_n 2, 1) := by decide +kernel
theorem dX8_isBeaten_51 : decode cX8_isBeaten 51 = .ok (.invokestatic 181, 3) := by decide +kernel
theorem dX8_isBeaten_54 : decode cX8_isBeaten 54 = .ok (.iload_n 3, 1) := by decide +kernel
theorem dX8_isBeaten_55 : decode cX8_isBeaten 55 = .ok (.if_icmp .ge 5, 3) := by decide +kernel
theorem dX8_isBeaten_58 : decode cX8_isBeaten 58 = .ok (.iconst 1, 1) := by decide +kernel
theorem dX8_isBeaten_59 : decode cX8_isBeaten 59 = .ok (.ireturn, 1) := by decide +kernel
theorem dX8_isBeaten_60 : decode cX8_isBeaten 60 = .ok (.iinc 4 1, 3) := by decide +kernel
theorem dX8_isBeaten_63 : decode cX8_isBeaten 63 = .ok (.goto (-43), 3) := by decide +kernel
theorem dX8_isBeaten_66 : decode cX8_isBeaten 66 = .ok (.iconst 0, 1) := by decide +kernel
theorem dX8_isBeaten_67 : decode cX8_isBeaten 67 = .ok (.ireturn, 1) := by decide +kernel
theorem dX8_fault_0 : decode cX8_fault 0 = .ok (.aload_n 0, 1) := by decide +kernel
theorem dX8_fault_1 : decode cX8_fault 1 = .ok (.getfield 17, 3) := by decide +kernel
theorem dX8_fault_4 : decode cX8_fault 4 = .ok (.ireturn, 1) := by decide +kernel
theorem dX8_count_0 : decode cX8_count 0 = .ok (.iload_n 1, 1) := by decide +kernel
theorem dX8_count_1 : decode cX8_count 1 = .ok (.bipush 20, 2) := by decide +kernel
theorem dX8_count_3 : decode cX8_count 3 = .ok (.if_icmp .lt 22, 3) := by decide +kernel
theorem dX8_count_6 : decode cX8_count 6 = .ok (.iload_n 1, 1) := by decide +kernel
theorem dX8_count_7 : decode cX8_count 7 = .ok (.bipush 32, 2) := by decide +kernel
theorem dX8_count_9 : decode cX8_count 9 = .ok (.if_icmp .ge 16, 3) := by decide +kernel
theorem dX8_count_12 : decode cX8_count 12 = .ok (.aload_n 0, 1) := by decide +kernel
theorem dX8_count_13 : decode cX8_count 13 = .ok (.getfield 48, 3) := by decide +kernel
theorem dX8_count_16 : decode cX8_count 16 = .ok (.getfield 184, 3) := by decide +kernel
theorem dX8_count_19 : decode cX8_count 19 = .ok (.iload_n 1, 1) := by decide +kernel
theorem dX8_count_20 : decode cX8_count 20 = .ok (.bipush 20, 2) := by decide +kernel
theorem dX8_count_22 : decode cX8_count 22 = .ok (.isub, 1) := by decide +kernel
theorem dX8_count_23 : decode cX8_count 23 = .ok (.iaload, 1) := by decide +kernel
theorem dX8_count_24 : decode cX8_count 24 = .ok (.ireturn, 1) := by decide +kernel
theorem dX8_count_25 : decode cX8_count 25 = .ok (.iload_n 1, 1) := by decide +kernel
theorem dX8_count_26 : decode cX8_count 26 = .ok (.bipush 7, 2) := by decide +kernel
theorem dX8_count_28 : decode cX8_count 28 = .ok (.if_icmp .lt 19, 3) := by decide +kernel
theorem dX8_count_31 : decode cX8_count 31 = .ok (.iload_n 1, 1) := by decide +kernel
theorem dX8_count_32 : decode cX8_count 32 = .ok (.bipush 10, 2) := by decide +kernel
theorem dX8_count_34 : decode cX8_count 34 = .ok (.if_icmp .gt 13, 3) := by decide +kernel
theorem dX8_count_37 : decode cX8_count 37 = .ok (.aload_n 0, 1) := by decide +kernel
theorem dX8_count_38 : decode cX8_count 38 = .ok (.getfield 20, 3) := by decide +kernel
theorem dX8_count_41 : decode cX8_count 41 = .ok (.iload_n 1, 1) := by decide +kernel
theorem dX8_count_42 : decode cX8_count 42 = .ok (.bipush 7, 2) := by decide +kernel
theorem dX8_count_44 : decode cX8_count 44 = .ok (.isub, 1) := by decide +kernel
theorem dX8_count_45 : decode cX8_count 45 = .ok (.iaload, 1) := by decide +kernel
theorem dX8_count_46 : decode cX8_count 46 = .ok (.ireturn, 1) := by decide +kernel
theorem dX8_count_47 : decode cX8_count 47 = .ok (.iload_n 1, 1) := by decide +kernel
theorem dX8_count_48 : decode cX8_count 48 = .ok (.tableswitch 97 0 6 #[44, 52, 60, 68, 76, 84, 92], 44) := by decide +kernel
theorem dX8_count_92 : decode cX8_count 92 = .ok (.aload_n 0, 1) := by decide +kernel
theorem dX8_count_93 : decode cX8_count 93 = .ok (.getfield 48, 3) := by decide +kernel
theorem dX8_count_96 : decode cX8_count 96 = .ok (.getfield 127, 3) := by decide +kernel
theorem dX8_count_99 : decode cX8_count 99 = .ok (.ireturn, 1) := by decide +kernel
theorem dX8_count_100 : decode cX8_count 100 = .ok (.aload_n 0, 1) := by decide +kernel
theorem dX8_count_101 : decode cX8_count 101 = .ok (.getfield 48, 3) := by decide +kernel
theorem dX8_count_104 : decode cX8_count 104 = .ok (.getfield 187, 3) := by decide +kernel
theorem dX8_count_107 : decode cX8_count 107 = .ok (.ireturn, 1) := by decide +kernel
theorem dX8_count_108 : decode cX8_count 108 = .ok (.aload_n 0, 1) := by decide +kernel
theorem dX8_count_109 : decode cX8_count 109 = .ok (.getfield 48, 3) := by decide +kernel
theorem dX8_count_112 : decode cX8_count 112 = .ok (.getfield 190, 3) := by decide +kernel
theorem dX8_count_115 : decode cX8_count 115 = .ok (.ireturn, 1) := by decide +kernel
theorem dX8_count_116 : decode cX8_count 116 = .ok (.aload_n 0, 1) := by decide +kernel
theorem dX8_count_117 : decode cX8_count 117 = .ok (.getfield 72, 3) := by decide +kernel
theorem dX8_count_120 : decode cX8_count 120 = .ok (.getfield 193, 3) := by decide +kernel
theorem dX8_count_123 : decode cX8_count 123 = .ok (.ireturn, 1) := by decide +kernel
theorem dX8_count_124 : decode cX8_count 124 = .ok (.aload_n 0, 1) := by decide +kernel
theorem dX8_count_125 : decode cX8_count 125 = .ok (.getfield 72, 3) := by decide +kernel
theorem dX8_count_128 : decode cX8_count 128 = .ok (.getfield 196, 3) := by decide +kernel
theorem dX8_count_131 : decode cX8_count 131 = .ok (.ireturn, 1) := by decide +kernel
theorem dX8_count_132 : decode cX8_count 132 = .ok (.aload_n 0, 1) := by decide +kernel
theorem dX8_count_133 : decode cX8_count 133 = .ok (.getfield 72, 3) := by decide +kernel
theorem dX8_count_136 : decode cX8_count 136 = .ok (.getfield 199, 3) := by decide +kernel
theorem dX8_count_139 : decode cX8_count 139 = .ok (.ireturn, 1) := by decide +kernel
theorem dX8_count_140 : decode cX8_count 140 = .ok (.aload_n 0, 1) := by decide +kernel
theorem dX8_count_141 : decode cX8_count 141 = .ok (.getfield 13, 3) := by decide +kernel
theorem dX8_count_144 : decode cX8_count 144 = .ok (.ireturn, 1) := by decide +kernel
theorem dX8_count_145 : decode cX8_count 145 = .ok (.new 202, 3) := by decide +kernel
theorem dX8_count_148 : decode cX8_count 148 = .ok (.dup, 1) := by decide +kernel
theorem dX8_count_149 : decode cX8_count 149 = .ok (.ldc 204, 2) := by decide +kernel
theorem dX8_count_151 : decode cX8_count 151 = .ok (.invokespecial 206, 3) := by decide +kernel
theorem dX8_count_154 : decode cX8_count 154 = .ok (.athrow, 1) := by decide +kernel
theorem dX8_dial_0 : decode cX8_dial 0 = .ok (.aload_n 0, 1) := by decide +kernel
theorem dX8_dial_1 : decode cX8_dial 1 = .ok (.iload_n 1, 1) := by decide +kernel
theorem dX8_dial_2 : decode cX8_dial 2 = .ok (.invokevirtual 209, 3) := by decide +kernel
theorem dX8_dial_5 : decode cX8_dial 5 = .ok (.iload_n 2, 1) := by decide +kernel
theorem dX8_dial_6 : decode cX8_dial 6 = .ok (.iconst 4, 1) := by decide +kernel
theorem dX8_dial_7 : decode cX8_dial 7 = .ok (.invokestatic 160, 3) := by decide +kernel
theorem dX8_dial_10 : decode cX8_dial 10 = .ok (.iload_n 2, 1) := by decide +kernel
theorem dX8_dial_11 : decode cX8_dial 11 = .ok (.tableswitch 69 0 3 #[29, 39, 49, 59], 29) := by decide +kernel
theorem dX8_dial_40 : decode cX8_dial 40 = .ok (.aload_n 0, 1) := by decide +kernel
theorem dX8_dial_41 : decode cX8_dial 41 = .ok (.getfield 48, 3) := by decide +kernel
theorem dX8_dial_44 : decode cX8_dial 44 = .ok (.getfield 212, 3) := by decide +kernel
theorem dX8_dial_47 : decode cX8_dial 47 = .ok (.iload_n 1, 1) := by decide +kernel
theorem dX8_dial_48 : decode cX8_dial 48 = .ok (.iaload, 1) := by decide +kernel
theorem dX8_dial_49 : decode cX8_dial 49 = .ok (.ireturn, 1) := by decide +kernel
theorem dX8_dial_50 : decode cX8_dial 50 = .ok (.aload_n 0, 1) := by decide +kernel
theorem dX8_dial_51 : decode cX8_dial 51 = .ok (.getfield 48, 3) := by decide +kernel
theorem dX8_dial_54 : decode cX8_dial 54 = .ok (.getfield 215, 3) := by decide +kernel
theorem dX8_dial_57 : decode cX8_dial 57 = .ok (.iload_n 1, 1) := by decide +kernel
theorem dX8_dial_58 : decode cX8_dial 58 = .ok (.iaload, 1) := by decide +kernel
theorem dX8_dial_59 : decode cX8_dial 59 = .ok (.ireturn, 1) := by decide +kernel
theorem dX8_dial_60 : decode cX8_dial 60 = .ok (.aload_n 0, 1) := by decide +kernel
theorem dX8_dial_61 : decode cX8_dial 61 = .ok (.getfield 48, 3) := by decide +kernel
theorem dX8_dial_64 : decode cX8_dial 64 = .ok (.getfield 218, 3) := by decide +kernel
theorem dX8_dial_67 : decode cX8_dial 67 = .ok (.iload_n 1, 1) := by decide +kernel
theorem dX8_dial_68 : decode cX8_dial 68 = .ok (.iaload, 1) := by decide +kernel
theorem dX8_dial_69 : decode cX8_dial 69 = .ok (.ireturn, 1) := by decide +kernel
theorem dX8_dial_70 : decode cX8_dial 70 = .ok (.aload_n 0, 1) := by decide +kernel
theorem dX8_dial_71 : decode cX8_dial 71 = .ok (.getfield 48, 3) := by decide +kernel
theorem dX8_dial_74 : decode cX8_dial 74 = .ok (.getfield 221, 3) := by decide +kernel
theorem dX8_dial_77 : decode cX8_dial 77 = .ok (.iload_n 1, 1) := by decide +kernel
theorem dX8_dial_78 : decode cX8_dial 78 = .ok (.iaload, 1) := by decide +kernel
theorem dX8_dial_79 : decode cX8_dial 79 = .ok (.ireturn, 1) := by decide +kernel
theorem dX8_dial_80 : decode cX8_dial 80 = .ok (.aload_n 0, 1) := by decide +kernel
theorem dX8_dial_81 : decode cX8_dial 81 = .ok (.getfield 48, 3) := by decide +kernel
theorem dX8_dial_84 : decode cX8_dial 84 = .ok (.getfield 224, 3) := by decide +kernel
theorem dX8_dial_87 : decode cX8_dial 87 = .ok (.iload_n 1, 1) := by decide +kernel
theorem dX8_dial_88 : decode cX8_dial 88 = .ok (.iaload, 1) := by decide +kernel
theorem dX8_dial_89 : decode cX8_dial 89 = .ok (.ireturn, 1) := by decide +kernel
theorem dX8_day_0 : decode cX8_day 0 = .ok (.iload_n 1, 1) := by decide +kernel
theorem dX8_day_1 : decode cX8_day 1 = .ok (.invokestatic 139, 3) := by decide +kernel
theorem dX8_day_4 : decode cX8_day 4 = .ok (.iload_n 2, 1) := by decide +kernel
theorem dX8_day_5 : decode cX8_day 5 = .ok (.iconst 1, 1) := by decide +kernel
theorem dX8_day_6 : decode cX8_day 6 = .ok (.invokestatic 160, 3) := by decide +kernel
theorem dX8_day_9 : decode cX8_day 9 = .ok (.iload_n 2, 1) := by decide +kernel
theorem dX8_day_10 : decode cX8_day 10 = .ok (.ifCond .ne 14, 3) := by decide +kernel
theorem dX8_day_13 : decode cX8_day 13 = .ok (.aload_n 0, 1) := by decide +kernel
theorem dX8_day_14 : decode cX8_day 14 = .ok (.getfield 48, 3) := by decide +kernel
theorem dX8_day_17 : decode cX8_day 17 = .ok (.iload_n 1, 1) := by decide +kernel
theorem dX8_day_18 : decode cX8_day 18 = .ok (.invokevirtual 227, 3) := by decide +kernel
theorem dX8_day_21 : decode cX8_day 21 = .ok (.goto 11, 3) := by decide +kernel
theorem dX8_day_24 : decode cX8_day 24 = .ok (.aload_n 0, 1) := by decide +kernel
theorem dX8_day_25 : decode cX8_day 25 = .ok (.getfield 48, 3) := by decide +kernel
theorem dX8_day_28 : decode cX8_day 28 = .ok (.iload_n 1, 1) := by decide +kernel
theorem dX8_day_29 : decode cX8_day 29 = .ok (.invokevirtual 231, 3) := by decide +kernel
theorem dX8_day_32 : decode cX8_day 32 = .ok (.ireturn, 1) := by decide +kernel
theorem dX8_tells_0 : decode cX8_tells 0 = .ok (.aload_n 0, 1) := by decide +kernel
theorem dX8_tells_1 : decode cX8_tells 1 = .ok (.iload_n 1, 1) := by decide +kernel
theorem dX8_tells_2 : decode cX8_tells 2 = .ok (.invokevirtual 209, 3) := by decide +kernel
theorem dX8_tells_5 : decode cX8_tells 5 = .ok (.iload_n 2, 1) := by decide +kernel
theorem dX8_tells_6 : decode cX8_tells 6 = .ok (.invokestatic 139, 3) := by decide +kernel
theorem dX8_tells_9 : decode cX8_tells 9 = .ok (.iload_n 3, 1) := by decide +kernel
theorem dX8_tells_10 : decode cX8_tells 10 = .ok (.invokestatic 142, 3) := by decide +kernel
theorem dX8_tells_13 : decode cX8_tells 13 = .ok (.aload_n 0, 1) := by decide +kernel
theorem dX8_tells_14 : decode cX8_tells 14 = .ok (.iload_n 1, 1) := by decide +kernel
theorem dX8_tells_15 : decode cX8_tells 15 = .ok (.iload_n 2, 1) := by decide +kernel
theorem dX8_tells_16 : decode cX8_tells 16 = .ok (.iload_n 3, 1) := by decide +kernel
theorem dX8_tells_17 : decode cX8_tells 17 = .ok (.invokevirtual 234, 3) := by decide +kernel
theorem dX8_tells_20 : decode cX8_tells 20 = .ok (.ireturn, 1) := by decide +kernel
theorem dX8_toldNow_0 : decode cX8_toldNow 0 = .ok (.aload_n 0, 1) := by decide +kernel
theorem dX8_toldNow_1 : decode cX8_toldNow 1 = .ok (.getfield 48, 3) := by decide +kernel
theorem dX8_toldNow_4 : decode cX8_toldNow 4 = .ok (.iload_n 1, 1) := by decide +kernel
theorem dX8_toldNow_5 : decode cX8_toldNow 5 = .ok (.iload_n 2, 1) := by decide +kernel
theorem dX8_toldNow_6 : decode cX8_toldNow 6 = .ok (.iload_n 3, 1) := by decide +kernel
theorem dX8_toldNow_7 : decode cX8_toldNow 7 = .ok (.aload_n 0, 1) := by decide +kernel
theorem dX8_toldNow_8 : decode cX8_toldNow 8 = .ok (.iload_n 1, 1) := by decide +kernel
theorem dX8_toldNow_9 : decode cX8_toldNow 9 = .ok (.iload_n 2, 1) := by decide +kernel
theorem dX8_toldNow_10 : decode cX8_toldNow 10 = .ok (.invokevirtual 238, 3) := by decide +kernel
theorem dX8_toldNow_13 : decode cX8_toldNow 13 = .ok (.aload_n 0, 1) := by decide +kernel
theorem dX8_toldNow_14 : decode cX8_toldNow 14 = .ok (.getfield 48, 3) := by decide +kernel
theorem dX8_toldNow_17 : decode cX8_toldNow 17 = .ok (.getfield 218, 3) := by decide +kernel
theorem dX8_toldNow_20 : decode cX8_toldNow 20 = .ok (.iload_n 1, 1) := by decide +kernel
theorem dX8_toldNow_21 : decode cX8_toldNow 21 = .ok (.iaload, 1) := by decide +kernel
theorem dX8_toldNow_22 : decode cX8_toldNow 22 = .ok (.invokevirtual 241, 3) := by decide +kernel
theorem dX8_toldNow_25 : decode cX8_toldNow 25 = .ok (.ireturn, 1) := by decide +kernel
theorem dX8_turn_0 : decode cX8_turn 0 = .ok (.aload_n 0, 1) := by decide +kernel
theorem dX8_turn_1 : decode cX8_turn 1 = .ok (.iload_n 1, 1) := by decide +kernel
theorem dX8_turn_2 : decode cX8_turn 2 = .ok (.invokevirtual 209, 3) := by decide +kernel
theorem dX8_turn_5 : decode cX8_turn 5 = .ok (.iload_n 2, 1) := by decide +kernel
theorem dX8_turn_6 : decode cX8_turn 6 = .ok (.invokestatic 139, 3) := by decide +kernel
theorem dX8_turn_9 : decode cX8_turn 9 = .ok (.aload_n 0, 1) := by decide +kernel
theorem dX8_turn_10 : decode cX8_turn 10 = .ok (.iload_n 1, 1) := by decide +kernel
theorem dX8_turn_11 : decode cX8_turn 11 = .ok (.iload_n 2, 1) := by decide +kernel
theorem dX8_turn_12 : decode cX8_turn 12 = .ok (.invokevirtual 238, 3) := by decide +kernel
theorem dX8_turn_15 : decode cX8_turn 15 = .ok (.ireturn, 1) := by decide +kernel
theorem dX8_turnOn_0 : decode cX8_turnOn 0 = .ok (.aload_n 0, 1) := by decide +kernel
theorem dX8_turnOn_1 : decode cX8_turnOn 1 = .ok (.getfield 72, 3) := by decide +kernel
theorem dX8_turnOn_4 : decode cX8_turnOn 4 = .ok (.iload_n 1, 1) := by decide +kernel
theorem dX8_turnOn_5 : decode cX8_turnOn 5 = .ok (.iload_n 2, 1) := by decide +kernel
theorem dX8_turnOn_6 : decode cX8_turnOn 6 = .ok (.aload_n 0, 1) := by decide +kernel
theorem dX8_turnOn_7 : decode cX8_turnOn 7 = .ok (.getfield 48, 3) := by decide +kernel
theorem dX8_turnOn_10 : decode cX8_turnOn 10 = .ok (.getfield 215, 3) := by decide +kernel
theorem dX8_turnOn_13 : decode cX8_turnOn 13 = .ok (.iload_n 1, 1) := by decide +kernel
theorem dX8_turnOn_14 : decode cX8_turnOn 14 = .ok (.iaload, 1) := by decide +kernel
theorem dX8_turnOn_15 : decode cX8_turnOn 15 = .ok (.invokevirtual 245, 3) := by decide +kernel
theorem dX8_turnOn_18 : decode cX8_turnOn 18 = .ok (.ireturn, 1) := by decide +kernel
theorem dX8_read_0 : decode cX8_read 0 = .ok (.aload_n 0, 1) := by decide +kernel
theorem dX8_read_1 : decode cX8_read 1 = .ok (.iload_n 1, 1) := by decide +kernel
theorem dX8_read_2 : decode cX8_read 2 = .ok (.invokevirtual 209, 3) := by decide +kernel
theorem dX8_read_5 : decode cX8_read 5 = .ok (.iload_n 2, 1) := by decide +kernel
theorem dX8_read_6 : decode cX8_read 6 = .ok (.invokestatic 139, 3) := by decide +kernel
theorem dX8_read_9 : decode cX8_read 9 = .ok (.iload_n 3, 1) := by decide +kernel
theorem dX8_read_10 : decode cX8_read 10 = .ok (.invokestatic 142, 3) := by decide +kernel
theorem dX8_read_13 : decode cX8_read 13 = .ok (.iload 4, 2) := by decide +kernel
theorem dX8_read_15 : decode cX8_read 15 = .ok (.invokestatic 142, 3) := by decide +kernel
theorem dX8_read_18 : decode cX8_read 18 = .ok (.aload_n 0, 1) := by decide +kernel
theorem dX8_read_19 : decode cX8_read 19 = .ok (.getfield 72, 3) := by decide +kernel
theorem dX8_read_22 : decode cX8_read 22 = .ok (.getfield 193, 3) := by decide +kernel
theorem dX8_read_25 : decode cX8_read 25 = .ok (.bipush 12, 2) := by decide +kernel
theorem dX8_read_27 : decode cX8_read 27 = .ok (.if_icmp .lt 15, 3) := by decide +kernel
theorem dX8_read_30 : decode cX8_read 30 = .ok (.aload_n 0, 1) := by decide +kernel
theorem dX8_read_31 : decode cX8_read 31 = .ok (.getfield 20, 3) := by decide +kernel
theorem dX8_read_34 : decode cX8_read 34 = .ok (.iconst 1, 1) := by decide +kernel
theorem dX8_read_35 : decode cX8_read 35 = .ok (.dup2, 1) := by decide +kernel
theorem dX8_read_36 : decode cX8_read 36 = .ok (.iaload, 1) := by decide +kernel
theorem dX8_read_37 : decode cX8_read 37 = .ok (.iconst 1, 1) := by decide +kernel
theorem dX8_read_38 : decode cX8_read 38 = .ok (.iadd, 1) := by decide +kernel
theorem dX8_read_39 : decode cX8_read 39 = .ok (.iastore, 1) := by decide +kernel
theorem dX8_read_40 : decode cX8_read 40 = .ok (.iconst (-1), 1) := by decide +kernel
theorem dX8_read_41 : decode cX8_read 41 = .ok (.ireturn, 1) := by decide +kernel
theorem dX8_read_42 : decode cX8_read 42 = .ok (.aload_n 0, 1) := by decide +kernel
theorem dX8_read_43 : decode cX8_read 43 = .ok (.getfield 72, 3) := by decide +kernel
theorem dX8_read_46 : decode cX8_read 46 = .ok (.iload_n 1, 1) := by decide +kernel
theorem dX8_read_47 : decode cX8_read 47 = .ok (.iload_n 2, 1) := by decide +kernel
theorem dX8_read_48 : decode cX8_read 48 = .ok (.iload_n 3, 1) := by decide +kernel
theorem dX8_read_49 : decode cX8_read 49 = .ok (.iload 4, 2) := by decide +kernel
theorem dX8_read_51 : decode cX8_read 51 = .ok (.invokevirtual 248, 3) := by decide +kernel
theorem dX8_read_54 : decode cX8_read 54 = .ok (.ireturn, 1) := by decide +kernel
theorem dX8_unread_0 : decode cX8_unread 0 = .ok (.aload_n 0, 1) := by decide +kernel
theorem dX8_unread_1 : decode cX8_unread 1 = .ok (.getfield 72, 3) := by decide +kernel
theorem dX8_unread_4 : decode cX8_unread 4 = .ok (.getfield 193, 3) := by decide +kernel
theorem dX8_unread_7 : decode cX8_unread 7 = .ok (.ifCond .gt 5, 3) := by decide +kernel
theorem dX8_unread_10 : decode cX8_unread 10 = .ok (.iconst (-1), 1) := by decide +kernel
theorem dX8_unread_11 : decode cX8_unread 11 = .ok (.ireturn, 1) := by decide +kernel
theorem dX8_unread_12 : decode cX8_unread 12 = .ok (.aload_n 0, 1) := by decide +kernel
theorem dX8_unread_13 : decode cX8_unread 13 = .ok (.getfield 72, 3) := by decide +kernel
theorem dX8_unread_16 : decode cX8_unread 16 = .ok (.dup, 1) := by decide +kernel
theorem dX8_unread_17 : decode cX8_unread 17 = .ok (.getfield 193, 3) := by decide +kernel
theorem dX8_unread_20 : decode cX8_unread 20 = .ok (.iconst 1, 1) := by decide +kernel
theorem dX8_unread_21 : decode cX8_unread 21 = .ok (.isub, 1) := by decide +kernel
theorem dX8_unread_22 : decode cX8_unread 22 = .ok (.putfield 193, 3) := by decide +kernel
theorem dX8_unread_25 : decode cX8_unread 25 = .ok (.aload_n 0, 1) := by decide +kernel
theorem dX8_unread_26 : decode cX8_unread 26 = .ok (.getfield 72, 3) := by decide +kernel
theorem dX8_unread_29 : decode cX8_unread 29 = .ok (.getfield 193, 3) := by decide +kernel
theorem dX8_unread_32 : decode cX8_unread 32 = .ok (.ireturn, 1) := by decide +kernel
theorem dX8_faults_0 : decode cX8_faults 0 = .ok (.aload_n 0, 1) := by decide +kernel
theorem dX8_faults_1 : decode cX8_faults 1 = .ok (.iload_n 1, 1) := by decide +kernel
theorem dX8_faults_2 : decode cX8_faults 2 = .ok (.invokevirtual 209, 3) := by decide +kernel
theorem dX8_faults_5 : decode cX8_faults 5 = .ok (.iload_n 2, 1) := by decide +kernel
theorem dX8_faults_6 : decode cX8_faults 6 = .ok (.iconst 4, 1) := by decide +kernel
theorem dX8_faults_7 : decode cX8_faults 7 = .ok (.invokestatic 160, 3) := by decide +kernel
theorem dX8_faults_10 : decode cX8_faults 10 = .ok (.aload_n 0, 1) := by decide +kernel
theorem dX8_faults_11 : decode cX8_faults 11 = .ok (.getfield 85, 3) := by decide +kernel
theorem dX8_faults_14 : decode cX8_faults 14 = .ok (.aload_n 0, 1) := by decide +kernel
theorem dX8_faults_15 : decode cX8_faults 15 = .ok (.getfield 48, 3) := by decide +kernel
theorem dX8_faults_18 : decode cX8_faults 18 = .ok (.aload_n 0, 1) := by decide +kernel
theorem dX8_faults_19 : decode cX8_faults 19 = .ok (.getfield 72, 3) := by decide +kernel
theorem dX8_faults_22 : decode cX8_faults 22 = .ok (.iload_n 1, 1) := by decide +kernel
theorem dX8_faults_23 : decode cX8_faults 23 = .ok (.invokevirtual 252, 3) := by decide +kernel
theorem dX8_faults_26 : decode cX8_faults 26 = .ok (.iload_n 2, 1) := by decide +kernel
theorem dX8_faults_27 : decode cX8_faults 27 = .ok (.ifCond .ne 11, 3) := by decide +kernel
theorem dX8_faults_30 : decode cX8_faults 30 = .ok (.aload_n 0, 1) := by decide +kernel
theorem dX8_faults_31 : decode cX8_faults 31 = .ok (.getfield 85, 3) := by decide +kernel
theorem dX8_faults_34 : decode cX8_faults 34 = .ok (.getfield 256, 3) := by decide +kernel
theorem dX8_faults_37 : decode cX8_faults 37 = .ok (.ireturn, 1) := by decide +kernel
theorem dX8_faults_38 : decode cX8_faults 38 = .ok (.aload_n 0, 1) := by decide +kernel
theorem dX8_faults_39 : decode cX8_faults 39 = .ok (.getfield 85, 3) := by decide +kernel
theorem dX8_faults_42 : decode cX8_faults 42 = .ok (.getfield 256, 3) := by decide +kernel
theorem dX8_faults_45 : decode cX8_faults 45 = .ok (.ifCond .ne 14, 3) := by decide +kernel
theorem dX8_faults_48 : decode cX8_faults 48 = .ok (.new 259, 3) := by decide +kernel
theorem dX8_faults_51 : decode cX8_faults 51 = .ok (.dup, 1) := by decide +kernel
theorem dX8_faults_52 : decode cX8_faults 52 = .ok (.ldc_w 261, 3) := by decide +kernel
theorem dX8_faults_55 : decode cX8_faults 55 = .ok (.invokespecial 263, 3) := by decide +kernel
theorem dX8_faults_58 : decode cX8_faults 58 = .ok (.athrow, 1) := by decide +kernel
theorem dX8_faults_59 : decode cX8_faults 59 = .ok (.iload_n 2, 1) := by decide +kernel
theorem dX8_faults_60 : decode cX8_faults 60 = .ok (.tableswitch 52 1 3 #[28, 36, 44], 28) := by decide +kernel
theorem dX8_faults_88 : decode cX8_faults 88 = .ok (.aload_n 0, 1) := by decide +kernel
theorem dX8_faults_89 : decode cX8_faults 89 = .ok (.getfield 85, 3) := by decide +kernel
theorem dX8_faults_92 : decode cX8_faults 92 = .ok (.invokevirtual 264, 3) := by decide +kernel
theorem dX8_faults_95 : decode cX8_faults 95 = .ok (.ireturn, 1) := by decide +kernel
theorem dX8_faults_96 : decode cX8_faults 96 = .ok (.aload_n 0, 1) := by decide +kernel
theorem dX8_faults_97 : decode cX8_faults 97 = .ok (.getfield 85, 3) := by decide +kernel
theorem dX8_faults_100 : decode cX8_faults 100 = .ok (.invokevirtual 267, 3) := by decide +kernel
theorem dX8_faults_103 : decode cX8_faults 103 = .ok (.ireturn, 1) := by decide +kernel
theorem dX8_faults_104 : decode cX8_faults 104 = .ok (.aload_n 0, 1) := by decide +kernel
theorem dX8_faults_105 : decode cX8_faults 105 = .ok (.getfield 85, 3) := by decide +kernel
theorem dX8_faults_108 : decode cX8_faults 108 = .ok (.invokevirtual 270, 3) := by decide +kernel
theorem dX8_faults_111 : decode cX8_faults 111 = .ok (.ireturn, 1) := by decide +kernel
theorem dX8_faults_112 : decode cX8_faults 112 = .ok (.aload_n 0, 1) := by decide +kernel
theorem dX8_faults_113 : decode cX8_faults 113 = .ok (.getfield 85, 3) := by decide +kernel
theorem dX8_faults_116 : decode cX8_faults 116 = .ok (.invokevirtual 273, 3) := by decide +kernel
theorem dX8_faults_119 : decode cX8_faults 119 = .ok (.ireturn, 1) := by decide +kernel
theorem dX8_next_0 : decode cX8_next 0 = .ok (.aload_n 0, 1) := by decide +kernel
theorem dX8_next_1 : decode cX8_next 1 = .ok (.iload_n 1, 1) := by decide +kernel
theorem dX8_next_2 : decode cX8_next 2 = .ok (.invokevirtual 209, 3) := by decide +kernel
theorem dX8_next_5 : decode cX8_next 5 = .ok (.iload_n 2, 1) := by decide +kernel
theorem dX8_next_6 : decode cX8_next 6 = .ok (.invokestatic 139, 3) := by decide +kernel
theorem dX8_next_9 : decode cX8_next 9 = .ok (.iload_n 3, 1) := by decide +kernel
theorem dX8_next_10 : decode cX8_next 10 = .ok (.iconst 1, 1) := by decide +kernel
theorem dX8_next_11 : decode cX8_next 11 = .ok (.invokestatic 160, 3) := by decide +kernel
theorem dX8_next_14 : decode cX8_next 14 = .ok (.aload_n 0, 1) := by decide +kernel
theorem dX8_next_15 : decode cX8_next 15 = .ok (.getfield 85, 3) := by decide +kernel
theorem dX8_next_18 : decode cX8_next 18 = .ok (.aload_n 0, 1) := by decide +kernel
theorem dX8_next_19 : decode cX8_next 19 = .ok (.getfield 48, 3) := by decide +kernel
theorem dX8_next_22 : decode cX8_next 22 = .ok (.aload_n 0, 1) := by decide +kernel
theorem dX8_next_23 : decode cX8_next 23 = .ok (.getfield 72, 3) := by decide +kernel
theorem dX8_next_26 : decode cX8_next 26 = .ok (.iload_n 1, 1) := by decide +kernel
theorem dX8_next_27 : decode cX8_next 27 = .ok (.invokevirtual 252, 3) := by decide +kernel
theorem dX8_next_30 : decode cX8_next 30 = .ok (.aload_n 0, 1) := by decide +kernel
theorem dX8_next_31 : decode cX8_next 31 = .ok (.getfield 85, 3) := by decide +kernel
theorem dX8_next_34 : decode cX8_next 34 = .ok (.getfield 256, 3) := by decide +kernel
theorem dX8_next_37 : decode cX8_next 37 = .ok (.ifCond .ne 5, 3) := by decide +kernel
theorem dX8_next_40 : decode cX8_next 40 = .ok (.iconst (-1), 1) := by decide +kernel
theorem dX8_next_41 : decode cX8_next 41 = .ok (.ireturn, 1) := by decide +kernel
theorem dX8_next_42 : decode cX8_next 42 = .ok (.iconst (-1), 1) := by decide +kernel
theorem dX8_next_43 : decode cX8_next 43 = .ok (.istore 4, 2) := by decide +kernel
theorem dX8_next_45 : decode cX8_next 45 = .ok (.iconst (-1), 1) := by decide +kernel
theorem dX8_next_46 : decode cX8_next 46 = .ok (.istore 5, 2) := by decide +kernel
theorem dX8_next_48 : decode cX8_next 48 = .ok (.iconst 0, 1) := by decide +kernel
theorem dX8_next_49 : decode cX8_next 49 = .ok (.istore 6, 2) := by decide +kernel
theorem dX8_next_51 : decode cX8_next 51 = .ok (.iload 6, 2) := by decide +kernel
theorem dX8_next_53 : decode cX8_next 53 = .ok (.sipush 1440, 3) := by decide +kernel
theorem dX8_next_56 : decode cX8_next 56 = .ok (.if_icmp .ge 47, 3) := by decide +kernel
theorem dX8_next_59 : decode cX8_next 59 = .ok (.aload_n 0, 1) := by decide +kernel
theorem dX8_next_60 : decode cX8_next 60 = .ok (.getfield 85, 3) := by decide +kernel
theorem dX8_next_63 : decode cX8_next 63 = .ok (.aload_n 0, 1) := by decide +kernel
theorem dX8_next_64 : decode cX8_next 64 = .ok (.getfield 48, 3) := by decide +kernel
theorem dX8_next_67 : decode cX8_next 67 = .ok (.iload_n 1, 1) := by decide +kernel
theorem dX8_next_68 : decode cX8_next 68 = .ok (.iload_n 2, 1) := by decide +kernel
theorem dX8_next_69 : decode cX8_next 69 = .ok (.iload 6, 2) := by decide +kernel
theorem dX8_next_71 : decode cX8_next 71 = .ok (.invokevirtual 276, 3) := by decide +kernel
theorem dX8_next_74 : decode cX8_next 74 = .ok (.istore 7, 2) := by decide +kernel
theorem dX8_next_76 : decode cX8_next 76 = .ok (.iload 4, 2) := by decide +kernel
theorem dX8_next_78 : decode cX8_next 78 = .ok (.iconst (-1), 1) := by decide +kernel
theorem dX8_next_79 : decode cX8_next 79 = .ok (.if_icmp .eq 10, 3) := by decide +kernel
theorem dX8_next_82 : decode cX8_next 82 = .ok (.iload 7, 2) := by decide +kernel
theorem dX8_next_84 : decode cX8_next 84 = .ok (.iload 5, 2) := by decide +kernel
theorem dX8_next_86 : decode cX8_next 86 = .ok (.if_icmp .ge 11, 3) := by decide +kernel
theorem dX8_next_89 : decode cX8_next 89 = .ok (.iload 6, 2) := by decide +kernel
theorem dX8_next_91 : decode cX8_next 91 = .ok (.istore 4, 2) := by decide +kernel
theorem dX8_next_93 : decode cX8_next 93 = .ok (.iload 7, 2) := by decide +kernel
theorem dX8_next_95 : decode cX8_next 95 = .ok (.istore 5, 2) := by decide +kernel
theorem dX8_next_97 : decode cX8_next 97 = .ok (.iinc 6 15, 3) := by decide +kernel
theorem dX8_next_100 : decode cX8_next 100 = .ok (.goto (-49), 3) := by decide +kernel
theorem dX8_next_103 : decode cX8_next 103 = .ok (.iload_n 3, 1) := by decide +kernel
theorem dX8_next_104 : decode cX8_next 104 = .ok (.ifCond .ne 8, 3) := by decide +kernel
theorem dX8_next_107 : decode cX8_next 107 = .ok (.iload 4, 2) := by decide +kernel
theorem dX8_next_109 : decode cX8_next 109 = .ok (.goto 5, 3) := by decide +kernel
theorem dX8_next_112 : decode cX8_next 112 = .ok (.iload 5, 2) := by decide +kernel
theorem dX8_next_114 : decode cX8_next 114 = .ok (.ireturn, 1) := by decide +kernel
theorem dX8_see_0 : decode cX8_see 0 = .ok (.aload_n 0, 1) := by decide +kernel
theorem dX8_see_1 : decode cX8_see 1 = .ok (.iload_n 1, 1) := by decide +kernel
theorem dX8_see_2 : decode cX8_see 2 = .ok (.invokevirtual 209, 3) := by decide +kernel
theorem dX8_see_5 : decode cX8_see 5 = .ok (.iload_n 2, 1) := by decide +kernel
theorem dX8_see_6 : decode cX8_see 6 = .ok (.invokestatic 142, 3) := by decide +kernel
theorem dX8_see_9 : decode cX8_see 9 = .ok (.aload_n 0, 1) := by decide +kernel
theorem dX8_see_10 : decode cX8_see 10 = .ok (.getfield 72, 3) := by decide +kernel
theorem dX8_see_13 : decode cX8_see 13 = .ok (.getfield 280, 3) := by decide +kernel
theorem dX8_see_16 : decode cX8_see 16 = .ok (.iload_n 1, 1) := by decide +kernel
theorem dX8_see_17 : decode cX8_see 17 = .ok (.iaload, 1) := by decide +kernel
theorem dX8_see_18 : decode cX8_see 18 = .ok (.iconst (-1), 1) := by decide +kernel
theorem dX8_see_19 : decode cX8_see 19 = .ok (.if_icmp .eq 15, 3) := by decide +kernel
theorem dX8_see_22 : decode cX8_see 22 = .ok (.aload_n 0, 1) := by decide +kernel
theorem dX8_see_23 : decode cX8_see 23 = .ok (.getfield 20, 3) := by decide +kernel
theorem dX8_see_26 : decode cX8_see 26 = .ok (.iconst 2, 1) := by decide +kernel
theorem dX8_see_27 : decode cX8_see 27 = .ok (.dup2, 1) := by decide +kernel
theorem dX8_see_28 : decode cX8_see 28 = .ok (.iaload, 1) := by decide +kernel
theorem dX8_see_29 : decode cX8_see 29 = .ok (.iconst 1, 1) := by decide +kernel
theorem dX8_see_30 : decode cX8_see 30 = .ok (.iadd, 1) := by decide +kernel
theorem dX8_see_31 : decode cX8_see 31 = .ok (.iastore, 1) := by decide +kernel
theorem dX8_see_32 : decode cX8_see 32 = .ok (.iconst (-1), 1) := by decide +kernel
theorem dX8_see_33 : decode cX8_see 33 = .ok (.ireturn, 1) := by decide +kernel
theorem dX8_see_34 : decode cX8_see 34 = .ok (.aload_n 0, 1) := by decide +kernel
theorem dX8_see_35 : decode cX8_see 35 = .ok (.getfield 72, 3) := by decide +kernel
theorem dX8_see_38 : decode cX8_see 38 = .ok (.getfield 280, 3) := by decide +kernel
theorem dX8_see_41 : decode cX8_see 41 = .ok (.iload_n 1, 1) := by decide +kernel
theorem dX8_see_42 : decode cX8_see 42 = .ok (.iload_n 2, 1) := by decide +kernel
theorem dX8_see_43 : decode cX8_see 43 = .ok (.iastore, 1) := by decide +kernel
theorem dX8_see_44 : decode cX8_see 44 = .ok (.aload_n 0, 1) := by decide +kernel
theorem dX8_see_45 : decode cX8_see 45 = .ok (.getfield 72, 3) := by decide +kernel
theorem dX8_see_48 : decode cX8_see 48 = .ok (.dup, 1) := by decide +kernel
theorem dX8_see_49 : decode cX8_see 49 = .ok (.getfield 196, 3) := by decide +kernel
theorem dX8_see_52 : decode cX8_see 52 = .ok (.iconst 1, 1) := by decide +kernel
theorem dX8_see_53 : decode cX8_see 53 = .ok (.iadd, 1) := by decide +kernel
theorem dX8_see_54 : decode cX8_see 54 = .ok (.putfield 196, 3) := by decide +kernel
theorem dX8_see_57 : decode cX8_see 57 = .ok (.aload_n 0, 1) := by decide +kernel
theorem dX8_see_58 : decode cX8_see 58 = .ok (.getfield 72, 3) := by decide +kernel
theorem dX8_see_61 : decode cX8_see 61 = .ok (.getfield 196, 3) := by decide +kernel
theorem dX8_see_64 : decode cX8_see 64 = .ok (.ireturn, 1) := by decide +kernel
theorem dX8_forget_0 : decode cX8_forget 0 = .ok (.aload_n 0, 1) := by decide +kernel
theorem dX8_forget_1 : decode cX8_forget 1 = .ok (.getfield 72, 3) := by decide +kernel
theorem dX8_forget_4 : decode cX8_forget 4 = .ok (.getfield 196, 3) := by decide +kernel
theorem dX8_forget_7 : decode cX8_forget 7 = .ok (.istore_n 1, 1) := by decide +kernel
theorem dX8_forget_8 : decode cX8_forget 8 = .ok (.aload_n 0, 1) := by decide +kernel
theorem dX8_forget_9 : decode cX8_forget 9 = .ok (.getfield 72, 3) := by decide +kernel
theorem dX8_forget_12 : decode cX8_forget 12 = .ok (.invokevirtual 283, 3) := by decide +kernel
theorem dX8_forget_15 : decode cX8_forget 15 = .ok (.iload_n 1, 1) := by decide +kernel
theorem dX8_forget_16 : decode cX8_forget 16 = .ok (.ireturn, 1) := by decide +kernel
theorem dX8_minutes_0 : decode cX8_minutes 0 = .ok (.iload_n 1, 1) := by decide +kernel
theorem dX8_minutes_1 : decode cX8_minutes 1 = .ok (.invokestatic 139, 3) := by decide +kernel
theorem dX8_minutes_4 : decode cX8_minutes 4 = .ok (.iload_n 2, 1) := by decide +kernel
theorem dX8_minutes_5 : decode cX8_minutes 5 = .ok (.iconst 2, 1) := by decide +kernel
theorem dX8_minutes_6 : decode cX8_minutes 6 = .ok (.invokestatic 160, 3) := by decide +kernel
theorem dX8_minutes_9 : decode cX8_minutes 9 = .ok (.aload_n 0, 1) := by decide +kernel
theorem dX8_minutes_10 : decode cX8_minutes 10 = .ok (.getfield 92, 3) := by decide +kernel
theorem dX8_minutes_13 : decode cX8_minutes 13 = .ok (.invokevirtual 163, 3) := by decide +kernel
theorem dX8_minutes_16 : decode cX8_minutes 16 = .ok (.aload_n 0, 1) := by decide +kernel
theorem dX8_minutes_17 : decode cX8_minutes 17 = .ok (.iload_n 1, 1) := by decide +kernel
theorem dX8_minutes_18 : decode cX8_minutes 18 = .ok (.invokevirtual 286, 3) := by decide +kernel
theorem dX8_minutes_21 : decode cX8_minutes 21 = .ok (.iload_n 2, 1) := by decide +kernel
theorem dX8_minutes_22 : decode cX8_minutes 22 = .ok (.lookupswitch 42 #[(0, 26), (1, 34)], 26) := by decide +kernel
theorem dX8_minutes_48 : decode cX8_minutes 48 = .ok (.aload_n 0, 1) := by decide +kernel
theorem dX8_minutes_49 : decode cX8_minutes 49 = .ok (.getfield 92, 3) := by decide +kernel
theorem dX8_minutes_52 : decode cX8_minutes 52 = .ok (.getfield 289, 3) := by decide +kernel
theorem dX8_minutes_55 : decode cX8_minutes 55 = .ok (.ireturn, 1) := by decide +kernel
theorem dX8_minutes_56 : decode cX8_minutes 56 = .ok (.aload_n 0, 1) := by decide +kernel
theorem dX8_minutes_57 : decode cX8_minutes 57 = .ok (.getfield 92, 3) := by decide +kernel
theorem dX8_minutes_60 : decode cX8_minutes 60 = .ok (.getfield 292, 3) := by decide +kernel
theorem dX8_minutes_63 : decode cX8_minutes 63 = .ok (.ireturn, 1) := by decide +kernel
theorem dX8_minutes_64 : decode cX8_minutes 64 = .ok (.aload_n 0, 1) := by decide +kernel
theorem dX8_minutes_65 : decode cX8_minutes 65 = .ok (.getfield 92, 3) := by decide +kernel
theorem dX8_minutes_68 : decode cX8_minutes 68 = .ok (.getfield 295, 3) := by decide +kernel
theorem dX8_minutes_71 : decode cX8_minutes 71 = .ok (.ireturn, 1) := by decide +kernel
theorem dX8_days_0 : decode cX8_days 0 = .ok (.iload_n 1, 1) := by decide +kernel
theorem dX8_days_1 : decode cX8_days 1 = .ok (.iconst 2, 1) := by decide +kernel
theorem dX8_days_2 : decode cX8_days 2 = .ok (.invokestatic 160, 3) := by decide +kernel
theorem dX8_days_5 : decode cX8_days 5 = .ok (.iconst 0, 1) := by decide +kernel
theorem dX8_days_6 : decode cX8_days 6 = .ok (.istore_n 2, 1) := by decide +kernel
theorem dX8_days_7 : decode cX8_days 7 = .ok (.iconst (-1), 1) := by decide +kernel
theorem dX8_days_8 : decode cX8_days 8 = .ok (.istore_n 3, 1) := by decide +kernel
theorem dX8_days_9 : decode cX8_days 9 = .ok (.iconst (-1), 1) := by decide +kernel
theorem dX8_days_10 : decode cX8_days 10 = .ok (.istore 4, 2) := by decide +kernel
theorem dX8_days_12 : decode cX8_days 12 = .ok (.iconst 0, 1) := by decide +kernel
theorem dX8_days_13 : decode cX8_days 13 = .ok (.istore 5, 2) := by decide +kernel
theorem dX8_days_15 : decode cX8_days 15 = .ok (.iload 5, 2) := by decide +kernel
theorem dX8_days_17 : decode cX8_days 17 = .ok (.sipush 365, 3) := by decide +kernel
theorem dX8_days_20 : decode cX8_days 20 = .ok (.if_icmp .ge 59, 3) := by decide +kernel
theorem dX8_days_23 : decode cX8_days 23 = .ok (.aload_n 0, 1) := by decide +kernel
theorem dX8_days_24 : decode cX8_days 24 = .ok (.getfield 92, 3) := by decide +kernel
theorem dX8_days_27 : decode cX8_days 27 = .ok (.invokevirtual 163, 3) := by decide +kernel
theorem dX8_days_30 : decode cX8_days 30 = .ok (.aload_n 0, 1) := by decide +kernel
theorem dX8_days_31 : decode cX8_days 31 = .ok (.iload 5, 2) := by decide +kernel
theorem dX8_days_33 : decode cX8_days 33 = .ok (.invokevirtual 286, 3) := by decide +kernel
theorem dX8_days_36 : decode cX8_days 36 = .ok (.iload_n 2, 1) := by decide +kernel
theorem dX8_days_37 : decode cX8_days 37 = .ok (.aload_n 0, 1) := by decide +kernel
theorem dX8_days_38 : decode cX8_days 38 = .ok (.getfield 92, 3) := by decide +kernel
theorem dX8_days_41 : decode cX8_days 41 = .ok (.getfield 289, 3) := by decide +kernel
theorem dX8_days_44 : decode cX8_days 44 = .ok (.iadd, 1) := by decide +kernel
theorem dX8_days_45 : decode cX8_days 45 = .ok (.istore_n 2, 1) := by decide +kernel
theorem dX8_days_46 : decode cX8_days 46 = .ok (.iload_n 3, 1) := by decide +kernel
theorem dX8_days_47 : decode cX8_days 47 = .ok (.iconst (-1), 1) := by decide +kernel
theorem dX8_days_48 : decode cX8_days 48 = .ok (.if_icmp .ne 25, 3) := by decide +kernel
theorem dX8_days_51 : decode cX8_days 51 = .ok (.aload_n 0, 1) := by decide +kernel
theorem dX8_days_52 : decode cX8_days 52 = .ok (.getfield 92, 3) := by decide +kernel
theorem dX8_days_55 : decode cX8_days 55 = .ok (.getfield 289, 3) := by decide +kernel
theorem dX8_days_58 : decode cX8_days 58 = .ok (.ifCond .le 15, 3) := by decide +kernel
theorem dX8_days_61 : decode cX8_days 61 = .ok (.iload 5, 2) := by decide +kernel
theorem dX8_days_63 : decode cX8_days 63 = .ok (.istore_n 3, 1) := by decide +kernel
theorem dX8_days_64 : decode cX8_days 64 = .ok (.aload_n 0, 1) := by decide +kernel
theorem dX8_days_65 : decode cX8_days 65 = .ok (.getfield 92, 3) := by decide +kernel
theorem dX8_days_68 : decode cX8_days 68 = .ok (.getfield 292, 3) := by decide +kernel
theorem dX8_days_71 : decode cX8_days 71 = .ok (.istore 4, 2) := by decide +kernel
theorem dX8_days_73 : decode cX8_days 73 = .ok (.iinc 5 1, 3) := by decide +kernel
theorem dX8_days_76 : decode cX8_days 76 = .ok (.goto (-61), 3) := by decide +kernel
theorem dX8_days_79 : decode cX8_days 79 = .ok (.iload_n 1, 1) := by decide +kernel
theorem dX8_days_80 : decode cX8_days 80 = .ok (.lookupswitch 32 #[(0, 28), (1, 30)], 28) := by decide +kernel
theorem dX8_days_108 : decode cX8_days 108 = .ok (.iload_n 2, 1) := by decide +kernel
theorem dX8_days_109 : decode cX8_days 109 = .ok (.ireturn, 1) := by decide +kernel
theorem dX8_days_110 : decode cX8_days 110 = .ok (.iload_n 3, 1) := by decide +kernel
theorem dX8_days_111 : decode cX8_days 111 = .ok (.ireturn, 1) := by decide +kernel
theorem dX8_days_112 : decode cX8_days 112 = .ok (.iload 4, 2) := by decide +kernel
theorem dX8_days_114 : decode cX8_days 114 = .ok (.ireturn, 1) := by decide +kernel
theorem dX8_addFitting_0 : decode cX8_addFitting 0 = .ok (.iconst (-1), 1) := by decide +kernel
theorem dX8_addFitting_1 : decode cX8_addFitting 1 = .ok (.istore_n 2, 1) := by decide +kernel
theorem dX8_addFitting_2 : decode cX8_addFitting 2 = .ok (.iconst 0, 1) := by decide +kernel
theorem dX8_addFitting_3 : decode cX8_addFitting 3 = .ok (.istore_n 3, 1) := by decide +kernel
theorem dX8_addFitting_4 : decode cX8_addFitting 4 = .ok (.iload_n 3, 1) := by decide +kernel
theorem dX8_addFitting_5 : decode cX8_addFitting 5 = .ok (.aload_n 0, 1) := by decide +kernel
theorem dX8_addFitting_6 : decode cX8_addFitting 6 = .ok (.getfield 48, 3) := by decide +kernel
theorem dX8_addFitting_9 : decode cX8_addFitting 9 = .ok (.getfield 127, 3) := by decide +kernel
theorem dX8_addFitting_12 : decode cX8_addFitting 12 = .ok (.if_icmp .ge 60, 3) := by decide +kernel
theorem dX8_addFitting_15 : decode cX8_addFitting 15 = .ok (.aload_n 0, 1) := by decide +kernel
theorem dX8_addFitting_16 : decode cX8_addFitting 16 = .ok (.getfield 72, 3) := by decide +kernel
theorem dX8_addFitting_19 : decode cX8_addFitting 19 = .ok (.getfield 280, 3) := by decide +kernel
theorem dX8_addFitting_22 : decode cX8_addFitting 22 = .ok (.iload_n 3, 1) := by decide +kernel
theorem dX8_addFitting_23 : decode cX8_addFitting 23 = .ok (.iaload, 1) := by decide +kernel
theorem dX8_addFitting_24 : decode cX8_addFitting 24 = .ok (.istore 4, 2) := by decide +kernel
theorem dX8_addFitting_26 : decode cX8_addFitting 26 = .ok (.iload 4, 2) := by decide +kernel
theorem dX8_addFitting_28 : decode cX8_addFitting 28 = .ok (.iconst (-1), 1) := by decide +kernel
theorem dX8_addFitting_29 : decode cX8_addFitting 29 = .ok (.if_icmp .ne 6, 3) := by decide +kernel
theorem dX8_addFitting_32 : decode cX8_addFitting 32 = .ok (.goto 34, 3) := by decide +kernel
theorem dX8_addFitting_35 : decode cX8_addFitting 35 = .ok (.aload_n 0, 1) := by decide +kernel
theorem dX8_addFitting_36 : decode cX8_addFitting 36 = .ok (.getfield 48, 3) := by decide +kernel
theorem dX8_addFitting_39 : decode cX8_addFitting 39 = .ok (.getfield 212, 3) := by decide +kernel
theorem dX8_addFitting_42 : decode cX8_addFitting 42 = .ok (.iload_n 3, 1) := by decide +kernel
theorem dX8_addFitting_43 : decode cX8_addFitting 43 = .ok (.iaload, 1) := by decide +kernel
theorem dX8_addFitting_44 : decode cX8_addFitting 44 = .ok (.iconst 5, 1) := by decide +kernel
theorem dX8_addFitting_45 : decode cX8_addFitting 45 = .ok (.if_icmp .eq 8, 3) := by decide +kernel
theorem dX8_addFitting_48 : decode cX8_addFitting 48 = .ok (.iload_n 3, 1) := by decide +kernel
theorem dX8_addFitting_49 : decode cX8_addFitting 49 = .ok (.istore_n 2, 1) := by decide +kernel
theorem dX8_addFitting_50 : decode cX8_addFitting 50 = .ok (.goto 16, 3) := by decide +kernel
theorem dX8_addFitting_53 : decode cX8_addFitting 53 = .ok (.aload_n 0, 1) := by decide +kernel
theorem dX8_addFitting_54 : decode cX8_addFitting 54 = .ok (.iload_n 3, 1) := by decide +kernel
theorem dX8_addFitting_55 : decode cX8_addFitting 55 = .ok (.iload_n 1, 1) := by decide +kernel
theorem dX8_addFitting_56 : decode cX8_addFitting 56 = .ok (.iconst 0, 1) := by decide +kernel
theorem dX8_addFitting_57 : decode cX8_addFitting 57 = .ok (.invokevirtual 234, 3) := by decide +kernel
theorem dX8_addFitting_60 : decode cX8_addFitting 60 = .ok (.iload 4, 2) := by decide +kernel
theorem dX8_addFitting_62 : decode cX8_addFitting 62 = .ok (.if_icmp .eq 4, 3) := by decide +kernel
theorem dX8_addFitting_65 : decode cX8_addFitting 65 = .ok (.return_, 1) := by decide +kernel
theorem dX8_addFitting_66 : decode cX8_addFitting 66 = .ok (.iinc 3 1, 3) := by decide +kernel
theorem dX8_addFitting_69 : decode cX8_addFitting 69 = .ok (.goto (-65), 3) := by decide +kernel
theorem dX8_addFitting_72 : decode cX8_addFitting 72 = .ok (.iload_n 2, 1) := by decide +kernel
theorem dX8_addFitting_73 : decode cX8_addFitting 73 = .ok (.iconst (-1), 1) := by decide +kernel
theorem dX8_addFitting_74 : decode cX8_addFitting 74 = .ok (.if_icmp .ne 11, 3) := by decide +kernel
theorem dX8_addFitting_77 : decode cX8_addFitting 77 = .ok (.aload_n 0, 1) := by decide +kernel
theorem dX8_addFitting_78 : decode cX8_addFitting 78 = .ok (.getfield 92, 3) := by decide +kernel
theorem dX8_addFitting_81 : decode cX8_addFitting 81 = .ok (.invokevirtual 298, 3) := by decide +kernel
theorem dX8_addFitting_84 : decode cX8_addFitting 84 = .ok (.return_, 1) := by decide +kernel
theorem dX8_addFitting_85 : decode cX8_addFitting 85 = .ok (.aload_n 0, 1) := by decide +kernel
theorem dX8_addFitting_86 : decode cX8_addFitting 86 = .ok (.getfield 48, 3) := by decide +kernel
theorem dX8_addFitting_89 : decode cX8_addFitting 89 = .ok (.iload_n 2, 1) := by decide +kernel
theorem dX8_addFitting_90 : decode cX8_addFitting 90 = .ok (.iload_n 1, 1) := by decide +kernel
theorem dX8_addFitting_91 : decode cX8_addFitting 91 = .ok (.aload_n 0, 1) := by decide +kernel
theorem dX8_addFitting_92 : decode cX8_addFitting 92 = .ok (.getfield 72, 3) := by decide +kernel
theorem dX8_addFitting_95 : decode cX8_addFitting 95 = .ok (.getfield 280, 3) := by decide +kernel
theorem dX8_addFitting_98 : decode cX8_addFitting 98 = .ok (.iload_n 2, 1) := by decide +kernel
theorem dX8_addFitting_99 : decode cX8_addFitting 99 = .ok (.iaload, 1) := by decide +kernel
theorem dX8_addFitting_100 : decode cX8_addFitting 100 = .ok (.aload_n 0, 1) := by decide +kernel
theorem dX8_addFitting_101 : decode cX8_addFitting 101 = .ok (.iload_n 2, 1) := by decide +kernel
theorem dX8_addFitting_102 : decode cX8_addFitting 102 = .ok (.iload_n 1, 1) := by decide +kernel
theorem dX8_addFitting_103 : decode cX8_addFitting 103 = .ok (.invokevirtual 238, 3) := by decide +kernel
theorem dX8_addFitting_106 : decode cX8_addFitting 106 = .ok (.aload_n 0, 1) := by decide +kernel
theorem dX8_addFitting_107 : decode cX8_addFitting 107 = .ok (.getfield 102, 3) := by decide +kernel
theorem dX8_addFitting_110 : decode cX8_addFitting 110 = .ok (.invokevirtual 301, 3) := by decide +kernel
theorem dX8_addFitting_113 : decode cX8_addFitting 113 = .ok (.istore_n 3, 1) := by decide +kernel
theorem dX8_addFitting_114 : decode cX8_addFitting 114 = .ok (.iconst 0, 1) := by decide +kernel
theorem dX8_addFitting_115 : decode cX8_addFitting 115 = .ok (.istore 4, 2) := by decide +kernel
theorem dX8_addFitting_117 : decode cX8_addFitting 117 = .ok (.iload 4, 2) := by decide +kernel
theorem dX8_addFitting_119 : decode cX8_addFitting 119 = .ok (.iload_n 3, 1) := by decide +kernel
theorem dX8_addFitting_120 : decode cX8_addFitting 120 = .ok (.if_icmp .ge 48, 3) := by decide +kernel
theorem dX8_addFitting_123 : decode cX8_addFitting 123 = .ok (.iload 4, 2) := by decide +kernel
theorem dX8_addFitting_125 : decode cX8_addFitting 125 = .ok (.aload_n 0, 1) := by decide +kernel
theorem dX8_addFitting_126 : decode cX8_addFitting 126 = .ok (.getfield 102, 3) := by decide +kernel
theorem dX8_addFitting_129 : decode cX8_addFitting 129 = .ok (.arraylength, 1) := by decide +kernel
theorem dX8_addFitting_130 : decode cX8_addFitting 130 = .ok (.if_icmp .ge 38, 3) := by decide +kernel
theorem dX8_addFitting_133 : decode cX8_addFitting 133 = .ok (.aload_n 0, 1) := by decide +kernel
theorem dX8_addFitting_134 : decode cX8_addFitting 134 = .ok (.iload_n 1, 1) := by decide +kernel
theorem dX8_addFitting_135 : decode cX8_addFitting 135 = .ok (.aload_n 0, 1) := by decide +kernel
theorem dX8_addFitting_136 : decode cX8_addFitting 136 = .ok (.getfield 102, 3) := by decide +kernel
theorem dX8_addFitting_139 : decode cX8_addFitting 139 = .ok (.iload 4, 2) := by decide +kernel
theorem dX8_addFitting_141 : decode cX8_addFitting 141 = .ok (.iaload, 1) := by decide +kernel
theorem dX8_addFitting_142 : decode cX8_addFitting 142 = .ok (.invokevirtual 305, 3) := by decide +kernel
theorem dX8_addFitting_145 : decode cX8_addFitting 145 = .ok (.ifCond .eq 17, 3) := by decide +kernel
theorem dX8_addFitting_148 : decode cX8_addFitting 148 = .ok (.aload_n 0, 1) := by decide +kernel
theorem dX8_addFitting_149 : decode cX8_addFitting 149 = .ok (.getfield 92, 3) := by decide +kernel
theorem dX8_addFitting_152 : decode cX8_addFitting 152 = .ok (.aload_n 0, 1) := by decide +kernel
theorem dX8_addFitting_153 : decode cX8_addFitting 153 = .ok (.getfield 102, 3) := by decide +kernel
theorem dX8_addFitting_156 : decode cX8_addFitting 156 = .ok (.iload 4, 2) := by decide +kernel
theorem dX8_addFitting_158 : decode cX8_addFitting 158 = .ok (.iaload, 1) := by decide +kernel
theorem dX8_addFitting_159 : decode cX8_addFitting 159 = .ok (.invokevirtual 308, 3) := by decide +kernel
theorem dX8_addFitting_162 : decode cX8_addFitting 162 = .ok (.iinc 4 1, 3) := by decide +kernel
theorem dX8_addFitting_165 : decode cX8_addFitting 165 = .ok (.goto (-48), 3) := by decide +kernel
theorem dX8_addFitting_168 : decode cX8_addFitting 168 = .ok (.return_, 1) := by decide +kernel
theorem dX8_allTellAsSeen_0 : decode cX8_allTellAsSeen 0 = .ok (.iconst 0, 1) := by decide +kernel
theorem dX8_allTellAsSeen_1 : decode cX8_allTellAsSeen 1 = .ok (.istore_n 3, 1) := by decide +kernel
theorem dX8_allTellAsSeen_2 : decode cX8_allTellAsSeen 2 = .ok (.iload_n 3, 1) := by decide +kernel
theorem dX8_allTellAsSeen_3 : decode cX8_allTellAsSeen 3 = .ok (.aload_n 0, 1) := by decide +kernel
theorem dX8_allTellAsSeen_4 : decode cX8_allTellAsSeen 4 = .ok (.getfield 48, 3) := by decide +kernel
theorem dX8_allTellAsSeen_7 : decode cX8_allTellAsSeen 7 = .ok (.getfield 127, 3) := by decide +kernel
theorem dX8_allTellAsSeen_10 : decode cX8_allTellAsSeen 10 = .ok (.if_icmp .ge 40, 3) := by decide +kernel
theorem dX8_allTellAsSeen_13 : decode cX8_allTellAsSeen 13 = .ok (.aload_n 0, 1) := by decide +kernel
theorem dX8_allTellAsSeen_14 : decode cX8_allTellAsSeen 14 = .ok (.getfield 72, 3) := by decide +kernel
theorem dX8_allTellAsSeen_17 : decode cX8_allTellAsSeen 17 = .ok (.getfield 280, 3) := by decide +kernel
theorem dX8_allTellAsSeen_20 : decode cX8_allTellAsSeen 20 = .ok (.iload_n 3, 1) := by decide +kernel
theorem dX8_allTellAsSeen_21 : decode cX8_allTellAsSeen 21 = .ok (.iaload, 1) := by decide +kernel
theorem dX8_allTellAsSeen_22 : decode cX8_allTellAsSeen 22 = .ok (.istore 4, 2) := by decide +kernel
theorem dX8_allTellAsSeen_24 : decode cX8_allTellAsSeen 24 = .ok (.iload 4, 2) := by decide +kernel
theorem dX8_allTellAsSeen_26 : decode cX8_allTellAsSeen 26 = .ok (.iconst (-1), 1) := by decide +kernel
theorem dX8_allTellAsSeen_27 : decode cX8_allTellAsSeen 27 = .ok (.if_icmp .eq 17, 3) := by decide +kernel
theorem dX8_allTellAsSeen_30 : decode cX8_allTellAsSeen 30 = .ok (.aload_n 0, 1) := by decide +kernel
theorem dX8_allTellAsSeen_31 : decode cX8_allTellAsSeen 31 = .ok (.iload_n 3, 1) := by decide +kernel
theorem dX8_allTellAsSeen_32 : decode cX8_allTellAsSeen 32 = .ok (.iload_n 1, 1) := by decide +kernel
theorem dX8_allTellAsSeen_33 : decode cX8_allTellAsSeen 33 = .ok (.iload_n 2, 1) := by decide +kernel
theorem dX8_allTellAsSeen_34 : decode cX8_allTellAsSeen 34 = .ok (.invokevirtual 234, 3) := by decide +kernel
theorem dX8_allTellAsSeen_37 : decode cX8_allTellAsSeen 37 = .ok (.iload 4, 2) := by decide +kernel
theorem dX8_allTellAsSeen_39 : decode cX8_allTellAsSeen 39 = .ok (.if_icmp .eq 5, 3) := by decide +kernel
theorem dX8_allTellAsSeen_42 : decode cX8_allTellAsSeen 42 = .ok (.iconst 0, 1) := by decide +kernel
theorem dX8_allTellAsSeen_43 : decode cX8_allTellAsSeen 43 = .ok (.ireturn, 1) := by decide +kernel
theorem dX8_allTellAsSeen_44 : decode cX8_allTellAsSeen 44 = .ok (.iinc 3 1, 3) := by decide +kernel
theorem dX8_allTellAsSeen_47 : decode cX8_allTellAsSeen 47 = .ok (.goto (-45), 3) := by decide +kernel
theorem dX8_allTellAsSeen_50 : decode cX8_allTellAsSeen 50 = .ok (.iconst 1, 1) := by decide +kernel
theorem dX8_allTellAsSeen_51 : decode cX8_allTellAsSeen 51 = .ok (.ireturn, 1) := by decide +kernel
theorem dX8_late_0 : decode cX8_late 0 = .ok (.aload_n 0, 1) := by decide +kernel
theorem dX8_late_1 : decode cX8_late 1 = .ok (.iload_n 1, 1) := by decide +kernel
theorem dX8_late_2 : decode cX8_late 2 = .ok (.invokevirtual 209, 3) := by decide +kernel
theorem dX8_late_5 : decode cX8_late 5 = .ok (.aload_n 0, 1) := by decide +kernel
theorem dX8_late_6 : decode cX8_late 6 = .ok (.iload_n 2, 1) := by decide +kernel
theorem dX8_late_7 : decode cX8_late 7 = .ok (.invokevirtual 209, 3) := by decide +kernel
theorem dX8_late_10 : decode cX8_late 10 = .ok (.iload_n 3, 1) := by decide +kernel
theorem dX8_late_11 : decode cX8_late 11 = .ok (.invokestatic 142, 3) := by decide +kernel
theorem dX8_late_14 : decode cX8_late 14 = .ok (.iload 4, 2) := by decide +kernel
theorem dX8_late_16 : decode cX8_late 16 = .ok (.invokestatic 139, 3) := by decide +kernel
theorem dX8_late_19 : decode cX8_late 19 = .ok (.aload_n 0, 1) := by decide +kernel
theorem dX8_late_20 : decode cX8_late 20 = .ok (.iload_n 1, 1) := by decide +kernel
theorem dX8_late_21 : decode cX8_late 21 = .ok (.iload_n 2, 1) := by decide +kernel
theorem dX8_late_22 : decode cX8_late 22 = .ok (.iload_n 3, 1) := by decide +kernel
theorem dX8_late_23 : decode cX8_late 23 = .ok (.iload 4, 2) := by decide +kernel
theorem dX8_late_25 : decode cX8_late 25 = .ok (.invokevirtual 311, 3) := by decide +kernel
theorem dX8_late_28 : decode cX8_late 28 = .ok (.ireturn, 1) := by decide +kernel
theorem dX8_lateOn_0 : decode cX8_lateOn 0 = .ok (.aload_n 0, 1) := by decide +kernel
theorem dX8_lateOn_1 : decode cX8_lateOn 1 = .ok (.iload_n 1, 1) := by decide +kernel
theorem dX8_lateOn_2 : decode cX8_lateOn 2 = .ok (.iload 4, 2) := by decide +kernel
theorem dX8_lateOn_4 : decode cX8_lateOn 4 = .ok (.iload_n 3, 1) := by decide +kernel
theorem dX8_lateOn_5 : decode cX8_lateOn 5 = .ok (.invokevirtual 314, 3) := by decide +kernel
theorem dX8_lateOn_8 : decode cX8_lateOn 8 = .ok (.istore 5, 2) := by decide +kernel
theorem dX8_lateOn_10 : decode cX8_lateOn 10 = .ok (.aload_n 0, 1) := by decide +kernel
theorem dX8_lateOn_11 : decode cX8_lateOn 11 = .ok (.iload_n 2, 1) := by decide +kernel
theorem dX8_lateOn_12 : decode cX8_lateOn 12 = .ok (.iload 4, 2) := by decide +kernel
theorem dX8_lateOn_14 : decode cX8_lateOn 14 = .ok (.iload_n 3, 1) := by decide +kernel
theorem dX8_lateOn_15 : decode cX8_lateOn 15 = .ok (.invokevirtual 314, 3) := by decide +kernel
theorem dX8_lateOn_18 : decode cX8_lateOn 18 = .ok (.istore 6, 2) := by decide +kernel
theorem dX8_lateOn_20 : decode cX8_lateOn 20 = .ok (.iload 5, 2) := by decide +kernel
theorem dX8_lateOn_22 : decode cX8_lateOn 22 = .ok (.iconst (-1), 1) := by decide +kernel
theorem dX8_lateOn_23 : decode cX8_lateOn 23 = .ok (.if_icmp .eq 9, 3) := by decide +kernel
theorem dX8_lateOn_26 : decode cX8_lateOn 26 = .ok (.iload 6, 2) := by decide +kernel
theorem dX8_lateOn_28 : decode cX8_lateOn 28 = .ok (.iconst (-1), 1) := by decide +kernel
theorem dX8_lateOn_29 : decode cX8_lateOn 29 = .ok (.if_icmp .ne 5, 3) := by decide +kernel
theorem dX8_lateOn_32 : decode cX8_lateOn 32 = .ok (.iconst (-1), 1) := by decide +kernel
theorem dX8_lateOn_33 : decode cX8_lateOn 33 = .ok (.ireturn, 1) := by decide +kernel
theorem dX8_lateOn_34 : decode cX8_lateOn 34 = .ok (.iload 5, 2) := by decide +kernel
theorem dX8_lateOn_36 : decode cX8_lateOn 36 = .ok (.iload 6, 2) := by decide +kernel
theorem dX8_lateOn_38 : decode cX8_lateOn 38 = .ok (.isub, 1) := by decide +kernel
theorem dX8_lateOn_39 : decode cX8_lateOn 39 = .ok (.invokestatic 317, 3) := by decide +kernel
theorem dX8_lateOn_42 : decode cX8_lateOn 42 = .ok (.ireturn, 1) := by decide +kernel
theorem dX8_firstMoment_0 : decode cX8_firstMoment 0 = .ok (.aload_n 0, 1) := by decide +kernel
theorem dX8_firstMoment_1 : decode cX8_firstMoment 1 = .ok (.getfield 48, 3) := by decide +kernel
theorem dX8_firstMoment_4 : decode cX8_firstMoment 4 = .ok (.getfield 212, 3) := by decide +kernel
theorem dX8_firstMoment_7 : decode cX8_firstMoment 7 = .ok (.iload_n 1, 1) := by decide +kernel
theorem dX8_firstMoment_8 : decode cX8_firstMoment 8 = .ok (.iaload, 1) := by decide +kernel
theorem dX8_firstMoment_9 : decode cX8_firstMoment 9 = .ok (.iconst 5, 1) := by decide +kernel
theorem dX8_firstMoment_10 : decode cX8_firstMoment 10 = .ok (.if_icmp .ne 20, 3) := by decide +kernel
theorem dX8_firstMoment_13 : decode cX8_firstMoment 13 = .ok (.aload_n 0, 1) := by decide +kernel
theorem dX8_firstMoment_14 : decode cX8_firstMoment 14 = .ok (.iload_n 1, 1) := by decide +kernel
theorem dX8_firstMoment_15 : decode cX8_firstMoment 15 = .ok (.iload_n 2, 1) := by decide +kernel
theorem dX8_firstMoment_16 : decode cX8_firstMoment 16 = .ok (.iconst 0, 1) := by decide +kernel
theorem dX8_firstMoment_17 : decode cX8_firstMoment 17 = .ok (.invokevirtual 234, 3) := by decide +kernel
theorem dX8_firstMoment_20 : decode cX8_firstMoment 20 = .ok (.iload_n 3, 1) := by decide +kernel
theorem dX8_firstMoment_21 : decode cX8_firstMoment 21 = .ok (.if_icmp .ne 7, 3) := by decide +kernel
theorem dX8_firstMoment_24 : decode cX8_firstMoment 24 = .ok (.iconst 0, 1) := by decide +kernel
theorem dX8_firstMoment_25 : decode cX8_firstMoment 25 = .ok (.goto 4, 3) := by decide +kernel
theorem dX8_firstMoment_28 : decode cX8_firstMoment 28 = .ok (.iconst (-1), 1) := by decide +kernel
theorem dX8_firstMoment_29 : decode cX8_firstMoment 29 = .ok (.ireturn, 1) := by decide +kernel
theorem dX8_firstMoment_30 : decode cX8_firstMoment 30 = .ok (.aload_n 0, 1) := by decide +kernel
theorem dX8_firstMoment_31 : decode cX8_firstMoment 31 = .ok (.getfield 48, 3) := by decide +kernel
theorem dX8_firstMoment_34 : decode cX8_firstMoment 34 = .ok (.iload_n 1, 1) := by decide +kernel
theorem dX8_firstMoment_35 : decode cX8_firstMoment 35 = .ok (.iload_n 2, 1) := by decide +kernel
theorem dX8_firstMoment_36 : decode cX8_firstMoment 36 = .ok (.iload_n 3, 1) := by decide +kernel
theorem dX8_firstMoment_37 : decode cX8_firstMoment 37 = .ok (.aload_n 0, 1) := by decide +kernel
theorem dX8_firstMoment_38 : decode cX8_firstMoment 38 = .ok (.iload_n 1, 1) := by decide +kernel
theorem dX8_firstMoment_39 : decode cX8_firstMoment 39 = .ok (.iload_n 2, 1) := by decide +kernel
theorem dX8_firstMoment_40 : decode cX8_firstMoment 40 = .ok (.invokevirtual 238, 3) := by decide +kernel
theorem dX8_firstMoment_43 : decode cX8_firstMoment 43 = .ok (.aload_n 0, 1) := by decide +kernel
theorem dX8_firstMoment_44 : decode cX8_firstMoment 44 = .ok (.getfield 102, 3) := by decide +kernel
theorem dX8_firstMoment_47 : decode cX8_firstMoment 47 = .ok (.invokevirtual 301, 3) := by decide +kernel
theorem dX8_firstMoment_50 : decode cX8_firstMoment 50 = .ok (.istore 4, 2) := by decide +kernel
theorem dX8_firstMoment_52 : decode cX8_firstMoment 52 = .ok (.iconst (-1), 1) := by decide +kernel
theorem dX8_firstMoment_53 : decode cX8_firstMoment 53 = .ok (.istore 5, 2) := by decide +kernel
theorem dX8_firstMoment_55 : decode cX8_firstMoment 55 = .ok (.iconst 0, 1) := by decide +kernel
theorem dX8_firstMoment_56 : decode cX8_firstMoment 56 = .ok (.istore 6, 2) := by decide +kernel
theorem dX8_firstMoment_58 : decode cX8_firstMoment 58 = .ok (.iload 6, 2) := by decide +kernel
theorem dX8_firstMoment_60 : decode cX8_firstMoment 60 = .ok (.iload 4, 2) := by decide +kernel
theorem dX8_firstMoment_62 : decode cX8_firstMoment 62 = .ok (.if_icmp .ge 46, 3) := by decide +kernel
theorem dX8_firstMoment_65 : decode cX8_firstMoment 65 = .ok (.iload 6, 2) := by decide +kernel
theorem dX8_firstMoment_67 : decode cX8_firstMoment 67 = .ok (.aload_n 0, 1) := by decide +kernel
theorem dX8_firstMoment_68 : decode cX8_firstMoment 68 = .ok (.getfield 102, 3) := by decide +kernel
theorem dX8_firstMoment_71 : decode cX8_firstMoment 71 = .ok (.arraylength, 1) := by decide +kernel
theorem dX8_firstMoment_72 : decode cX8_firstMoment 72 = .ok (.if_icmp .ge 36, 3) := by decide +kernel
theorem dX8_firstMoment_75 : decode cX8_firstMoment 75 = .ok (.iload 5, 2) := by decide +kernel
theorem dX8_firstMoment_77 : decode cX8_firstMoment 77 = .ok (.iconst (-1), 1) := by decide +kernel
theorem dX8_firstMoment_78 : decode cX8_firstMoment 78 = .ok (.if_icmp .eq 15, 3) := by decide +kernel
theorem dX8_firstMoment_81 : decode cX8_firstMoment 81 = .ok (.aload_n 0, 1) := by decide +kernel
theorem dX8_firstMoment_82 : decode cX8_firstMoment 82 = .ok (.getfield 102, 3) := by decide +kernel
theorem dX8_firstMoment_85 : decode cX8_firstMoment 85 = .ok (.iload 6, 2) := by decide +kernel
theorem dX8_firstMoment_87 : decode cX8_firstMoment 87 = .ok (.iaload, 1) := by decide +kernel
theorem dX8_firstMoment_88 : decode cX8_firstMoment 88 = .ok (.iload 5, 2) := by decide +kernel
theorem dX8_firstMoment_90 : decode cX8_firstMoment 90 = .ok (.if_icmp .ge 12, 3) := by decide +kernel
theorem dX8_firstMoment_93 : decode cX8_firstMoment 93 = .ok (.aload_n 0, 1) := by decide +kernel
theorem dX8_firstMoment_94 : decode cX8_firstMoment 94 = .ok (.getfield 102, 3) := by decide +kernel
theorem dX8_firstMoment_97 : decode cX8_firstMoment 97 = .ok (.iload 6, 2) := by decide +kernel
theorem dX8_firstMoment_99 : decode cX8_firstMoment 99 = .ok (.iaload, 1) := by decide +kernel
theorem dX8_firstMoment_100 : decode cX8_firstMoment 100 = .ok (.istore 5, 2) := by decide +kernel
theorem dX8_firstMoment_102 : decode cX8_firstMoment 102 = .ok (.iinc 6 1, 3) := by decide +kernel
theorem dX8_firstMoment_105 : decode cX8_firstMoment 105 = .ok (.goto (-47), 3) := by decide +kernel
theorem dX8_firstMoment_108 : decode cX8_firstMoment 108 = .ok (.iload 5, 2) := by decide +kernel
theorem dX8_firstMoment_110 : decode cX8_firstMoment 110 = .ok (.ireturn, 1) := by decide +kernel
theorem dX8_meet_0 : decode cX8_meet 0 = .ok (.aload_n 0, 1) := by decide +kernel
theorem dX8_meet_1 : decode cX8_meet 1 = .ok (.iload_n 1, 1) := by decide +kernel
theorem dX8_meet_2 : decode cX8_meet 2 = .ok (.invokevirtual 209, 3) := by decide +kernel
theorem dX8_meet_5 : decode cX8_meet 5 = .ok (.aload_n 0, 1) := by decide +kernel
theorem dX8_meet_6 : decode cX8_meet 6 = .ok (.iload_n 2, 1) := by decide +kernel
theorem dX8_meet_7 : decode cX8_meet 7 = .ok (.invokevirtual 209, 3) := by decide +kernel
theorem dX8_meet_10 : decode cX8_meet 10 = .ok (.iload_n 3, 1) := by decide +kernel
theorem dX8_meet_11 : decode cX8_meet 11 = .ok (.invokestatic 142, 3) := by decide +kernel
theorem dX8_meet_14 : decode cX8_meet 14 = .ok (.iload 4, 2) := by decide +kernel
theorem dX8_meet_16 : decode cX8_meet 16 = .ok (.invokestatic 139, 3) := by decide +kernel
theorem dX8_meet_19 : decode cX8_meet 19 = .ok (.iload 5, 2) := by decide +kernel
theorem dX8_meet_21 : decode cX8_meet 21 = .ok (.iconst 1, 1) := by decide +kernel
theorem dX8_meet_22 : decode cX8_meet 22 = .ok (.invokestatic 160, 3) := by decide +kernel
theorem dX8_meet_25 : decode cX8_meet 25 = .ok (.iconst (-1), 1) := by decide +kernel
theorem dX8_meet_26 : decode cX8_meet 26 = .ok (.istore 6, 2) := by decide +kernel
theorem dX8_meet_28 : decode cX8_meet 28 = .ok (.iconst (-1), 1) := by decide +kernel
theorem dX8_meet_29 : decode cX8_meet 29 = .ok (.istore 7, 2) := by decide +kernel
theorem dX8_meet_31 : decode cX8_meet 31 = .ok (.iload 4, 2) := by decide +kernel
theorem dX8_meet_33 : decode cX8_meet 33 = .ok (.istore 8, 2) := by decide +kernel
theorem dX8_meet_35 : decode cX8_meet 35 = .ok (.iload 8, 2) := by decide +kernel
theorem dX8_meet_37 : decode cX8_meet 37 = .ok (.sipush 365, 3) := by decide +kernel
theorem dX8_meet_40 : decode cX8_meet 40 = .ok (.if_icmp .ge 58, 3) := by decide +kernel
theorem dX8_meet_43 : decode cX8_meet 43 = .ok (.aload_n 0, 1) := by decide +kernel
theorem dX8_meet_44 : decode cX8_meet 44 = .ok (.iload_n 1, 1) := by decide +kernel
theorem dX8_meet_45 : decode cX8_meet 45 = .ok (.iload_n 2, 1) := by decide +kernel
theorem dX8_meet_46 : decode cX8_meet 46 = .ok (.iload_n 3, 1) := by decide +kernel
theorem dX8_meet_47 : decode cX8_meet 47 = .ok (.iload 8, 2) := by decide +kernel
theorem dX8_meet_49 : decode cX8_meet 49 = .ok (.invokevirtual 311, 3) := by decide +kernel
theorem dX8_meet_52 : decode cX8_meet 52 = .ok (.istore 9, 2) := by decide +kernel
theorem dX8_meet_54 : decode cX8_meet 54 = .ok (.iload 9, 2) := by decide +kernel
theorem dX8_meet_56 : decode cX8_meet 56 = .ok (.iconst (-1), 1) := by decide +kernel
theorem dX8_meet_57 : decode cX8_meet 57 = .ok (.if_icmp .ne 6, 3) := by decide +kernel
theorem dX8_meet_60 : decode cX8_meet 60 = .ok (.goto 32, 3) := by decide +kernel
theorem dX8_meet_63 : decode cX8_meet 63 = .ok (.iload 5, 2) := by decide +kernel
theorem dX8_meet_65 : decode cX8_meet 65 = .ok (.ifCond .ne 6, 3) := by decide +kernel
theorem dX8_meet_68 : decode cX8_meet 68 = .ok (.iload 8, 2) := by decide +kernel
theorem dX8_meet_70 : decode cX8_meet 70 = .ok (.ireturn, 1) := by decide +kernel
theorem dX8_meet_71 : decode cX8_meet 71 = .ok (.iload 6, 2) := by decide +kernel
theorem dX8_meet_73 : decode cX8_meet 73 = .ok (.iconst (-1), 1) := by decide +kernel
theorem dX8_meet_74 : decode cX8_meet 74 = .ok (.if_icmp .eq 10, 3) := by decide +kernel
theorem dX8_meet_77 : decode cX8_meet 77 = .ok (.iload 9, 2) := by decide +kernel
theorem dX8_meet_79 : decode cX8_meet 79 = .ok (.iload 7, 2) := by decide +kernel
theorem dX8_meet_81 : decode cX8_meet 81 = .ok (.if_icmp .ge 11, 3) := by decide +kernel
theorem dX8_meet_84 : decode cX8_meet 84 = .ok (.iload 8, 2) := by decide +kernel
theorem dX8_meet_86 : decode cX8_meet 86 = .ok (.istore 6, 2) := by decide +kernel
theorem dX8_meet_88 : decode cX8_meet 88 = .ok (.iload 9, 2) := by decide +kernel
theorem dX8_meet_90 : decode cX8_meet 90 = .ok (.istore 7, 2) := by decide +kernel
theorem dX8_meet_92 : decode cX8_meet 92 = .ok (.iinc 8 1, 3) := by decide +kernel
theorem dX8_meet_95 : decode cX8_meet 95 = .ok (.goto (-60), 3) := by decide +kernel
theorem dX8_meet_98 : decode cX8_meet 98 = .ok (.iload 6, 2) := by decide +kernel
theorem dX8_meet_100 : decode cX8_meet 100 = .ok (.ireturn, 1) := by decide +kernel
theorem dX8_mend_0 : decode cX8_mend 0 = .ok (.aload_n 0, 1) := by decide +kernel
theorem dX8_mend_1 : decode cX8_mend 1 = .ok (.iload_n 1, 1) := by decide +kernel
theorem dX8_mend_2 : decode cX8_mend 2 = .ok (.invokevirtual 209, 3) := by decide +kernel
theorem dX8_mend_5 : decode cX8_mend 5 = .ok (.iload_n 2, 1) := by decide +kernel
theorem dX8_mend_6 : decode cX8_mend 6 = .ok (.invokestatic 139, 3) := by decide +kernel
theorem dX8_mend_9 : decode cX8_mend 9 = .ok (.iload_n 3, 1) := by decide +kernel
theorem dX8_mend_10 : decode cX8_mend 10 = .ok (.bipush (-120), 2) := by decide +kernel
theorem dX8_mend_12 : decode cX8_mend 12 = .ok (.if_icmp .lt 13, 3) := by decide +kernel
theorem dX8_mend_15 : decode cX8_mend 15 = .ok (.iload_n 3, 1) := by decide +kernel
theorem dX8_mend_16 : decode cX8_mend 16 = .ok (.bipush 120, 2) := by decide +kernel
theorem dX8_mend_18 : decode cX8_mend 18 = .ok (.if_icmp .gt 7, 3) := by decide +kernel
theorem dX8_mend_21 : decode cX8_mend 21 = .ok (.iconst 1, 1) := by decide +kernel
theorem dX8_mend_22 : decode cX8_mend 22 = .ok (.goto 4, 3) := by decide +kernel
theorem dX8_mend_25 : decode cX8_mend 25 = .ok (.iconst 0, 1) := by decide +kernel
theorem dX8_mend_26 : decode cX8_mend 26 = .ok (.istore 4, 2) := by decide +kernel
theorem dX8_mend_28 : decode cX8_mend 28 = .ok (.aload_n 0, 1) := by decide +kernel
theorem dX8_mend_29 : decode cX8_mend 29 = .ok (.getfield 72, 3) := by decide +kernel
theorem dX8_mend_32 : decode cX8_mend 32 = .ok (.getfield 199, 3) := by decide +kernel
theorem dX8_mend_35 : decode cX8_mend 35 = .ok (.bipush 40, 2) := by decide +kernel
theorem dX8_mend_37 : decode cX8_mend 37 = .ok (.if_icmp .ge 21, 3) := by decide +kernel
theorem dX8_mend_40 : decode cX8_mend 40 = .ok (.aload_n 0, 1) := by decide +kernel
theorem dX8_mend_41 : decode cX8_mend 41 = .ok (.getfield 48, 3) := by decide +kernel
theorem dX8_mend_44 : decode cX8_mend 44 = .ok (.getfield 212, 3) := by decide +kernel
theorem dX8_mend_47 : decode cX8_mend 47 = .ok (.iload_n 1, 1) := by decide +kernel
theorem dX8_mend_48 : decode cX8_mend 48 = .ok (.iaload, 1) := by decide +kernel
theorem dX8_mend_49 : decode cX8_mend 49 = .ok (.iconst 5, 1) := by decide +kernel
theorem dX8_mend_50 : decode cX8_mend 50 = .ok (.if_icmp .eq 8, 3) := by decide +kernel
theorem dX8_mend_53 : decode cX8_mend 53 = .ok (.iload 4, 2) := by decide +kernel
theorem dX8_mend_55 : decode cX8_mend 55 = .ok (.ifCond .ne 15, 3) := by decide +kernel
theorem dX8_mend_58 : decode cX8_mend 58 = .ok (.aload_n 0, 1) := by decide +kernel
theorem dX8_mend_59 : decode cX8_mend 59 = .ok (.getfield 20, 3) := by decide +kernel
theorem dX8_mend_62 : decode cX8_mend 62 = .ok (.iconst 3, 1) := by decide +kernel
theorem dX8_mend_63 : decode cX8_mend 63 = .ok (.dup2, 1) := by decide +kernel
theorem dX8_mend_64 : decode cX8_mend 64 = .ok (.iaload, 1) := by decide +kernel
theorem dX8_mend_65 : decode cX8_mend 65 = .ok (.iconst 1, 1) := by decide +kernel
theorem dX8_mend_66 : decode cX8_mend 66 = .ok (.iadd, 1) := by decide +kernel
theorem dX8_mend_67 : decode cX8_mend 67 = .ok (.iastore, 1) := by decide +kernel
theorem dX8_mend_68 : decode cX8_mend 68 = .ok (.iconst (-1), 1) := by decide +kernel
theorem dX8_mend_69 : decode cX8_mend 69 = .ok (.ireturn, 1) := by decide +kernel
theorem dX8_mend_70 : decode cX8_mend 70 = .ok (.aload_n 0, 1) := by decide +kernel
theorem dX8_mend_71 : decode cX8_mend 71 = .ok (.getfield 72, 3) := by decide +kernel
theorem dX8_mend_74 : decode cX8_mend 74 = .ok (.iload_n 1, 1) := by decide +kernel
theorem dX8_mend_75 : decode cX8_mend 75 = .ok (.iload_n 2, 1) := by decide +kernel
theorem dX8_mend_76 : decode cX8_mend 76 = .ok (.iload_n 3, 1) := by decide +kernel
theorem dX8_mend_77 : decode cX8_mend 77 = .ok (.invokevirtual 322, 3) := by decide +kernel
theorem dX8_mend_80 : decode cX8_mend 80 = .ok (.ireturn, 1) := by decide +kernel
theorem dX8_undo_0 : decode cX8_undo 0 = .ok (.aload_n 0, 1) := by decide +kernel
theorem dX8_undo_1 : decode cX8_undo 1 = .ok (.getfield 72, 3) := by decide +kernel
theorem dX8_undo_4 : decode cX8_undo 4 = .ok (.getfield 199, 3) := by decide +kernel
theorem dX8_undo_7 : decode cX8_undo 7 = .ok (.ifCond .gt 5, 3) := by decide +kernel
theorem dX8_undo_10 : decode cX8_undo 10 = .ok (.iconst (-1), 1) := by decide +kernel
theorem dX8_undo_11 : decode cX8_undo 11 = .ok (.ireturn, 1) := by decide +kernel
theorem dX8_undo_12 : decode cX8_undo 12 = .ok (.aload_n 0, 1) := by decide +kernel
theorem dX8_undo_13 : decode cX8_undo 13 = .ok (.getfield 72, 3) := by decide +kernel
theorem dX8_undo_16 : decode cX8_undo 16 = .ok (.dup, 1) := by decide +kernel
theorem dX8_undo_17 : decode cX8_undo 17 = .ok (.getfield 199, 3) := by decide +kernel
theorem dX8_undo_20 : decode cX8_undo 20 = .ok (.iconst 1, 1) := by decide +kernel
theorem dX8_undo_21 : decode cX8_undo 21 = .ok (.isub, 1) := by decide +kernel
theorem dX8_undo_22 : decode cX8_undo 22 = .ok (.putfield 199, 3) := by decide +kernel
theorem dX8_undo_25 : decode cX8_undo 25 = .ok (.aload_n 0, 1) := by decide +kernel
theorem dX8_undo_26 : decode cX8_undo 26 = .ok (.getfield 72, 3) := by decide +kernel
theorem dX8_undo_29 : decode cX8_undo 29 = .ok (.getfield 199, 3) := by decide +kernel
theorem dX8_undo_32 : decode cX8_undo 32 = .ok (.ireturn, 1) := by decide +kernel
theorem dX8_best_0 : decode cX8_best 0 = .ok (.aload_n 0, 1) := by decide +kernel
theorem dX8_best_1 : decode cX8_best 1 = .ok (.iload_n 1, 1) := by decide +kernel
theorem dX8_best_2 : decode cX8_best 2 = .ok (.invokevirtual 209, 3) := by decide +kernel
theorem dX8_best_5 : decode cX8_best 5 = .ok (.iload_n 2, 1) := by decide +kernel
theorem dX8_best_6 : decode cX8_best 6 = .ok (.invokestatic 142, 3) := by decide +kernel
theorem dX8_best_9 : decode cX8_best 9 = .ok (.iload 4, 2) := by decide +kernel
theorem dX8_best_11 : decode cX8_best 11 = .ok (.iconst 1, 1) := by decide +kernel
theorem dX8_best_12 : decode cX8_best 12 = .ok (.invokestatic 160, 3) := by decide +kernel
theorem dX8_best_15 : decode cX8_best 15 = .ok (.iload_n 3, 1) := by decide +kernel
theorem dX8_best_16 : decode cX8_best 16 = .ok (.ifCond .lt 9, 3) := by decide +kernel
theorem dX8_best_19 : decode cX8_best 19 = .ok (.iload_n 3, 1) := by decide +kernel
theorem dX8_best_20 : decode cX8_best 20 = .ok (.bipush 120, 2) := by decide +kernel
theorem dX8_best_22 : decode cX8_best 22 = .ok (.if_icmp .le 14, 3) := by decide +kernel
theorem dX8_best_25 : decode cX8_best 25 = .ok (.new 259, 3) := by decide +kernel
theorem dX8_best_28 : decode cX8_best 28 = .ok (.dup, 1) := by decide +kernel
theorem dX8_best_29 : decode cX8_best 29 = .ok (.ldc_w 325, 3) := by decide +kernel
theorem dX8_best_32 : decode cX8_best 32 = .ok (.invokespecial 263, 3) := by decide +kernel
theorem dX8_best_35 : decode cX8_best 35 = .ok (.athrow, 1) := by decide +kernel
theorem dX8_best_36 : decode cX8_best 36 = .ok (.aload_n 0, 1) := by decide +kernel
theorem dX8_best_37 : decode cX8_best 37 = .ok (.getfield 48, 3) := by decide +kernel
theorem dX8_best_40 : decode cX8_best 40 = .ok (.getfield 212, 3) := by decide +kernel
theorem dX8_best_43 : decode cX8_best 43 = .ok (.iload_n 1, 1) := by decide +kernel
theorem dX8_best_44 : decode cX8_best 44 = .ok (.iaload, 1) := by decide +kernel
theorem dX8_best_45 : decode cX8_best 45 = .ok (.iconst 5, 1) := by decide +kernel
theorem dX8_best_46 : decode cX8_best 46 = .ok (.if_icmp .ne 14, 3) := by decide +kernel
theorem dX8_best_49 : decode cX8_best 49 = .ok (.new 259, 3) := by decide +kernel
theorem dX8_best_52 : decode cX8_best 52 = .ok (.dup, 1) := by decide +kernel
theorem dX8_best_53 : decode cX8_best 53 = .ok (.ldc_w 327, 3) := by decide +kernel
theorem dX8_best_56 : decode cX8_best 56 = .ok (.invokespecial 263, 3) := by decide +kernel
theorem dX8_best_59 : decode cX8_best 59 = .ok (.athrow, 1) := by decide +kernel
theorem dX8_best_60 : decode cX8_best 60 = .ok (.aload_n 0, 1) := by decide +kernel
theorem dX8_best_61 : decode cX8_best 61 = .ok (.getfield 92, 3) := by decide +kernel
theorem dX8_best_64 : decode cX8_best 64 = .ok (.invokevirtual 329, 3) := by decide +kernel
theorem dX8_best_67 : decode cX8_best 67 = .ok (.iconst 0, 1) := by decide +kernel
theorem dX8_best_68 : decode cX8_best 68 = .ok (.istore 5, 2) := by decide +kernel
theorem dX8_best_70 : decode cX8_best 70 = .ok (.iload 5, 2) := by decide +kernel
theorem dX8_best_72 : decode cX8_best 72 = .ok (.sipush 365, 3) := by decide +kernel
theorem dX8_best_75 : decode cX8_best 75 = .ok (.if_icmp .ge 18, 3) := by decide +kernel
theorem dX8_best_78 : decode cX8_best 78 = .ok (.aload_n 0, 1) := by decide +kernel
theorem dX8_best_79 : decode cX8_best 79 = .ok (.iload_n 1, 1) := by decide +kernel
theorem dX8_best_80 : decode cX8_best 80 = .ok (.iload 5, 2) := by decide +kernel
theorem dX8_best_82 : decode cX8_best 82 = .ok (.iload_n 2, 1) := by decide +kernel
theorem dX8_best_83 : decode cX8_best 83 = .ok (.iload_n 3, 1) := by decide +kernel
theorem dX8_best_84 : decode cX8_best 84 = .ok (.invokevirtual 332, 3) := by decide +kernel
theorem dX8_best_87 : decode cX8_best 87 = .ok (.iinc 5 1, 3) := by decide +kernel
theorem dX8_best_90 : decode cX8_best 90 = .ok (.goto (-20), 3) := by decide +kernel
theorem dX8_best_93 : decode cX8_best 93 = .ok (.aload_n 0, 1) := by decide +kernel
theorem dX8_best_94 : decode cX8_best 94 = .ok (.getfield 92, 3) := by decide +kernel
theorem dX8_best_97 : decode cX8_best 97 = .ok (.aload_n 0, 1) := by decide +kernel
theorem dX8_best_98 : decode cX8_best 98 = .ok (.getfield 48, 3) := by decide +kernel
theorem dX8_best_101 : decode cX8_best 101 = .ok (.getfield 215, 3) := by decide +kernel
theorem dX8_best_104 : decode cX8_best 104 = .ok (.iload_n 1, 1) := by decide +kernel
theorem dX8_best_105 : decode cX8_best 105 = .ok (.iaload, 1) := by decide +kernel
theorem dX8_best_106 : decode cX8_best 106 = .ok (.invokevirtual 336, 3) := by decide +kernel
theorem dX8_best_109 : decode cX8_best 109 = .ok (.istore 5, 2) := by decide +kernel
theorem dX8_best_111 : decode cX8_best 111 = .ok (.iload 4, 2) := by decide +kernel
theorem dX8_best_113 : decode cX8_best 113 = .ok (.ifCond .ne 8, 3) := by decide +kernel
theorem dX8_best_116 : decode cX8_best 116 = .ok (.iload 5, 2) := by decide +kernel
theorem dX8_best_118 : decode cX8_best 118 = .ok (.goto 10, 3) := by decide +kernel
theorem dX8_best_121 : decode cX8_best 121 = .ok (.aload_n 0, 1) := by decide +kernel
theorem dX8_best_122 : decode cX8_best 122 = .ok (.getfield 92, 3) := by decide +kernel
theorem dX8_best_125 : decode cX8_best 125 = .ok (.getfield 339, 3) := by decide +kernel
theorem dX8_best_128 : decode cX8_best 128 = .ok (.ireturn, 1) := by decide +kernel
theorem dX8_addRightTurns_0 : decode cX8_addRightTurns 0 = .ok (.aload_n 0, 1) := by decide +kernel
theorem dX8_addRightTurns_1 : decode cX8_addRightTurns 1 = .ok (.getfield 48, 3) := by decide +kernel
theorem dX8_addRightTurns_4 : decode cX8_addRightTurns 4 = .ok (.iload_n 1, 1) := by decide +kernel
theorem dX8_addRightTurns_5 : decode cX8_addRightTurns 5 = .ok (.iload_n 2, 1) := by decide +kernel
theorem dX8_addRightTurns_6 : decode cX8_addRightTurns 6 = .ok (.iload_n 3, 1) := by decide +kernel
theorem dX8_addRightTurns_7 : decode cX8_addRightTurns 7 = .ok (.aload_n 0, 1) := by decide +kernel
theorem dX8_addRightTurns_8 : decode cX8_addRightTurns 8 = .ok (.getfield 48, 3) := by decide +kernel
theorem dX8_addRightTurns_11 : decode cX8_addRightTurns 11 = .ok (.getfield 218, 3) := by decide +kernel
theorem dX8_addRightTurns_14 : decode cX8_addRightTurns 14 = .ok (.iload_n 1, 1) := by decide +kernel
theorem dX8_addRightTurns_15 : decode cX8_addRightTurns 15 = .ok (.iaload, 1) := by decide +kernel
theorem dX8_addRightTurns_16 : decode cX8_addRightTurns 16 = .ok (.invokevirtual 342, 3) := by decide +kernel
theorem dX8_addRightTurns_19 : decode cX8_addRightTurns 19 = .ok (.istore 5, 2) := by decide +kernel
theorem dX8_addRightTurns_21 : decode cX8_addRightTurns 21 = .ok (.iload 5, 2) := by decide +kernel
theorem dX8_addRightTurns_23 : decode cX8_addRightTurns 23 = .ok (.iconst (-1), 1) := by decide +kernel
theorem dX8_addRightTurns_24 : decode cX8_addRightTurns 24 = .ok (.if_icmp .ne 4, 3) := by decide +kernel
theorem dX8_addRightTurns_27 : decode cX8_addRightTurns 27 = .ok (.return_, 1) := by decide +kernel
theorem dX8_addRightTurns_28 : decode cX8_addRightTurns 28 = .ok (.aload_n 0, 1) := by decide +kernel
theorem dX8_addRightTurns_29 : decode cX8_addRightTurns 29 = .ok (.getfield 48, 3) := by decide +kernel
theorem dX8_addRightTurns_32 : decode cX8_addRightTurns 32 = .ok (.getfield 212, 3) := by decide +kernel
theorem dX8_addRightTurns_35 : decode cX8_addRightTurns 35 = .ok (.iload_n 1, 1) := by decide +kernel
theorem dX8_addRightTurns_36 : decode cX8_addRightTurns 36 = .ok (.iaload, 1) := by decide +kernel
theorem dX8_addRightTurns_37 : decode cX8_addRightTurns 37 = .ok (.iconst 4, 1) := by decide +kernel
theorem dX8_addRightTurns_38 : decode cX8_addRightTurns 38 = .ok (.if_icmp .eq 33, 3) := by decide +kernel
theorem dX8_addRightTurns_41 : decode cX8_addRightTurns 41 = .ok (.iload 5, 2) := by decide +kernel
theorem dX8_addRightTurns_43 : decode cX8_addRightTurns 43 = .ok (.iload_n 3, 1) := by decide +kernel
theorem dX8_addRightTurns_44 : decode cX8_addRightTurns 44 = .ok (.isub, 1) := by decide +kernel
theorem dX8_addRightTurns_45 : decode cX8_addRightTurns 45 = .ok (.invokestatic 345, 3) := by decide +kernel
theorem dX8_addRightTurns_48 : decode cX8_addRightTurns 48 = .ok (.istore 6, 2) := by decide +kernel
theorem dX8_addRightTurns_50 : decode cX8_addRightTurns 50 = .ok (.aload_n 0, 1) := by decide +kernel
theorem dX8_addRightTurns_51 : decode cX8_addRightTurns 51 = .ok (.getfield 92, 3) := by decide +kernel
theorem dX8_addRightTurns_54 : decode cX8_addRightTurns 54 = .ok (.iload 4, 2) := by decide +kernel
theorem dX8_addRightTurns_56 : decode cX8_addRightTurns 56 = .ok (.ineg, 1) := by decide +kernel
theorem dX8_addRightTurns_57 : decode cX8_addRightTurns 57 = .ok (.iload 6, 2) := by decide +kernel
theorem dX8_addRightTurns_59 : decode cX8_addRightTurns 59 = .ok (.isub, 1) := by decide +kernel
theorem dX8_addRightTurns_60 : decode cX8_addRightTurns 60 = .ok (.iload 4, 2) := by decide +kernel
theorem dX8_addRightTurns_62 : decode cX8_addRightTurns 62 = .ok (.iload 6, 2) := by decide +kernel
theorem dX8_addRightTurns_64 : decode cX8_addRightTurns 64 = .ok (.isub, 1) := by decide +kernel
theorem dX8_addRightTurns_65 : decode cX8_addRightTurns 65 = .ok (.invokevirtual 348, 3) := by decide +kernel
theorem dX8_addRightTurns_68 : decode cX8_addRightTurns 68 = .ok (.goto 37, 3) := by decide +kernel
theorem dX8_addRightTurns_71 : decode cX8_addRightTurns 71 = .ok (.sipush 720, 3) := by decide +kernel
theorem dX8_addRightTurns_74 : decode cX8_addRightTurns 74 = .ok (.iload_n 3, 1) := by decide +kernel
theorem dX8_addRightTurns_75 : decode cX8_addRightTurns 75 = .ok (.invokestatic 181, 3) := by decide +kernel
theorem dX8_addRightTurns_78 : decode cX8_addRightTurns 78 = .ok (.iload 4, 2) := by decide +kernel
theorem dX8_addRightTurns_80 : decode cX8_addRightTurns 80 = .ok (.if_icmp .gt 25, 3) := by decide +kernel
theorem dX8_addRightTurns_83 : decode cX8_addRightTurns 83 = .ok (.sipush 720, 3) := by decide +kernel
theorem dX8_addRightTurns_86 : decode cX8_addRightTurns 86 = .ok (.iload 5, 2) := by decide +kernel
theorem dX8_addRightTurns_88 : decode cX8_addRightTurns 88 = .ok (.isub, 1) := by decide +kernel
theorem dX8_addRightTurns_89 : decode cX8_addRightTurns 89 = .ok (.invokestatic 345, 3) := by decide +kernel
theorem dX8_addRightTurns_92 : decode cX8_addRightTurns 92 = .ok (.istore 6, 2) := by decide +kernel
theorem dX8_addRightTurns_94 : decode cX8_addRightTurns 94 = .ok (.aload_n 0, 1) := by decide +kernel
theorem dX8_addRightTurns_95 : decode cX8_addRightTurns 95 = .ok (.getfield 92, 3) := by decide +kernel
theorem dX8_addRightTurns_98 : decode cX8_addRightTurns 98 = .ok (.iload 6, 2) := by decide +kernel
theorem dX8_addRightTurns_100 : decode cX8_addRightTurns 100 = .ok (.iload 6, 2) := by decide +kernel
theorem dX8_addRightTurns_102 : decode cX8_addRightTurns 102 = .ok (.invokevirtual 348, 3) := by decide +kernel
theorem dX8_addRightTurns_105 : decode cX8_addRightTurns 105 = .ok (.return_, 1) := by decide +kernel
theorem dX8_year_0 : decode cX8_year 0 = .ok (.aload_n 0, 1) := by decide +kernel
theorem dX8_year_1 : decode cX8_year 1 = .ok (.iload_n 1, 1) := by decide +kernel
theorem dX8_year_2 : decode cX8_year 2 = .ok (.invokevirtual 209, 3) := by decide +kernel
theorem dX8_year_5 : decode cX8_year 5 = .ok (.iload_n 2, 1) := by decide +kernel
theorem dX8_year_6 : decode cX8_year 6 = .ok (.invokestatic 142, 3) := by decide +kernel
theorem dX8_year_9 : decode cX8_year 9 = .ok (.iload_n 3, 1) := by decide +kernel
theorem dX8_year_10 : decode cX8_year 10 = .ok (.iconst 1, 1) := by decide +kernel
theorem dX8_year_11 : decode cX8_year 11 = .ok (.invokestatic 160, 3) := by decide +kernel
theorem dX8_year_14 : decode cX8_year 14 = .ok (.aload_n 0, 1) := by decide +kernel
theorem dX8_year_15 : decode cX8_year 15 = .ok (.iload_n 1, 1) := by decide +kernel
theorem dX8_year_16 : decode cX8_year 16 = .ok (.iload_n 2, 1) := by decide +kernel
theorem dX8_year_17 : decode cX8_year 17 = .ok (.invokevirtual 351, 3) := by decide +kernel
theorem dX8_year_20 : decode cX8_year 20 = .ok (.iload_n 3, 1) := by decide +kernel
theorem dX8_year_21 : decode cX8_year 21 = .ok (.ifCond .ne 13, 3) := by decide +kernel
theorem dX8_year_24 : decode cX8_year 24 = .ok (.aload_n 0, 1) := by decide +kernel
theorem dX8_year_25 : decode cX8_year 25 = .ok (.getfield 92, 3) := by decide +kernel
theorem dX8_year_28 : decode cX8_year 28 = .ok (.getfield 172, 3) := by decide +kernel
theorem dX8_year_31 : decode cX8_year 31 = .ok (.goto 10, 3) := by decide +kernel
theorem dX8_year_34 : decode cX8_year 34 = .ok (.aload_n 0, 1) := by decide +kernel
theorem dX8_year_35 : decode cX8_year 35 = .ok (.getfield 92, 3) := by decide +kernel
theorem dX8_year_38 : decode cX8_year 38 = .ok (.getfield 175, 3) := by decide +kernel
theorem dX8_year_41 : decode cX8_year 41 = .ok (.ireturn, 1) := by decide +kernel
theorem dX8_tallyYear_0 : decode cX8_tallyYear 0 = .ok (.aload_n 0, 1) := by decide +kernel
theorem dX8_tallyYear_1 : decode cX8_tallyYear 1 = .ok (.getfield 92, 3) := by decide +kernel
theorem dX8_tallyYear_4 : decode cX8_tallyYear 4 = .ok (.invokevirtual 163, 3) := by decide +kernel
theorem dX8_tallyYear_7 : decode cX8_tallyYear 7 = .ok (.iconst 0, 1) := by decide +kernel
theorem dX8_tallyYear_8 : decode cX8_tallyYear 8 = .ok (.istore_n 3, 1) := by decide +kernel
theorem dX8_tallyYear_9 : decode cX8_tallyYear 9 = .ok (.iload_n 3, 1) := by decide +kernel
theorem dX8_tallyYear_10 : decode cX8_tallyYear 10 = .ok (.sipush 365, 3) := by decide +kernel
theorem dX8_tallyYear_13 : decode cX8_tallyYear 13 = .ok (.if_icmp .ge 25, 3) := by decide +kernel
theorem dX8_tallyYear_16 : decode cX8_tallyYear 16 = .ok (.aload_n 0, 1) := by decide +kernel
theorem dX8_tallyYear_17 : decode cX8_tallyYear 17 = .ok (.getfield 92, 3) := by decide +kernel
theorem dX8_tallyYear_20 : decode cX8_tallyYear 20 = .ok (.iload_n 3, 1) := by decide +kernel
theorem dX8_tallyYear_21 : decode cX8_tallyYear 21 = .ok (.aload_n 0, 1) := by decide +kernel
theorem dX8_tallyYear_22 : decode cX8_tallyYear 22 = .ok (.iload_n 1, 1) := by decide +kernel
theorem dX8_tallyYear_23 : decode cX8_tallyYear 23 = .ok (.iload_n 3, 1) := by decide +kernel
theorem dX8_tallyYear_24 : decode cX8_tallyYear 24 = .ok (.iload_n 2, 1) := by decide +kernel
theorem dX8_tallyYear_25 : decode cX8_tallyYear 25 = .ok (.invokevirtual 234, 3) := by decide +kernel
theorem dX8_tallyYear_28 : decode cX8_tallyYear 28 = .ok (.iload_n 2, 1) := by decide +kernel
theorem dX8_tallyYear_29 : decode cX8_tallyYear 29 = .ok (.invokevirtual 164, 3) := by decide +kernel
theorem dX8_tallyYear_32 : decode cX8_tallyYear 32 = .ok (.iinc 3 1, 3) := by decide +kernel
theorem dX8_tallyYear_35 : decode cX8_tallyYear 35 = .ok (.goto (-26), 3) := by decide +kernel
theorem dX8_tallyYear_38 : decode cX8_tallyYear 38 = .ok (.return_, 1) := by decide +kernel
theorem dX8_live_0 : decode cX8_live 0 = .ok (.iload_n 1, 1) := by decide +kernel
theorem dX8_live_1 : decode cX8_live 1 = .ok (.invokestatic 142, 3) := by decide +kernel
theorem dX8_live_4 : decode cX8_live 4 = .ok (.iconst (-1), 1) := by decide +kernel
theorem dX8_live_5 : decode cX8_live 5 = .ok (.istore_n 2, 1) := by decide +kernel
theorem dX8_live_6 : decode cX8_live 6 = .ok (.iconst 0, 1) := by decide +kernel
theorem dX8_live_7 : decode cX8_live 7 = .ok (.istore_n 3, 1) := by decide +kernel
theorem dX8_live_8 : decode cX8_live 8 = .ok (.iconst 0, 1) := by decide +kernel
theorem dX8_live_9 : decode cX8_live 9 = .ok (.istore 4, 2) := by decide +kernel
theorem dX8_live_11 : decode cX8_live 11 = .ok (.iconst 0, 1) := by decide +kernel
theorem dX8_live_12 : decode cX8_live 12 = .ok (.istore 5, 2) := by decide +kernel
theorem dX8_live_14 : decode cX8_live 14 = .ok (.iload 5, 2) := by decide +kernel
theorem dX8_live_16 : decode cX8_live 16 = .ok (.aload_n 0, 1) := by decide +kernel
theorem dX8_live_17 : decode cX8_live 17 = .ok (.getfield 48, 3) := by decide +kernel
theorem dX8_live_20 : decode cX8_live 20 = .ok (.getfield 127, 3) := by decide +kernel
theorem dX8_live_23 : decode cX8_live 23 = .ok (.if_icmp .ge 87, 3) := by decide +kernel
theorem dX8_live_26 : decode cX8_live 26 = .ok (.aload_n 0, 1) := by decide +kernel
theorem dX8_live_27 : decode cX8_live 27 = .ok (.iload 5, 2) := by decide +kernel
theorem dX8_live_29 : decode cX8_live 29 = .ok (.iload_n 1, 1) := by decide +kernel
theorem dX8_live_30 : decode cX8_live 30 = .ok (.invokevirtual 351, 3) := by decide +kernel
theorem dX8_live_33 : decode cX8_live 33 = .ok (.aload_n 0, 1) := by decide +kernel
theorem dX8_live_34 : decode cX8_live 34 = .ok (.getfield 92, 3) := by decide +kernel
theorem dX8_live_37 : decode cX8_live 37 = .ok (.getfield 172, 3) := by decide +kernel
theorem dX8_live_40 : decode cX8_live 40 = .ok (.iload_n 3, 1) := by decide +kernel
theorem dX8_live_41 : decode cX8_live 41 = .ok (.if_icmp .gt 26, 3) := by decide +kernel
theorem dX8_live_44 : decode cX8_live 44 = .ok (.aload_n 0, 1) := by decide +kernel
theorem dX8_live_45 : decode cX8_live 45 = .ok (.getfield 92, 3) := by decide +kernel
theorem dX8_live_48 : decode cX8_live 48 = .ok (.getfield 172, 3) := by decide +kernel
theorem dX8_live_51 : decode cX8_live 51 = .ok (.iload_n 3, 1) := by decide +kernel
theorem dX8_live_52 : decode cX8_live 52 = .ok (.if_icmp .ne 19, 3) := by decide +kernel
theorem dX8_live_55 : decode cX8_live 55 = .ok (.aload_n 0, 1) := by decide +kernel
theorem dX8_live_56 : decode cX8_live 56 = .ok (.getfield 92, 3) := by decide +kernel
theorem dX8_live_59 : decode cX8_live 59 = .ok (.getfield 175, 3) := by decide +kernel
theorem dX8_live_62 : decode cX8_live 62 = .ok (.iload 4, 2) := by decide +kernel
theorem dX8_live_64 : decode cX8_live 64 = .ok (.if_icmp .ge 7, 3) := by decide +kernel
theorem dX8_live_67 : decode cX8_live 67 = .ok (.iconst 1, 1) := by decide +kernel
theorem dX8_live_68 : decode cX8_live 68 = .ok (.goto 4, 3) := by decide +kernel
theorem dX8_live_71 : decode cX8_live 71 = .ok (.iconst 0, 1) := by decide +kernel
theorem dX8_live_72 : decode cX8_live 72 = .ok (.istore 6, 2) := by decide +kernel
theorem dX8_live_74 : decode cX8_live 74 = .ok (.iload_n 2, 1) := by decide +kernel
theorem dX8_live_75 : decode cX8_live 75 = .ok (.iconst (-1), 1) := by decide +kernel
theorem dX8_live_76 : decode cX8_live 76 = .ok (.if_icmp .eq 8, 3) := by decide +kernel
theorem dX8_live_79 : decode cX8_live 79 = .ok (.iload 6, 2) := by decide +kernel
theorem dX8_live_81 : decode cX8_live 81 = .ok (.ifCond .eq 23, 3) := by decide +kernel
theorem dX8_live_84 : decode cX8_live 84 = .ok (.iload 5, 2) := by decide +kernel
theorem dX8_live_86 : decode cX8_live 86 = .ok (.istore_n 2, 1) := by decide +kernel
theorem dX8_live_87 : decode cX8_live 87 = .ok (.aload_n 0, 1) := by decide +kernel
theorem dX8_live_88 : decode cX8_live 88 = .ok (.getfield 92, 3) := by decide +kernel
theorem dX8_live_91 : decode cX8_live 91 = .ok (.getfield 172, 3) := by decide +kernel
theorem dX8_live_94 : decode cX8_live 94 = .ok (.istore_n 3, 1) := by decide +kernel
theorem dX8_live_95 : decode cX8_live 95 = .ok (.aload_n 0, 1) := by decide +kernel
theorem dX8_live_96 : decode cX8_live 96 = .ok (.getfield 92, 3) := by decide +kernel
theorem dX8_live_99 : decode cX8_live 99 = .ok (.getfield 175, 3) := by decide +kernel
theorem dX8_live_102 : decode cX8_live 102 = .ok (.istore 4, 2) := by decide +kernel
theorem dX8_live_104 : decode cX8_live 104 = .ok (.iinc 5 1, 3) := by decide +kernel
theorem dX8_live_107 : decode cX8_live 107 = .ok (.goto (-93), 3) := by decide +kernel
theorem dX8_live_110 : decode cX8_live 110 = .ok (.iload_n 2, 1) := by decide +kernel
theorem dX8_live_111 : decode cX8_live 111 = .ok (.ireturn, 1) := by decide +kernel
theorem dX8_middle_0 : decode cX8_middle 0 = .ok (.iload_n 2, 1) := by decide +kernel
theorem dX8_middle_1 : decode cX8_middle 1 = .ok (.invokestatic 139, 3) := by decide +kernel
theorem dX8_middle_4 : decode cX8_middle 4 = .ok (.iload_n 3, 1) := by decide +kernel
theorem dX8_middle_5 : decode cX8_middle 5 = .ok (.invokestatic 142, 3) := by decide +kernel
theorem dX8_middle_8 : decode cX8_middle 8 = .ok (.iload_n 1, 1) := by decide +kernel
theorem dX8_middle_9 : decode cX8_middle 9 = .ok (.ifCond .lt 16, 3) := by decide +kernel
theorem dX8_middle_12 : decode cX8_middle 12 = .ok (.iload_n 1, 1) := by decide +kernel
theorem dX8_middle_13 : decode cX8_middle 13 = .ok (.iconst 1, 1) := by decide +kernel
theorem dX8_middle_14 : decode cX8_middle 14 = .ok (.aload_n 0, 1) := by decide +kernel
theorem dX8_middle_15 : decode cX8_middle 15 = .ok (.getfield 48, 3) := by decide +kernel
theorem dX8_middle_18 : decode cX8_middle 18 = .ok (.getfield 127, 3) := by decide +kernel
theorem dX8_middle_21 : decode cX8_middle 21 = .ok (.ishl, 1) := by decide +kernel
theorem dX8_middle_22 : decode cX8_middle 22 = .ok (.if_icmp .lt 14, 3) := by decide +kernel
theorem dX8_middle_25 : decode cX8_middle 25 = .ok (.new 259, 3) := by decide +kernel
theorem dX8_middle_28 : decode cX8_middle 28 = .ok (.dup, 1) := by decide +kernel
theorem dX8_middle_29 : decode cX8_middle 29 = .ok (.ldc_w 354, 3) := by decide +kernel
theorem dX8_middle_32 : decode cX8_middle 32 = .ok (.invokespecial 263, 3) := by decide +kernel
theorem dX8_middle_35 : decode cX8_middle 35 = .ok (.athrow, 1) := by decide +kernel
theorem dX8_middle_36 : decode cX8_middle 36 = .ok (.aload_n 0, 1) := by decide +kernel
theorem dX8_middle_37 : decode cX8_middle 37 = .ok (.iload_n 2, 1) := by decide +kernel
theorem dX8_middle_38 : decode cX8_middle 38 = .ok (.iload_n 3, 1) := by decide +kernel
theorem dX8_middle_39 : decode cX8_middle 39 = .ok (.invokevirtual 152, 3) := by decide +kernel
theorem dX8_middle_42 : decode cX8_middle 42 = .ok (.aload_n 0, 1) := by decide +kernel
theorem dX8_middle_43 : decode cX8_middle 43 = .ok (.getfield 96, 3) := by decide +kernel
theorem dX8_middle_46 : decode cX8_middle 46 = .ok (.iload_n 1, 1) := by decide +kernel
theorem dX8_middle_47 : decode cX8_middle 47 = .ok (.aload_n 0, 1) := by decide +kernel
theorem dX8_middle_48 : decode cX8_middle 48 = .ok (.getfield 99, 3) := by decide +kernel
theorem dX8_middle_51 : decode cX8_middle 51 = .ok (.invokestatic 356, 3) := by decide +kernel
theorem dX8_middle_54 : decode cX8_middle 54 = .ok (.ireturn, 1) := by decide +kernel
theorem dX8_fillTolds_0 : decode cX8_fillTolds 0 = .ok (.iconst 0, 1) := by decide +kernel
theorem dX8_fillTolds_1 : decode cX8_fillTolds 1 = .ok (.istore_n 3, 1) := by decide +kernel
theorem dX8_fillTolds_2 : decode cX8_fillTolds 2 = .ok (.iload_n 3, 1) := by decide +kernel
theorem dX8_fillTolds_3 : decode cX8_fillTolds 3 = .ok (.aload_n 0, 1) := by decide +kernel
theorem dX8_fillTolds_4 : decode cX8_fillTolds 4 = .ok (.getfield 48, 3) := by decide +kernel
theorem dX8_fillTolds_7 : decode cX8_fillTolds 7 = .ok (.getfield 127, 3) := by decide +kernel
theorem dX8_fillTolds_10 : decode cX8_fillTolds 10 = .ok (.if_icmp .ge 22, 3) := by decide +kernel
theorem dX8_fillTolds_13 : decode cX8_fillTolds 13 = .ok (.aload_n 0, 1) := by decide +kernel
theorem dX8_fillTolds_14 : decode cX8_fillTolds 14 = .ok (.getfield 96, 3) := by decide +kernel
theorem dX8_fillTolds_17 : decode cX8_fillTolds 17 = .ok (.iload_n 3, 1) := by decide +kernel
theorem dX8_fillTolds_18 : decode cX8_fillTolds 18 = .ok (.aload_n 0, 1) := by decide +kernel
theorem dX8_fillTolds_19 : decode cX8_fillTolds 19 = .ok (.iload_n 3, 1) := by decide +kernel
theorem dX8_fillTolds_20 : decode cX8_fillTolds 20 = .ok (.iload_n 1, 1) := by decide +kernel
theorem dX8_fillTolds_21 : decode cX8_fillTolds 21 = .ok (.iload_n 2, 1) := by decide +kernel
theorem dX8_fillTolds_22 : decode cX8_fillTolds 22 = .ok (.invokevirtual 234, 3) := by decide +kernel
theorem dX8_fillTolds_25 : decode cX8_fillTolds 25 = .ok (.iastore, 1) := by decide +kernel
theorem dX8_fillTolds_26 : decode cX8_fillTolds 26 = .ok (.iinc 3 1, 3) := by decide +kernel
theorem dX8_fillTolds_29 : decode cX8_fillTolds 29 = .ok (.goto (-27), 3) := by decide +kernel
theorem dX8_fillTolds_32 : decode cX8_fillTolds 32 = .ok (.return_, 1) := by decide +kernel
theorem dX8_together_0 : decode cX8_together 0 = .ok (.iload_n 1, 1) := by decide +kernel
theorem dX8_together_1 : decode cX8_together 1 = .ok (.invokestatic 139, 3) := by decide +kernel
theorem dX8_together_4 : decode cX8_together 4 = .ok (.iload_n 2, 1) := by decide +kernel
theorem dX8_together_5 : decode cX8_together 5 = .ok (.iconst 1, 1) := by decide +kernel
theorem dX8_together_6 : decode cX8_together 6 = .ok (.invokestatic 160, 3) := by decide +kernel
theorem dX8_together_9 : decode cX8_together 9 = .ok (.aload_n 0, 1) := by decide +kernel
theorem dX8_together_10 : decode cX8_together 10 = .ok (.getfield 92, 3) := by decide +kernel
theorem dX8_together_13 : decode cX8_together 13 = .ok (.invokevirtual 360, 3) := by decide +kernel
theorem dX8_together_16 : decode cX8_together 16 = .ok (.iconst 0, 1) := by decide +kernel
theorem dX8_together_17 : decode cX8_together 17 = .ok (.istore_n 3, 1) := by decide +kernel
theorem dX8_together_18 : decode cX8_together 18 = .ok (.iload_n 3, 1) := by decide +kernel
theorem dX8_together_19 : decode cX8_together 19 = .ok (.sipush 1440, 3) := by decide +kernel
theorem dX8_together_22 : decode cX8_together 22 = .ok (.if_icmp .ge 22, 3) := by decide +kernel
theorem dX8_together_25 : decode cX8_together 25 = .ok (.aload_n 0, 1) := by decide +kernel
theorem dX8_together_26 : decode cX8_together 26 = .ok (.getfield 92, 3) := by decide +kernel
theorem dX8_together_29 : decode cX8_together 29 = .ok (.aload_n 0, 1) := by decide +kernel
theorem dX8_together_30 : decode cX8_together 30 = .ok (.iload_n 1, 1) := by decide +kernel
theorem dX8_together_31 : decode cX8_together 31 = .ok (.iload_n 3, 1) := by decide +kernel
theorem dX8_together_32 : decode cX8_together 32 = .ok (.invokevirtual 363, 3) := by decide +kernel
theorem dX8_together_35 : decode cX8_together 35 = .ok (.invokevirtual 366, 3) := by decide +kernel
theorem dX8_together_38 : decode cX8_together 38 = .ok (.iinc 3 1, 3) := by decide +kernel
theorem dX8_together_41 : decode cX8_together 41 = .ok (.goto (-23), 3) := by decide +kernel
theorem dX8_together_44 : decode cX8_together 44 = .ok (.iconst (-1), 1) := by decide +kernel
theorem dX8_together_45 : decode cX8_together 45 = .ok (.istore_n 3, 1) := by decide +kernel
theorem dX8_together_46 : decode cX8_together 46 = .ok (.iconst 0, 1) := by decide +kernel
theorem dX8_together_47 : decode cX8_together 47 = .ok (.istore 4, 2) := by decide +kernel
theorem dX8_together_49 : decode cX8_together 49 = .ok (.iconst 0, 1) := by decide +kernel
theorem dX8_together_50 : decode cX8_together 50 = .ok (.istore 5, 2) := by decide +kernel
theorem dX8_together_52 : decode cX8_together 52 = .ok (.iload 5, 2) := by decide +kernel
theorem dX8_together_54 : decode cX8_together 54 = .ok (.aload_n 0, 1) := by decide +kernel
theorem dX8_together_55 : decode cX8_together 55 = .ok (.getfield 48, 3) := by decide +kernel
theorem dX8_together_58 : decode cX8_together 58 = .ok (.getfield 127, 3) := by decide +kernel
theorem dX8_together_61 : decode cX8_together 61 = .ok (.if_icmp .ge 71, 3) := by decide +kernel
theorem dX8_together_64 : decode cX8_together 64 = .ok (.iload 5, 2) := by decide +kernel
theorem dX8_together_66 : decode cX8_together 66 = .ok (.iconst 1, 1) := by decide +kernel
theorem dX8_together_67 : decode cX8_together 67 = .ok (.iadd, 1) := by decide +kernel
theorem dX8_together_68 : decode cX8_together 68 = .ok (.istore 6, 2) := by decide +kernel
theorem dX8_together_70 : decode cX8_together 70 = .ok (.iload 6, 2) := by decide +kernel
theorem dX8_together_72 : decode cX8_together 72 = .ok (.aload_n 0, 1) := by decide +kernel
theorem dX8_together_73 : decode cX8_together 73 = .ok (.getfield 48, 3) := by decide +kernel
theorem dX8_together_76 : decode cX8_together 76 = .ok (.getfield 127, 3) := by decide +kernel
theorem dX8_together_79 : decode cX8_together 79 = .ok (.if_icmp .ge 47, 3) := by decide +kernel
theorem dX8_together_82 : decode cX8_together 82 = .ok (.aload_n 0, 1) := by decide +kernel
theorem dX8_together_83 : decode cX8_together 83 = .ok (.getfield 92, 3) := by decide +kernel
theorem dX8_together_86 : decode cX8_together 86 = .ok (.iload 5, 2) := by decide +kernel
theorem dX8_together_88 : decode cX8_together 88 = .ok (.iload 6, 2) := by decide +kernel
theorem dX8_together_90 : decode cX8_together 90 = .ok (.invokevirtual 369, 3) := by decide +kernel
theorem dX8_together_93 : decode cX8_together 93 = .ok (.istore 7, 2) := by decide +kernel
theorem dX8_together_95 : decode cX8_together 95 = .ok (.iload_n 3, 1) := by decide +kernel
theorem dX8_together_96 : decode cX8_together 96 = .ok (.iconst (-1), 1) := by decide +kernel
theorem dX8_together_97 : decode cX8_together 97 = .ok (.if_icmp .eq 10, 3) := by decide +kernel
theorem dX8_together_100 : decode cX8_together 100 = .ok (.iload 7, 2) := by decide +kernel
theorem dX8_together_102 : decode cX8_together 102 = .ok (.iload 4, 2) := by decide +kernel
theorem dX8_together_104 : decode cX8_together 104 = .ok (.if_icmp .le 16, 3) := by decide +kernel
theorem dX8_together_107 : decode cX8_together 107 = .ok (.bipush 10, 2) := by decide +kernel
theorem dX8_together_109 : decode cX8_together 109 = .ok (.iload 5, 2) := by decide +kernel
theorem dX8_together_111 : decode cX8_together 111 = .ok (.imul, 1) := by decide +kernel
theorem dX8_together_112 : decode cX8_together 112 = .ok (.iload 6, 2) := by decide +kernel
theorem dX8_together_114 : decode cX8_together 114 = .ok (.iadd, 1) := by decide +kernel
theorem dX8_together_115 : decode cX8_together 115 = .ok (.istore_n 3, 1) := by decide +kernel
theorem dX8_together_116 : decode cX8_together 116 = .ok (.iload 7, 2) := by decide +kernel
theorem dX8_together_118 : decode cX8_together 118 = .ok (.istore 4, 2) := by decide +kernel
theorem dX8_together_120 : decode cX8_together 120 = .ok (.iinc 6 1, 3) := by decide +kernel
theorem dX8_together_123 : decode cX8_together 123 = .ok (.goto (-53), 3) := by decide +kernel
theorem dX8_together_126 : decode cX8_together 126 = .ok (.iinc 5 1, 3) := by decide +kernel
theorem dX8_together_129 : decode cX8_together 129 = .ok (.goto (-77), 3) := by decide +kernel
theorem dX8_together_132 : decode cX8_together 132 = .ok (.iload_n 2, 1) := by decide +kernel
theorem dX8_together_133 : decode cX8_together 133 = .ok (.ifCond .ne 7, 3) := by decide +kernel
theorem dX8_together_136 : decode cX8_together 136 = .ok (.iload_n 3, 1) := by decide +kernel
theorem dX8_together_137 : decode cX8_together 137 = .ok (.goto 5, 3) := by decide +kernel
theorem dX8_together_140 : decode cX8_together 140 = .ok (.iload 4, 2) := by decide +kernel
theorem dX8_together_142 : decode cX8_together 142 = .ok (.ireturn, 1) := by decide +kernel
theorem dX8_litDials_0 : decode cX8_litDials 0 = .ok (.iconst 0, 1) := by decide +kernel
theorem dX8_litDials_1 : decode cX8_litDials 1 = .ok (.istore_n 3, 1) := by decide +kernel
theorem dX8_litDials_2 : decode cX8_litDials 2 = .ok (.iconst 0, 1) := by decide +kernel
theorem dX8_litDials_3 : decode cX8_litDials 3 = .ok (.istore 4, 2) := by decide +kernel
theorem dX8_litDials_5 : decode cX8_litDials 5 = .ok (.iload 4, 2) := by decide +kernel
theorem dX8_litDials_7 : decode cX8_litDials 7 = .ok (.aload_n 0, 1) := by decide +kernel
theorem dX8_litDials_8 : decode cX8_litDials 8 = .ok (.getfield 48, 3) := by decide +kernel
theorem dX8_litDials_11 : decode cX8_litDials 11 = .ok (.getfield 127, 3) := by decide +kernel
theorem dX8_litDials_14 : decode cX8_litDials 14 = .ok (.if_icmp .ge 75, 3) := by decide +kernel
theorem dX8_litDials_17 : decode cX8_litDials 17 = .ok (.aload_n 0, 1) := by decide +kernel
theorem dX8_litDials_18 : decode cX8_litDials 18 = .ok (.getfield 48, 3) := by decide +kernel
theorem dX8_litDials_21 : decode cX8_litDials 21 = .ok (.iload 4, 2) := by decide +kernel
theorem dX8_litDials_23 : decode cX8_litDials 23 = .ok (.iload_n 1, 1) := by decide +kernel
theorem dX8_litDials_24 : decode cX8_litDials 24 = .ok (.iload_n 2, 1) := by decide +kernel
theorem dX8_litDials_25 : decode cX8_litDials 25 = .ok (.aload_n 0, 1) := by decide +kernel
theorem dX8_litDials_26 : decode cX8_litDials 26 = .ok (.getfield 48, 3) := by decide +kernel
theorem dX8_litDials_29 : decode cX8_litDials 29 = .ok (.getfield 218, 3) := by decide +kernel
theorem dX8_litDials_32 : decode cX8_litDials 32 = .ok (.iload 4, 2) := by decide +kernel
theorem dX8_litDials_34 : decode cX8_litDials 34 = .ok (.iaload, 1) := by decide +kernel
theorem dX8_litDials_35 : decode cX8_litDials 35 = .ok (.invokevirtual 342, 3) := by decide +kernel
theorem dX8_litDials_38 : decode cX8_litDials 38 = .ok (.istore 5, 2) := by decide +kernel
theorem dX8_litDials_40 : decode cX8_litDials 40 = .ok (.iload 5, 2) := by decide +kernel
theorem dX8_litDials_42 : decode cX8_litDials 42 = .ok (.iconst (-1), 1) := by decide +kernel
theorem dX8_litDials_43 : decode cX8_litDials 43 = .ok (.if_icmp .eq 27, 3) := by decide +kernel
theorem dX8_litDials_46 : decode cX8_litDials 46 = .ok (.aload_n 0, 1) := by decide +kernel
theorem dX8_litDials_47 : decode cX8_litDials 47 = .ok (.getfield 48, 3) := by decide +kernel
theorem dX8_litDials_50 : decode cX8_litDials 50 = .ok (.getfield 212, 3) := by decide +kernel
theorem dX8_litDials_53 : decode cX8_litDials 53 = .ok (.iload 4, 2) := by decide +kernel
theorem dX8_litDials_55 : decode cX8_litDials 55 = .ok (.iaload, 1) := by decide +kernel
theorem dX8_litDials_56 : decode cX8_litDials 56 = .ok (.iconst 4, 1) := by decide +kernel
theorem dX8_litDials_57 : decode cX8_litDials 57 = .ok (.if_icmp .ne 13, 3) := by decide +kernel
theorem dX8_litDials_60 : decode cX8_litDials 60 = .ok (.aload_n 0, 1) := by decide +kernel
theorem dX8_litDials_61 : decode cX8_litDials 61 = .ok (.iload 4, 2) := by decide +kernel
theorem dX8_litDials_63 : decode cX8_litDials 63 = .ok (.iload_n 1, 1) := by decide +kernel
theorem dX8_litDials_64 : decode cX8_litDials 64 = .ok (.iload_n 2, 1) := by decide +kernel
theorem dX8_litDials_65 : decode cX8_litDials 65 = .ok (.invokevirtual 234, 3) := by decide +kernel
theorem dX8_litDials_68 : decode cX8_litDials 68 = .ok (.istore 5, 2) := by decide +kernel
theorem dX8_litDials_70 : decode cX8_litDials 70 = .ok (.iload 5, 2) := by decide +kernel
theorem dX8_litDials_72 : decode cX8_litDials 72 = .ok (.iconst (-1), 1) := by decide +kernel
theorem dX8_litDials_73 : decode cX8_litDials 73 = .ok (.if_icmp .eq 10, 3) := by decide +kernel
theorem dX8_litDials_76 : decode cX8_litDials 76 = .ok (.iload_n 3, 1) := by decide +kernel
theorem dX8_litDials_77 : decode cX8_litDials 77 = .ok (.iconst 1, 1) := by decide +kernel
theorem dX8_litDials_78 : decode cX8_litDials 78 = .ok (.iload 4, 2) := by decide +kernel
theorem dX8_litDials_80 : decode cX8_litDials 80 = .ok (.ishl, 1) := by decide +kernel
theorem dX8_litDials_81 : decode cX8_litDials 81 = .ok (.ior, 1) := by decide +kernel
theorem dX8_litDials_82 : decode cX8_litDials 82 = .ok (.istore_n 3, 1) := by decide +kernel
theorem dX8_litDials_83 : decode cX8_litDials 83 = .ok (.iinc 4 1, 3) := by decide +kernel
theorem dX8_litDials_86 : decode cX8_litDials 86 = .ok (.goto (-81), 3) := by decide +kernel
theorem dX8_litDials_89 : decode cX8_litDials 89 = .ok (.iload_n 3, 1) := by decide +kernel
theorem dX8_litDials_90 : decode cX8_litDials 90 = .ok (.ireturn, 1) := by decide +kernel
theorem dX8_takes_0 : decode cX8_takes 0 = .ok (.aload_n 0, 1) := by decide +kernel
theorem dX8_takes_1 : decode cX8_takes 1 = .ok (.iload_n 1, 1) := by decide +kernel
theorem dX8_takes_2 : decode cX8_takes 2 = .ok (.invokevirtual 209, 3) := by decide +kernel
theorem dX8_takes_5 : decode cX8_takes 5 = .ok (.iload_n 2, 1) := by decide +kernel
theorem dX8_takes_6 : decode cX8_takes 6 = .ok (.invokestatic 139, 3) := by decide +kernel
theorem dX8_takes_9 : decode cX8_takes 9 = .ok (.iconst 0, 1) := by decide +kernel
theorem dX8_takes_10 : decode cX8_takes 10 = .ok (.istore_n 3, 1) := by decide +kernel
theorem dX8_takes_11 : decode cX8_takes 11 = .ok (.iload_n 2, 1) := by decide +kernel
theorem dX8_takes_12 : decode cX8_takes 12 = .ok (.istore 4, 2) := by decide +kernel
theorem dX8_takes_14 : decode cX8_takes 14 = .ok (.iload 4, 2) := by decide +kernel
theorem dX8_takes_16 : decode cX8_takes 16 = .ok (.sipush 365, 3) := by decide +kernel
theorem dX8_takes_19 : decode cX8_takes 19 = .ok (.if_icmp .ge 19, 3) := by decide +kernel
theorem dX8_takes_22 : decode cX8_takes 22 = .ok (.iload_n 3, 1) := by decide +kernel
theorem dX8_takes_23 : decode cX8_takes 23 = .ok (.aload_n 0, 1) := by decide +kernel
theorem dX8_takes_24 : decode cX8_takes 24 = .ok (.iload_n 1, 1) := by decide +kernel
theorem dX8_takes_25 : decode cX8_takes 25 = .ok (.iload 4, 2) := by decide +kernel
theorem dX8_takes_27 : decode cX8_takes 27 = .ok (.invokevirtual 372, 3) := by decide +kernel
theorem dX8_takes_30 : decode cX8_takes 30 = .ok (.iadd, 1) := by decide +kernel
theorem dX8_takes_31 : decode cX8_takes 31 = .ok (.istore_n 3, 1) := by decide +kernel
theorem dX8_takes_32 : decode cX8_takes 32 = .ok (.iinc 4 1, 3) := by decide +kernel
theorem dX8_takes_35 : decode cX8_takes 35 = .ok (.goto (-21), 3) := by decide +kernel
theorem dX8_takes_38 : decode cX8_takes 38 = .ok (.iload_n 3, 1) := by decide +kernel
theorem dX8_takes_39 : decode cX8_takes 39 = .ok (.ireturn, 1) := by decide +kernel
theorem dX8_takenOn_0 : decode cX8_takenOn 0 = .ok (.aload_n 0, 1) := by decide +kernel
theorem dX8_takenOn_1 : decode cX8_takenOn 1 = .ok (.getfield 48, 3) := by decide +kernel
theorem dX8_takenOn_4 : decode cX8_takenOn 4 = .ok (.getfield 212, 3) := by decide +kernel
theorem dX8_takenOn_7 : decode cX8_takenOn 7 = .ok (.iload_n 1, 1) := by decide +kernel
theorem dX8_takenOn_8 : decode cX8_takenOn 8 = .ok (.iaload, 1) := by decide +kernel
theorem dX8_takenOn_9 : decode cX8_takenOn 9 = .ok (.iconst 4, 1) := by decide +kernel
theorem dX8_takenOn_10 : decode cX8_takenOn 10 = .ok (.if_icmp .ne 26, 3) := by decide +kernel
theorem dX8_takenOn_13 : decode cX8_takenOn 13 = .ok (.aload_n 0, 1) := by decide +kernel
theorem dX8_takenOn_14 : decode cX8_takenOn 14 = .ok (.getfield 48, 3) := by decide +kernel
theorem dX8_takenOn_17 : decode cX8_takenOn 17 = .ok (.iload_n 1, 1) := by decide +kernel
theorem dX8_takenOn_18 : decode cX8_takenOn 18 = .ok (.iload_n 2, 1) := by decide +kernel
theorem dX8_takenOn_19 : decode cX8_takenOn 19 = .ok (.sipush 720, 3) := by decide +kernel
theorem dX8_takenOn_22 : decode cX8_takenOn 22 = .ok (.aload_n 0, 1) := by decide +kernel
theorem dX8_takenOn_23 : decode cX8_takenOn 23 = .ok (.iload_n 1, 1) := by decide +kernel
theorem dX8_takenOn_24 : decode cX8_takenOn 24 = .ok (.iload_n 2, 1) := by decide +kernel
theorem dX8_takenOn_25 : decode cX8_takenOn 25 = .ok (.invokevirtual 238, 3) := by decide +kernel
theorem dX8_takenOn_28 : decode cX8_takenOn 28 = .ok (.aload_n 0, 1) := by decide +kernel
theorem dX8_takenOn_29 : decode cX8_takenOn 29 = .ok (.getfield 102, 3) := by decide +kernel
theorem dX8_takenOn_32 : decode cX8_takenOn 32 = .ok (.invokevirtual 301, 3) := by decide +kernel
theorem dX8_takenOn_35 : decode cX8_takenOn 35 = .ok (.ireturn, 1) := by decide +kernel
theorem dX8_takenOn_36 : decode cX8_takenOn 36 = .ok (.aload_n 0, 1) := by decide +kernel
theorem dX8_takenOn_37 : decode cX8_takenOn 37 = .ok (.getfield 48, 3) := by decide +kernel
theorem dX8_takenOn_40 : decode cX8_takenOn 40 = .ok (.iload_n 1, 1) := by decide +kernel
theorem dX8_takenOn_41 : decode cX8_takenOn 41 = .ok (.iload_n 2, 1) := by decide +kernel
theorem dX8_takenOn_42 : decode cX8_takenOn 42 = .ok (.invokevirtual 375, 3) := by decide +kernel
theorem dX8_takenOn_45 : decode cX8_takenOn 45 = .ok (.ireturn, 1) := by decide +kernel
theorem dX8_image_0 : decode cX8_image 0 = .ok (.aload_n 0, 1) := by decide +kernel
theorem dX8_image_1 : decode cX8_image 1 = .ok (.getfield 76, 3) := by decide +kernel
theorem dX8_image_4 : decode cX8_image 4 = .ok (.aload_n 0, 1) := by decide +kernel
theorem dX8_image_5 : decode cX8_image 5 = .ok (.getfield 72, 3) := by decide +kernel
theorem dX8_image_8 : decode cX8_image 8 = .ok (.invokevirtual 378, 3) := by decide +kernel
theorem dX8_image_11 : decode cX8_image 11 = .ok (.aload_n 0, 1) := by decide +kernel
theorem dX8_image_12 : decode cX8_image 12 = .ok (.iconst 1, 1) := by decide +kernel
theorem dX8_image_13 : decode cX8_image 13 = .ok (.putfield 79, 3) := by decide +kernel
theorem dX8_image_16 : decode cX8_image 16 = .ok (.return_, 1) := by decide +kernel
theorem dX8_restore_0 : decode cX8_restore 0 = .ok (.aload_n 0, 1) := by decide +kernel
theorem dX8_restore_1 : decode cX8_restore 1 = .ok (.getfield 79, 3) := by decide +kernel
theorem dX8_restore_4 : decode cX8_restore 4 = .ok (.ifCond .ne 5, 3) := by decide +kernel
theorem dX8_restore_7 : decode cX8_restore 7 = .ok (.iconst 0, 1) := by decide +kernel
theorem dX8_restore_8 : decode cX8_restore 8 = .ok (.ireturn, 1) := by decide +kernel
theorem dX8_restore_9 : decode cX8_restore 9 = .ok (.aload_n 0, 1) := by decide +kernel
theorem dX8_restore_10 : decode cX8_restore 10 = .ok (.getfield 72, 3) := by decide +kernel
theorem dX8_restore_13 : decode cX8_restore 13 = .ok (.aload_n 0, 1) := by decide +kernel
theorem dX8_restore_14 : decode cX8_restore 14 = .ok (.getfield 76, 3) := by decide +kernel
theorem dX8_restore_17 : decode cX8_restore 17 = .ok (.invokevirtual 378, 3) := by decide +kernel
theorem dX8_restore_20 : decode cX8_restore 20 = .ok (.iconst 1, 1) := by decide +kernel
theorem dX8_restore_21 : decode cX8_restore 21 = .ok (.ireturn, 1) := by decide +kernel
theorem dX8_needTaped_0 : decode cX8_needTaped 0 = .ok (.iload_n 1, 1) := by decide +kernel
theorem dX8_needTaped_1 : decode cX8_needTaped 1 = .ok (.ifCond .lt 11, 3) := by decide +kernel
theorem dX8_needTaped_4 : decode cX8_needTaped 4 = .ok (.iload_n 1, 1) := by decide +kernel
theorem dX8_needTaped_5 : decode cX8_needTaped 5 = .ok (.aload_n 0, 1) := by decide +kernel
theorem dX8_needTaped_6 : decode cX8_needTaped 6 = .ok (.getfield 13, 3) := by decide +kernel
theorem dX8_needTaped_9 : decode cX8_needTaped 9 = .ok (.if_icmp .le 14, 3) := by decide +kernel
theorem dX8_needTaped_12 : decode cX8_needTaped 12 = .ok (.new 259, 3) := by decide +kernel
theorem dX8_needTaped_15 : decode cX8_needTaped 15 = .ok (.dup, 1) := by decide +kernel
theorem dX8_needTaped_16 : decode cX8_needTaped 16 = .ok (.ldc_w 382, 3) := by decide +kernel
theorem dX8_needTaped_19 : decode cX8_needTaped 19 = .ok (.invokespecial 263, 3) := by decide +kernel
theorem dX8_needTaped_22 : decode cX8_needTaped 22 = .ok (.athrow, 1) := by decide +kernel
theorem dX8_needTaped_23 : decode cX8_needTaped 23 = .ok (.return_, 1) := by decide +kernel
theorem dX8_needDial_0 : decode cX8_needDial 0 = .ok (.iload_n 1, 1) := by decide +kernel
theorem dX8_needDial_1 : decode cX8_needDial 1 = .ok (.ifCond .lt 14, 3) := by decide +kernel
theorem dX8_needDial_4 : decode cX8_needDial 4 = .ok (.iload_n 1, 1) := by decide +kernel
theorem dX8_needDial_5 : decode cX8_needDial 5 = .ok (.aload_n 0, 1) := by decide +kernel
theorem dX8_needDial_6 : decode cX8_needDial 6 = .ok (.getfield 48, 3) := by decide +kernel
theorem dX8_needDial_9 : decode cX8_needDial 9 = .ok (.getfield 127, 3) := by decide +kernel
theorem dX8_needDial_12 : decode cX8_needDial 12 = .ok (.if_icmp .lt 14, 3) := by decide +kernel
theorem dX8_needDial_15 : decode cX8_needDial 15 = .ok (.new 202, 3) := by decide +kernel
theorem dX8_needDial_18 : decode cX8_needDial 18 = .ok (.dup, 1) := by decide +kernel
theorem dX8_needDial_19 : decode cX8_needDial 19 = .ok (.ldc_w 384, 3) := by decide +kernel
theorem dX8_needDial_22 : decode cX8_needDial 22 = .ok (.invokespecial 206, 3) := by decide +kernel
theorem dX8_needDial_25 : decode cX8_needDial 25 = .ok (.athrow, 1) := by decide +kernel
theorem dX8_needDial_26 : decode cX8_needDial 26 = .ok (.return_, 1) := by decide +kernel
theorem dX8_needDay_0 : decode cX8_needDay 0 = .ok (.iload_n 0, 1) := by decide +kernel
theorem dX8_needDay_1 : decode cX8_needDay 1 = .ok (.ifCond .lt 10, 3) := by decide +kernel
theorem dX8_needDay_4 : decode cX8_needDay 4 = .ok (.iload_n 0, 1) := by decide +kernel
theorem dX8_needDay_5 : decode cX8_needDay 5 = .ok (.sipush 365, 3) := by decide +kernel
theorem dX8_needDay_8 : decode cX8_needDay 8 = .ok (.if_icmp .lt 14, 3) := by decide +kernel
theorem dX8_needDay_11 : decode cX8_needDay 11 = .ok (.new 202, 3) := by decide +kernel
theorem dX8_needDay_14 : decode cX8_needDay 14 = .ok (.dup, 1) := by decide +kernel
theorem dX8_needDay_15 : decode cX8_needDay 15 = .ok (.ldc_w 386, 3) := by decide +kernel
theorem dX8_needDay_18 : decode cX8_needDay 18 = .ok (.invokespecial 206, 3) := by decide +kernel
theorem dX8_needDay_21 : decode cX8_needDay 21 = .ok (.athrow, 1) := by decide +kernel
theorem dX8_needDay_22 : decode cX8_needDay 22 = .ok (.return_, 1) := by decide +kernel
theorem dX8_needMinute_0 : decode cX8_needMinute 0 = .ok (.iload_n 0, 1) := by decide +kernel
theorem dX8_needMinute_1 : decode cX8_needMinute 1 = .ok (.ifCond .lt 10, 3) := by decide +kernel
theorem dX8_needMinute_4 : decode cX8_needMinute 4 = .ok (.iload_n 0, 1) := by decide +kernel
theorem dX8_needMinute_5 : decode cX8_needMinute 5 = .ok (.sipush 1440, 3) := by decide +kernel
theorem dX8_needMinute_8 : decode cX8_needMinute 8 = .ok (.if_icmp .lt 14, 3) := by decide +kernel
theorem dX8_needMinute_11 : decode cX8_needMinute 11 = .ok (.new 202, 3) := by decide +kernel
theorem dX8_needMinute_14 : decode cX8_needMinute 14 = .ok (.dup, 1) := by decide +kernel
theorem dX8_needMinute_15 : decode cX8_needMinute 15 = .ok (.ldc_w 388, 3) := by decide +kernel
theorem dX8_needMinute_18 : decode cX8_needMinute 18 = .ok (.invokespecial 206, 3) := by decide +kernel
theorem dX8_needMinute_21 : decode cX8_needMinute 21 = .ok (.athrow, 1) := by decide +kernel
theorem dX8_needMinute_22 : decode cX8_needMinute 22 = .ok (.return_, 1) := by decide +kernel
theorem dX8_needWhat_0 : decode cX8_needWhat 0 = .ok (.iload_n 0, 1) := by decide +kernel
theorem dX8_needWhat_1 : decode cX8_needWhat 1 = .ok (.ifCond .lt 8, 3) := by decide +kernel
theorem dX8_needWhat_4 : decode cX8_needWhat 4 = .ok (.iload_n 0, 1) := by decide +kernel
theorem dX8_needWhat_5 : decode cX8_needWhat 5 = .ok (.iload_n 1, 1) := by decide +kernel
theorem dX8_needWhat_6 : decode cX8_needWhat 6 = .ok (.if_icmp .le 14, 3) := by decide +kernel
theorem dX8_needWhat_9 : decode cX8_needWhat 9 = .ok (.new 202, 3) := by decide +kernel
theorem dX8_needWhat_12 : decode cX8_needWhat 12 = .ok (.dup, 1) := by decide +kernel
theorem dX8_needWhat_13 : decode cX8_needWhat 13 = .ok (.ldc_w 390, 3) := by decide +kernel
theorem dX8_needWhat_16 : decode cX8_needWhat 16 = .ok (.invokespecial 206, 3) := by decide +kernel
theorem dX8_needWhat_19 : decode cX8_needWhat 19 = .ok (.athrow, 1) := by decide +kernel
theorem dX8_needWhat_20 : decode cX8_needWhat 20 = .ok (.return_, 1) := by decide +kernel
theorem dX8_needLaw_0 : decode cX8_needLaw 0 = .ok (.aload_n 0, 1) := by decide +kernel
theorem dX8_needLaw_1 : decode cX8_needLaw 1 = .ok (.getfield 65, 3) := by decide +kernel
theorem dX8_needLaw_4 : decode cX8_needLaw 4 = .ok (.ifCond .ne 14, 3) := by decide +kernel
theorem dX8_needLaw_7 : decode cX8_needLaw 7 = .ok (.new 259, 3) := by decide +kernel
theorem dX8_needLaw_10 : decode cX8_needLaw 10 = .ok (.dup, 1) := by decide +kernel
theorem dX8_needLaw_11 : decode cX8_needLaw 11 = .ok (.ldc_w 392, 3) := by decide +kernel
theorem dX8_needLaw_14 : decode cX8_needLaw 14 = .ok (.invokespecial 263, 3) := by decide +kernel
theorem dX8_needLaw_17 : decode cX8_needLaw 17 = .ok (.athrow, 1) := by decide +kernel
theorem dX8_needLaw_18 : decode cX8_needLaw 18 = .ok (.return_, 1) := by decide +kernel
theorem dX8_wrongBy_0 : decode cX8_wrongBy 0 = .ok (.iload_n 0, 1) := by decide +kernel
theorem dX8_wrongBy_1 : decode cX8_wrongBy 1 = .ok (.iload_n 1, 1) := by decide +kernel
theorem dX8_wrongBy_2 : decode cX8_wrongBy 2 = .ok (.isub, 1) := by decide +kernel
theorem dX8_wrongBy_3 : decode cX8_wrongBy 3 = .ok (.invokestatic 317, 3) := by decide +kernel
theorem dX8_wrongBy_6 : decode cX8_wrongBy 6 = .ok (.istore_n 2, 1) := by decide +kernel
theorem dX8_wrongBy_7 : decode cX8_wrongBy 7 = .ok (.iload_n 2, 1) := by decide +kernel
theorem dX8_wrongBy_8 : decode cX8_wrongBy 8 = .ok (.sipush 1440, 3) := by decide +kernel
theorem dX8_wrongBy_11 : decode cX8_wrongBy 11 = .ok (.iload_n 2, 1) := by decide +kernel
theorem dX8_wrongBy_12 : decode cX8_wrongBy 12 = .ok (.isub, 1) := by decide +kernel
theorem dX8_wrongBy_13 : decode cX8_wrongBy 13 = .ok (.invokestatic 394, 3) := by decide +kernel
theorem dX8_wrongBy_16 : decode cX8_wrongBy 16 = .ok (.ireturn, 1) := by decide +kernel
theorem dX8_around_0 : decode cX8_around 0 = .ok (.iload_n 0, 1) := by decide +kernel
theorem dX8_around_1 : decode cX8_around 1 = .ok (.sipush 720, 3) := by decide +kernel
theorem dX8_around_4 : decode cX8_around 4 = .ok (.iadd, 1) := by decide +kernel
theorem dX8_around_5 : decode cX8_around 5 = .ok (.sipush 1440, 3) := by decide +kernel
theorem dX8_around_8 : decode cX8_around 8 = .ok (.invokestatic 397, 3) := by decide +kernel
theorem dX8_around_11 : decode cX8_around 11 = .ok (.sipush 720, 3) := by decide +kernel
theorem dX8_around_14 : decode cX8_around 14 = .ok (.isub, 1) := by decide +kernel
theorem dX8_around_15 : decode cX8_around 15 = .ok (.ireturn, 1) := by decide +kernel
theorem dX8_middleOf_0 : decode cX8_middleOf 0 = .ok (.iconst 0, 1) := by decide +kernel
theorem dX8_middleOf_1 : decode cX8_middleOf 1 = .ok (.istore_n 3, 1) := by decide +kernel
theorem dX8_middleOf_2 : decode cX8_middleOf 2 = .ok (.iconst 0, 1) := by decide +kernel
theorem dX8_middleOf_3 : decode cX8_middleOf 3 = .ok (.istore 4, 2) := by decide +kernel
theorem dX8_middleOf_5 : decode cX8_middleOf 5 = .ok (.iload 4, 2) := by decide +kernel
theorem dX8_middleOf_7 : decode cX8_middleOf 7 = .ok (.aload_n 0, 1) := by decide +kernel
theorem dX8_middleOf_8 : decode cX8_middleOf 8 = .ok (.arraylength, 1) := by decide +kernel
theorem dX8_middleOf_9 : decode cX8_middleOf 9 = .ok (.if_icmp .ge 83, 3) := by decide +kernel
theorem dX8_middleOf_12 : decode cX8_middleOf 12 = .ok (.iload_n 1, 1) := by decide +kernel
theorem dX8_middleOf_13 : decode cX8_middleOf 13 = .ok (.iload 4, 2) := by decide +kernel
theorem dX8_middleOf_15 : decode cX8_middleOf 15 = .ok (.ishr, 1) := by decide +kernel
theorem dX8_middleOf_16 : decode cX8_middleOf 16 = .ok (.iconst 1, 1) := by decide +kernel
theorem dX8_middleOf_17 : decode cX8_middleOf 17 = .ok (.iand, 1) := by decide +kernel
theorem dX8_middleOf_18 : decode cX8_middleOf 18 = .ok (.ifCond .eq 68, 3) := by decide +kernel
theorem dX8_middleOf_21 : decode cX8_middleOf 21 = .ok (.aload_n 0, 1) := by decide +kernel
theorem dX8_middleOf_22 : decode cX8_middleOf 22 = .ok (.iload 4, 2) := by decide +kernel
theorem dX8_middleOf_24 : decode cX8_middleOf 24 = .ok (.iaload, 1) := by decide +kernel
theorem dX8_middleOf_25 : decode cX8_middleOf 25 = .ok (.iconst (-1), 1) := by decide +kernel
theorem dX8_middleOf_26 : decode cX8_middleOf 26 = .ok (.if_icmp .eq 60, 3) := by decide +kernel
theorem dX8_middleOf_29 : decode cX8_middleOf 29 = .ok (.iload_n 3, 1) := by decide +kernel
theorem dX8_middleOf_30 : decode cX8_middleOf 30 = .ok (.aload_n 2, 1) := by decide +kernel
theorem dX8_middleOf_31 : decode cX8_middleOf 31 = .ok (.arraylength, 1) := by decide +kernel
theorem dX8_middleOf_32 : decode cX8_middleOf 32 = .ok (.if_icmp .lt 6, 3) := by decide +kernel
theorem dX8_middleOf_35 : decode cX8_middleOf 35 = .ok (.goto 51, 3) := by decide +kernel
theorem dX8_middleOf_38 : decode cX8_middleOf 38 = .ok (.iload_n 3, 1) := by decide +kernel
theorem dX8_middleOf_39 : decode cX8_middleOf 39 = .ok (.istore 5, 2) := by decide +kernel
theorem dX8_middleOf_41 : decode cX8_middleOf 41 = .ok (.iload 5, 2) := by decide +kernel
theorem dX8_middleOf_43 : decode cX8_middleOf 43 = .ok (.ifCond .le 32, 3) := by decide +kernel
theorem dX8_middleOf_46 : decode cX8_middleOf 46 = .ok (.aload_n 2, 1) := by decide +kernel
theorem dX8_middleOf_47 : decode cX8_middleOf 47 = .ok (.iload 5, 2) := by decide +kernel
theorem dX8_middleOf_49 : decode cX8_middleOf 49 = .ok (.iconst 1, 1) := by decide +kernel
theorem dX8_middleOf_50 : decode cX8_middleOf 50 = .ok (.isub, 1) := by decide +kernel
theorem dX8_middleOf_51 : decode cX8_middleOf 51 = .ok (.iaload, 1) := by decide +kernel
theorem dX8_middleOf_52 : decode cX8_middleOf 52 = .ok (.aload_n 0, 1) := by decide +kernel
theorem dX8_middleOf_53 : decode cX8_middleOf 53 = .ok (.iload 4, 2) := by decide +kernel
theorem dX8_middleOf_55 : decode cX8_middleOf 55 = .ok (.iaload, 1) := by decide +kernel
theorem dX8_middleOf_56 : decode cX8_middleOf 56 = .ok (.if_icmp .le 19, 3) := by decide +kernel
theorem dX8_middleOf_59 : decode cX8_middleOf 59 = .ok (.aload_n 2, 1) := by decide +kernel
theorem dX8_middleOf_60 : decode cX8_middleOf 60 = .ok (.iload 5, 2) := by decide +kernel
theorem dX8_middleOf_62 : decode cX8_middleOf 62 = .ok (.aload_n 2, 1) := by decide +kernel
theorem dX8_middleOf_63 : decode cX8_middleOf 63 = .ok (.iload 5, 2) := by decide +kernel
theorem dX8_middleOf_65 : decode cX8_middleOf 65 = .ok (.iconst 1, 1) := by decide +kernel
theorem dX8_middleOf_66 : decode cX8_middleOf 66 = .ok (.isub, 1) := by decide +kernel
theorem dX8_middleOf_67 : decode cX8_middleOf 67 = .ok (.iaload, 1) := by decide +kernel
theorem dX8_middleOf_68 : decode cX8_middleOf 68 = .ok (.iastore, 1) := by decide +kernel
theorem dX8_middleOf_69 : decode cX8_middleOf 69 = .ok (.iinc 5 (-1), 3) := by decide +kernel
theorem dX8_middleOf_72 : decode cX8_middleOf 72 = .ok (.goto (-31), 3) := by decide +kernel
theorem dX8_middleOf_75 : decode cX8_middleOf 75 = .ok (.aload_n 2, 1) := by decide +kernel
theorem dX8_middleOf_76 : decode cX8_middleOf 76 = .ok (.iload 5, 2) := by decide +kernel
theorem dX8_middleOf_78 : decode cX8_middleOf 78 = .ok (.aload_n 0, 1) := by decide +kernel
theorem dX8_middleOf_79 : decode cX8_middleOf 79 = .ok (.iload 4, 2) := by decide +kernel
theorem dX8_middleOf_81 : decode cX8_middleOf 81 = .ok (.iaload, 1) := by decide +kernel
theorem dX8_middleOf_82 : decode cX8_middleOf 82 = .ok (.iastore, 1) := by decide +kernel
theorem dX8_middleOf_83 : decode cX8_middleOf 83 = .ok (.iinc 3 1, 3) := by decide +kernel
theorem dX8_middleOf_86 : decode cX8_middleOf 86 = .ok (.iinc 4 1, 3) := by decide +kernel
theorem dX8_middleOf_89 : decode cX8_middleOf 89 = .ok (.goto (-84), 3) := by decide +kernel
theorem dX8_middleOf_92 : decode cX8_middleOf 92 = .ok (.iload_n 3, 1) := by decide +kernel
theorem dX8_middleOf_93 : decode cX8_middleOf 93 = .ok (.ifCond .ne 7, 3) := by decide +kernel
theorem dX8_middleOf_96 : decode cX8_middleOf 96 = .ok (.iconst (-1), 1) := by decide +kernel
theorem dX8_middleOf_97 : decode cX8_middleOf 97 = .ok (.goto 8, 3) := by decide +kernel
theorem dX8_middleOf_100 : decode cX8_middleOf 100 = .ok (.aload_n 2, 1) := by decide +kernel
theorem dX8_middleOf_101 : decode cX8_middleOf 101 = .ok (.iload_n 3, 1) := by decide +kernel
theorem dX8_middleOf_102 : decode cX8_middleOf 102 = .ok (.iconst 2, 1) := by decide +kernel
theorem dX8_middleOf_103 : decode cX8_middleOf 103 = .ok (.idiv, 1) := by decide +kernel
theorem dX8_middleOf_104 : decode cX8_middleOf 104 = .ok (.iaload, 1) := by decide +kernel
theorem dX8_middleOf_105 : decode cX8_middleOf 105 = .ok (.ireturn, 1) := by decide +kernel
