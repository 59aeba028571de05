theorem dX0_init_0 : decode cX0_init 0 = .ok (.aload_n 0, 1) := by decide +kernel
theorem dX0_init_1 : decode cX0_init 1 = .ok (.invokespecial 5, 3) := by decide +kernel
theorem dX0_init_4 : decode cX0_init 4 = .ok (.aload_n 0, 1) := by decide +kernel
theorem dX0_init_5 : decode cX0_init 5 = .ok (.iconst 0, 1) := by decide +kernel
theorem dX0_init_6 : decode cX0_init 6 = .ok (.putfield 11, 3) := by decide +kernel
theorem dX0_init_9 : decode cX0_init 9 = .ok (.aload_n 0, 1) := by decide +kernel
theorem dX0_init_10 : decode cX0_init 10 = .ok (.bipush 41, 2) := by decide +kernel
theorem dX0_init_12 : decode cX0_init 12 = .ok (.newarray .int, 2) := by decide +kernel
theorem dX0_init_14 : decode cX0_init 14 = .ok (.putfield 15, 3) := by decide +kernel
theorem dX0_init_17 : decode cX0_init 17 = .ok (.aload_n 0, 1) := by decide +kernel
theorem dX0_init_18 : decode cX0_init 18 = .ok (.bipush 41, 2) := by decide +kernel
theorem dX0_init_20 : decode cX0_init 20 = .ok (.newarray .int, 2) := by decide +kernel
theorem dX0_init_22 : decode cX0_init 22 = .ok (.putfield 19, 3) := by decide +kernel
theorem dX0_init_25 : decode cX0_init 25 = .ok (.aload_n 0, 1) := by decide +kernel
theorem dX0_init_26 : decode cX0_init 26 = .ok (.sipush 621, 3) := by decide +kernel
theorem dX0_init_29 : decode cX0_init 29 = .ok (.newarray .int, 2) := by decide +kernel
theorem dX0_init_31 : decode cX0_init 31 = .ok (.putfield 22, 3) := by decide +kernel
theorem dX0_init_34 : decode cX0_init 34 = .ok (.return_, 1) := by decide +kernel
theorem dX0_weigh_0 : decode cX0_weigh 0 = .ok (.aload_n 2, 1) := by decide +kernel
theorem dX0_weigh_1 : decode cX0_weigh 1 = .ok (.iload_n 3, 1) := by decide +kernel
theorem dX0_weigh_2 : decode cX0_weigh 2 = .ok (.invokevirtual 25, 3) := by decide +kernel
theorem dX0_weigh_5 : decode cX0_weigh 5 = .ok (.istore 4, 2) := by decide +kernel
theorem dX0_weigh_7 : decode cX0_weigh 7 = .ok (.aload_n 0, 1) := by decide +kernel
theorem dX0_weigh_8 : decode cX0_weigh 8 = .ok (.iconst 0, 1) := by decide +kernel
theorem dX0_weigh_9 : decode cX0_weigh 9 = .ok (.putfield 11, 3) := by decide +kernel
theorem dX0_weigh_12 : decode cX0_weigh 12 = .ok (.iconst 0, 1) := by decide +kernel
theorem dX0_weigh_13 : decode cX0_weigh 13 = .ok (.istore 5, 2) := by decide +kernel
theorem dX0_weigh_15 : decode cX0_weigh 15 = .ok (.iload 5, 2) := by decide +kernel
theorem dX0_weigh_17 : decode cX0_weigh 17 = .ok (.bipush 41, 2) := by decide +kernel
theorem dX0_weigh_19 : decode cX0_weigh 19 = .ok (.if_icmp .ge 72, 3) := by decide +kernel
theorem dX0_weigh_22 : decode cX0_weigh 22 = .ok (.iload 4, 2) := by decide +kernel
theorem dX0_weigh_24 : decode cX0_weigh 24 = .ok (.iconst (-1), 1) := by decide +kernel
theorem dX0_weigh_25 : decode cX0_weigh 25 = .ok (.if_icmp .ne 24, 3) := by decide +kernel
theorem dX0_weigh_28 : decode cX0_weigh 28 = .ok (.aload_n 0, 1) := by decide +kernel
theorem dX0_weigh_29 : decode cX0_weigh 29 = .ok (.getfield 15, 3) := by decide +kernel
theorem dX0_weigh_32 : decode cX0_weigh 32 = .ok (.iload 5, 2) := by decide +kernel
theorem dX0_weigh_34 : decode cX0_weigh 34 = .ok (.bipush (-60), 2) := by decide +kernel
theorem dX0_weigh_36 : decode cX0_weigh 36 = .ok (.iastore, 1) := by decide +kernel
theorem dX0_weigh_37 : decode cX0_weigh 37 = .ok (.aload_n 0, 1) := by decide +kernel
theorem dX0_weigh_38 : decode cX0_weigh 38 = .ok (.getfield 19, 3) := by decide +kernel
theorem dX0_weigh_41 : decode cX0_weigh 41 = .ok (.iload 5, 2) := by decide +kernel
theorem dX0_weigh_43 : decode cX0_weigh 43 = .ok (.bipush 60, 2) := by decide +kernel
theorem dX0_weigh_45 : decode cX0_weigh 45 = .ok (.iastore, 1) := by decide +kernel
theorem dX0_weigh_46 : decode cX0_weigh 46 = .ok (.goto 13, 3) := by decide +kernel
theorem dX0_weigh_49 : decode cX0_weigh 49 = .ok (.aload_n 0, 1) := by decide +kernel
theorem dX0_weigh_50 : decode cX0_weigh 50 = .ok (.aload_n 1, 1) := by decide +kernel
theorem dX0_weigh_51 : decode cX0_weigh 51 = .ok (.aload_n 2, 1) := by decide +kernel
theorem dX0_weigh_52 : decode cX0_weigh 52 = .ok (.iload 4, 2) := by decide +kernel
theorem dX0_weigh_54 : decode cX0_weigh 54 = .ok (.iload 5, 2) := by decide +kernel
theorem dX0_weigh_56 : decode cX0_weigh 56 = .ok (.invokevirtual 31, 3) := by decide +kernel
theorem dX0_weigh_59 : decode cX0_weigh 59 = .ok (.aload_n 0, 1) := by decide +kernel
theorem dX0_weigh_60 : decode cX0_weigh 60 = .ok (.dup, 1) := by decide +kernel
theorem dX0_weigh_61 : decode cX0_weigh 61 = .ok (.getfield 11, 3) := by decide +kernel
theorem dX0_weigh_64 : decode cX0_weigh 64 = .ok (.aload_n 0, 1) := by decide +kernel
theorem dX0_weigh_65 : decode cX0_weigh 65 = .ok (.getfield 19, 3) := by decide +kernel
theorem dX0_weigh_68 : decode cX0_weigh 68 = .ok (.iload 5, 2) := by decide +kernel
theorem dX0_weigh_70 : decode cX0_weigh 70 = .ok (.iaload, 1) := by decide +kernel
theorem dX0_weigh_71 : decode cX0_weigh 71 = .ok (.aload_n 0, 1) := by decide +kernel
theorem dX0_weigh_72 : decode cX0_weigh 72 = .ok (.getfield 15, 3) := by decide +kernel
theorem dX0_weigh_75 : decode cX0_weigh 75 = .ok (.iload 5, 2) := by decide +kernel
theorem dX0_weigh_77 : decode cX0_weigh 77 = .ok (.iaload, 1) := by decide +kernel
theorem dX0_weigh_78 : decode cX0_weigh 78 = .ok (.isub, 1) := by decide +kernel
theorem dX0_weigh_79 : decode cX0_weigh 79 = .ok (.iconst 1, 1) := by decide +kernel
theorem dX0_weigh_80 : decode cX0_weigh 80 = .ok (.iadd, 1) := by decide +kernel
theorem dX0_weigh_81 : decode cX0_weigh 81 = .ok (.iadd, 1) := by decide +kernel
theorem dX0_weigh_82 : decode cX0_weigh 82 = .ok (.putfield 11, 3) := by decide +kernel
theorem dX0_weigh_85 : decode cX0_weigh 85 = .ok (.iinc 5 1, 3) := by decide +kernel
theorem dX0_weigh_88 : decode cX0_weigh 88 = .ok (.goto (-73), 3) := by decide +kernel
theorem dX0_weigh_91 : decode cX0_weigh 91 = .ok (.return_, 1) := by decide +kernel
theorem dX0_weighTilt_0 : decode cX0_weighTilt 0 = .ok (.aload_n 0, 1) := by decide +kernel
theorem dX0_weighTilt_1 : decode cX0_weighTilt 1 = .ok (.getfield 15, 3) := by decide +kernel
theorem dX0_weighTilt_4 : decode cX0_weighTilt 4 = .ok (.iload 4, 2) := by decide +kernel
theorem dX0_weighTilt_6 : decode cX0_weighTilt 6 = .ok (.iconst 1, 1) := by decide +kernel
theorem dX0_weighTilt_7 : decode cX0_weighTilt 7 = .ok (.iastore, 1) := by decide +kernel
theorem dX0_weighTilt_8 : decode cX0_weighTilt 8 = .ok (.aload_n 0, 1) := by decide +kernel
theorem dX0_weighTilt_9 : decode cX0_weighTilt 9 = .ok (.getfield 19, 3) := by decide +kernel
theorem dX0_weighTilt_12 : decode cX0_weighTilt 12 = .ok (.iload 4, 2) := by decide +kernel
theorem dX0_weighTilt_14 : decode cX0_weighTilt 14 = .ok (.iconst 0, 1) := by decide +kernel
theorem dX0_weighTilt_15 : decode cX0_weighTilt 15 = .ok (.iastore, 1) := by decide +kernel
theorem dX0_weighTilt_16 : decode cX0_weighTilt 16 = .ok (.aload_n 2, 1) := by decide +kernel
theorem dX0_weighTilt_17 : decode cX0_weighTilt 17 = .ok (.getfield 35, 3) := by decide +kernel
theorem dX0_weighTilt_20 : decode cX0_weighTilt 20 = .ok (.iload_n 3, 1) := by decide +kernel
theorem dX0_weighTilt_21 : decode cX0_weighTilt 21 = .ok (.iaload, 1) := by decide +kernel
theorem dX0_weighTilt_22 : decode cX0_weighTilt 22 = .ok (.istore 5, 2) := by decide +kernel
theorem dX0_weighTilt_24 : decode cX0_weighTilt 24 = .ok (.iload 4, 2) := by decide +kernel
theorem dX0_weighTilt_26 : decode cX0_weighTilt 26 = .ok (.bipush 20, 2) := by decide +kernel
theorem dX0_weighTilt_28 : decode cX0_weighTilt 28 = .ok (.isub, 1) := by decide +kernel
theorem dX0_weighTilt_29 : decode cX0_weighTilt 29 = .ok (.istore 6, 2) := by decide +kernel
theorem dX0_weighTilt_31 : decode cX0_weighTilt 31 = .ok (.aload_n 1, 1) := by decide +kernel
theorem dX0_weighTilt_32 : decode cX0_weighTilt 32 = .ok (.iload 5, 2) := by decide +kernel
theorem dX0_weighTilt_34 : decode cX0_weighTilt 34 = .ok (.aload_n 2, 1) := by decide +kernel
theorem dX0_weighTilt_35 : decode cX0_weighTilt 35 = .ok (.getfield 38, 3) := by decide +kernel
theorem dX0_weighTilt_38 : decode cX0_weighTilt 38 = .ok (.iload_n 3, 1) := by decide +kernel
theorem dX0_weighTilt_39 : decode cX0_weighTilt 39 = .ok (.iaload, 1) := by decide +kernel
theorem dX0_weighTilt_40 : decode cX0_weighTilt 40 = .ok (.aload_n 2, 1) := by decide +kernel
theorem dX0_weighTilt_41 : decode cX0_weighTilt 41 = .ok (.getfield 41, 3) := by decide +kernel
theorem dX0_weighTilt_44 : decode cX0_weighTilt 44 = .ok (.iload_n 3, 1) := by decide +kernel
theorem dX0_weighTilt_45 : decode cX0_weighTilt 45 = .ok (.iaload, 1) := by decide +kernel
theorem dX0_weighTilt_46 : decode cX0_weighTilt 46 = .ok (.iload 6, 2) := by decide +kernel
theorem dX0_weighTilt_48 : decode cX0_weighTilt 48 = .ok (.invokevirtual 44, 3) := by decide +kernel
theorem dX0_weighTilt_51 : decode cX0_weighTilt 51 = .ok (.istore 7, 2) := by decide +kernel
theorem dX0_weighTilt_53 : decode cX0_weighTilt 53 = .ok (.iload 7, 2) := by decide +kernel
theorem dX0_weighTilt_55 : decode cX0_weighTilt 55 = .ok (.iconst (-1), 1) := by decide +kernel
theorem dX0_weighTilt_56 : decode cX0_weighTilt 56 = .ok (.if_icmp .ne 4, 3) := by decide +kernel
theorem dX0_weighTilt_59 : decode cX0_weighTilt 59 = .ok (.return_, 1) := by decide +kernel
theorem dX0_weighTilt_60 : decode cX0_weighTilt 60 = .ok (.aload_n 2, 1) := by decide +kernel
theorem dX0_weighTilt_61 : decode cX0_weighTilt 61 = .ok (.getfield 50, 3) := by decide +kernel
theorem dX0_weighTilt_64 : decode cX0_weighTilt 64 = .ok (.iload_n 3, 1) := by decide +kernel
theorem dX0_weighTilt_65 : decode cX0_weighTilt 65 = .ok (.iaload, 1) := by decide +kernel
theorem dX0_weighTilt_66 : decode cX0_weighTilt 66 = .ok (.iload 7, 2) := by decide +kernel
theorem dX0_weighTilt_68 : decode cX0_weighTilt 68 = .ok (.isub, 1) := by decide +kernel
theorem dX0_weighTilt_69 : decode cX0_weighTilt 69 = .ok (.invokestatic 53, 3) := by decide +kernel
theorem dX0_weighTilt_72 : decode cX0_weighTilt 72 = .ok (.istore 8, 2) := by decide +kernel
theorem dX0_weighTilt_74 : decode cX0_weighTilt 74 = .ok (.iload 8, 2) := by decide +kernel
theorem dX0_weighTilt_76 : decode cX0_weighTilt 76 = .ok (.invokestatic 56, 3) := by decide +kernel
theorem dX0_weighTilt_79 : decode cX0_weighTilt 79 = .ok (.bipush 60, 2) := by decide +kernel
theorem dX0_weighTilt_81 : decode cX0_weighTilt 81 = .ok (.if_icmp .gt 35, 3) := by decide +kernel
theorem dX0_weighTilt_84 : decode cX0_weighTilt 84 = .ok (.aload_n 1, 1) := by decide +kernel
theorem dX0_weighTilt_85 : decode cX0_weighTilt 85 = .ok (.aload_n 2, 1) := by decide +kernel
theorem dX0_weighTilt_86 : decode cX0_weighTilt 86 = .ok (.iload 5, 2) := by decide +kernel
theorem dX0_weighTilt_88 : decode cX0_weighTilt 88 = .ok (.iload 8, 2) := by decide +kernel
theorem dX0_weighTilt_90 : decode cX0_weighTilt 90 = .ok (.iload 6, 2) := by decide +kernel
theorem dX0_weighTilt_92 : decode cX0_weighTilt 92 = .ok (.invokestatic 61, 3) := by decide +kernel
theorem dX0_weighTilt_95 : decode cX0_weighTilt 95 = .ok (.ifCond .eq 21, 3) := by decide +kernel
theorem dX0_weighTilt_98 : decode cX0_weighTilt 98 = .ok (.aload_n 0, 1) := by decide +kernel
theorem dX0_weighTilt_99 : decode cX0_weighTilt 99 = .ok (.getfield 15, 3) := by decide +kernel
theorem dX0_weighTilt_102 : decode cX0_weighTilt 102 = .ok (.iload 4, 2) := by decide +kernel
theorem dX0_weighTilt_104 : decode cX0_weighTilt 104 = .ok (.iload 8, 2) := by decide +kernel
theorem dX0_weighTilt_106 : decode cX0_weighTilt 106 = .ok (.iastore, 1) := by decide +kernel
theorem dX0_weighTilt_107 : decode cX0_weighTilt 107 = .ok (.aload_n 0, 1) := by decide +kernel
theorem dX0_weighTilt_108 : decode cX0_weighTilt 108 = .ok (.getfield 19, 3) := by decide +kernel
theorem dX0_weighTilt_111 : decode cX0_weighTilt 111 = .ok (.iload 4, 2) := by decide +kernel
theorem dX0_weighTilt_113 : decode cX0_weighTilt 113 = .ok (.iload 8, 2) := by decide +kernel
theorem dX0_weighTilt_115 : decode cX0_weighTilt 115 = .ok (.iastore, 1) := by decide +kernel
theorem dX0_weighTilt_116 : decode cX0_weighTilt 116 = .ok (.return_, 1) := by decide +kernel
theorem dX0_tellsAllReadings_0 : decode cX0_tellsAllReadings 0 = .ok (.iconst 0, 1) := by decide +kernel
theorem dX0_tellsAllReadings_1 : decode cX0_tellsAllReadings 1 = .ok (.istore 5, 2) := by decide +kernel
theorem dX0_tellsAllReadings_3 : decode cX0_tellsAllReadings 3 = .ok (.iload 5, 2) := by decide +kernel
theorem dX0_tellsAllReadings_5 : decode cX0_tellsAllReadings 5 = .ok (.aload_n 1, 1) := by decide +kernel
theorem dX0_tellsAllReadings_6 : decode cX0_tellsAllReadings 6 = .ok (.getfield 65, 3) := by decide +kernel
theorem dX0_tellsAllReadings_9 : decode cX0_tellsAllReadings 9 = .ok (.if_icmp .ge 54, 3) := by decide +kernel
theorem dX0_tellsAllReadings_12 : decode cX0_tellsAllReadings 12 = .ok (.aload_n 1, 1) := by decide +kernel
theorem dX0_tellsAllReadings_13 : decode cX0_tellsAllReadings 13 = .ok (.getfield 35, 3) := by decide +kernel
theorem dX0_tellsAllReadings_16 : decode cX0_tellsAllReadings 16 = .ok (.iload 5, 2) := by decide +kernel
theorem dX0_tellsAllReadings_18 : decode cX0_tellsAllReadings 18 = .ok (.iaload, 1) := by decide +kernel
theorem dX0_tellsAllReadings_19 : decode cX0_tellsAllReadings 19 = .ok (.iload_n 2, 1) := by decide +kernel
theorem dX0_tellsAllReadings_20 : decode cX0_tellsAllReadings 20 = .ok (.if_icmp .ne 37, 3) := by decide +kernel
theorem dX0_tellsAllReadings_23 : decode cX0_tellsAllReadings 23 = .ok (.aload_n 0, 1) := by decide +kernel
theorem dX0_tellsAllReadings_24 : decode cX0_tellsAllReadings 24 = .ok (.iload_n 2, 1) := by decide +kernel
theorem dX0_tellsAllReadings_25 : decode cX0_tellsAllReadings 25 = .ok (.aload_n 1, 1) := by decide +kernel
theorem dX0_tellsAllReadings_26 : decode cX0_tellsAllReadings 26 = .ok (.getfield 38, 3) := by decide +kernel
theorem dX0_tellsAllReadings_29 : decode cX0_tellsAllReadings 29 = .ok (.iload 5, 2) := by decide +kernel
theorem dX0_tellsAllReadings_31 : decode cX0_tellsAllReadings 31 = .ok (.iaload, 1) := by decide +kernel
theorem dX0_tellsAllReadings_32 : decode cX0_tellsAllReadings 32 = .ok (.aload_n 1, 1) := by decide +kernel
theorem dX0_tellsAllReadings_33 : decode cX0_tellsAllReadings 33 = .ok (.getfield 41, 3) := by decide +kernel
theorem dX0_tellsAllReadings_36 : decode cX0_tellsAllReadings 36 = .ok (.iload 5, 2) := by decide +kernel
theorem dX0_tellsAllReadings_38 : decode cX0_tellsAllReadings 38 = .ok (.iaload, 1) := by decide +kernel
theorem dX0_tellsAllReadings_39 : decode cX0_tellsAllReadings 39 = .ok (.iload_n 3, 1) := by decide +kernel
theorem dX0_tellsAllReadings_40 : decode cX0_tellsAllReadings 40 = .ok (.iload 4, 2) := by decide +kernel
theorem dX0_tellsAllReadings_42 : decode cX0_tellsAllReadings 42 = .ok (.invokevirtual 68, 3) := by decide +kernel
theorem dX0_tellsAllReadings_45 : decode cX0_tellsAllReadings 45 = .ok (.aload_n 1, 1) := by decide +kernel
theorem dX0_tellsAllReadings_46 : decode cX0_tellsAllReadings 46 = .ok (.getfield 50, 3) := by decide +kernel
theorem dX0_tellsAllReadings_49 : decode cX0_tellsAllReadings 49 = .ok (.iload 5, 2) := by decide +kernel
theorem dX0_tellsAllReadings_51 : decode cX0_tellsAllReadings 51 = .ok (.iaload, 1) := by decide +kernel
theorem dX0_tellsAllReadings_52 : decode cX0_tellsAllReadings 52 = .ok (.if_icmp .eq 5, 3) := by decide +kernel
theorem dX0_tellsAllReadings_55 : decode cX0_tellsAllReadings 55 = .ok (.iconst 0, 1) := by decide +kernel
theorem dX0_tellsAllReadings_56 : decode cX0_tellsAllReadings 56 = .ok (.ireturn, 1) := by decide +kernel
theorem dX0_tellsAllReadings_57 : decode cX0_tellsAllReadings 57 = .ok (.iinc 5 1, 3) := by decide +kernel
theorem dX0_tellsAllReadings_60 : decode cX0_tellsAllReadings 60 = .ok (.goto (-57), 3) := by decide +kernel
theorem dX0_tellsAllReadings_63 : decode cX0_tellsAllReadings 63 = .ok (.iconst 1, 1) := by decide +kernel
theorem dX0_tellsAllReadings_64 : decode cX0_tellsAllReadings 64 = .ok (.ireturn, 1) := by decide +kernel
theorem dX0_isEmpty_0 : decode cX0_isEmpty 0 = .ok (.aload_n 0, 1) := by decide +kernel
theorem dX0_isEmpty_1 : decode cX0_isEmpty 1 = .ok (.getfield 15, 3) := by decide +kernel
theorem dX0_isEmpty_4 : decode cX0_isEmpty 4 = .ok (.iload_n 1, 1) := by decide +kernel
theorem dX0_isEmpty_5 : decode cX0_isEmpty 5 = .ok (.iaload, 1) := by decide +kernel
theorem dX0_isEmpty_6 : decode cX0_isEmpty 6 = .ok (.aload_n 0, 1) := by decide +kernel
theorem dX0_isEmpty_7 : decode cX0_isEmpty 7 = .ok (.getfield 19, 3) := by decide +kernel
theorem dX0_isEmpty_10 : decode cX0_isEmpty 10 = .ok (.iload_n 1, 1) := by decide +kernel
theorem dX0_isEmpty_11 : decode cX0_isEmpty 11 = .ok (.iaload, 1) := by decide +kernel
theorem dX0_isEmpty_12 : decode cX0_isEmpty 12 = .ok (.if_icmp .le 7, 3) := by decide +kernel
theorem dX0_isEmpty_15 : decode cX0_isEmpty 15 = .ok (.iconst 1, 1) := by decide +kernel
theorem dX0_isEmpty_16 : decode cX0_isEmpty 16 = .ok (.goto 4, 3) := by decide +kernel
theorem dX0_isEmpty_19 : decode cX0_isEmpty 19 = .ok (.iconst 0, 1) := by decide +kernel
theorem dX0_isEmpty_20 : decode cX0_isEmpty 20 = .ok (.ireturn, 1) := by decide +kernel
theorem dX0_leastTurn_0 : decode cX0_leastTurn 0 = .ok (.bipush 60, 2) := by decide +kernel
theorem dX0_leastTurn_2 : decode cX0_leastTurn 2 = .ok (.istore_n 1, 1) := by decide +kernel
theorem dX0_leastTurn_3 : decode cX0_leastTurn 3 = .ok (.iconst 0, 1) := by decide +kernel
theorem dX0_leastTurn_4 : decode cX0_leastTurn 4 = .ok (.istore_n 2, 1) := by decide +kernel
theorem dX0_leastTurn_5 : decode cX0_leastTurn 5 = .ok (.iload_n 2, 1) := by decide +kernel
theorem dX0_leastTurn_6 : decode cX0_leastTurn 6 = .ok (.bipush 41, 2) := by decide +kernel
theorem dX0_leastTurn_8 : decode cX0_leastTurn 8 = .ok (.if_icmp .ge 28, 3) := by decide +kernel
theorem dX0_leastTurn_11 : decode cX0_leastTurn 11 = .ok (.aload_n 0, 1) := by decide +kernel
theorem dX0_leastTurn_12 : decode cX0_leastTurn 12 = .ok (.iload_n 2, 1) := by decide +kernel
theorem dX0_leastTurn_13 : decode cX0_leastTurn 13 = .ok (.invokevirtual 72, 3) := by decide +kernel
theorem dX0_leastTurn_16 : decode cX0_leastTurn 16 = .ok (.ifCond .ne 14, 3) := by decide +kernel
theorem dX0_leastTurn_19 : decode cX0_leastTurn 19 = .ok (.iload_n 1, 1) := by decide +kernel
theorem dX0_leastTurn_20 : decode cX0_leastTurn 20 = .ok (.aload_n 0, 1) := by decide +kernel
theorem dX0_leastTurn_21 : decode cX0_leastTurn 21 = .ok (.getfield 15, 3) := by decide +kernel
theorem dX0_leastTurn_24 : decode cX0_leastTurn 24 = .ok (.iload_n 2, 1) := by decide +kernel
theorem dX0_leastTurn_25 : decode cX0_leastTurn 25 = .ok (.iaload, 1) := by decide +kernel
theorem dX0_leastTurn_26 : decode cX0_leastTurn 26 = .ok (.invokestatic 76, 3) := by decide +kernel
theorem dX0_leastTurn_29 : decode cX0_leastTurn 29 = .ok (.istore_n 1, 1) := by decide +kernel
theorem dX0_leastTurn_30 : decode cX0_leastTurn 30 = .ok (.iinc 2 1, 3) := by decide +kernel
theorem dX0_leastTurn_33 : decode cX0_leastTurn 33 = .ok (.goto (-28), 3) := by decide +kernel
theorem dX0_leastTurn_36 : decode cX0_leastTurn 36 = .ok (.iload_n 1, 1) := by decide +kernel
theorem dX0_leastTurn_37 : decode cX0_leastTurn 37 = .ok (.ireturn, 1) := by decide +kernel
theorem dX0_greatestTurn_0 : decode cX0_greatestTurn 0 = .ok (.bipush (-60), 2) := by decide +kernel
theorem dX0_greatestTurn_2 : decode cX0_greatestTurn 2 = .ok (.istore_n 1, 1) := by decide +kernel
theorem dX0_greatestTurn_3 : decode cX0_greatestTurn 3 = .ok (.iconst 0, 1) := by decide +kernel
theorem dX0_greatestTurn_4 : decode cX0_greatestTurn 4 = .ok (.istore_n 2, 1) := by decide +kernel
theorem dX0_greatestTurn_5 : decode cX0_greatestTurn 5 = .ok (.iload_n 2, 1) := by decide +kernel
theorem dX0_greatestTurn_6 : decode cX0_greatestTurn 6 = .ok (.bipush 41, 2) := by decide +kernel
theorem dX0_greatestTurn_8 : decode cX0_greatestTurn 8 = .ok (.if_icmp .ge 28, 3) := by decide +kernel
theorem dX0_greatestTurn_11 : decode cX0_greatestTurn 11 = .ok (.aload_n 0, 1) := by decide +kernel
theorem dX0_greatestTurn_12 : decode cX0_greatestTurn 12 = .ok (.iload_n 2, 1) := by decide +kernel
theorem dX0_greatestTurn_13 : decode cX0_greatestTurn 13 = .ok (.invokevirtual 72, 3) := by decide +kernel
theorem dX0_greatestTurn_16 : decode cX0_greatestTurn 16 = .ok (.ifCond .ne 14, 3) := by decide +kernel
theorem dX0_greatestTurn_19 : decode cX0_greatestTurn 19 = .ok (.iload_n 1, 1) := by decide +kernel
theorem dX0_greatestTurn_20 : decode cX0_greatestTurn 20 = .ok (.aload_n 0, 1) := by decide +kernel
theorem dX0_greatestTurn_21 : decode cX0_greatestTurn 21 = .ok (.getfield 19, 3) := by decide +kernel
theorem dX0_greatestTurn_24 : decode cX0_greatestTurn 24 = .ok (.iload_n 2, 1) := by decide +kernel
theorem dX0_greatestTurn_25 : decode cX0_greatestTurn 25 = .ok (.iaload, 1) := by decide +kernel
theorem dX0_greatestTurn_26 : decode cX0_greatestTurn 26 = .ok (.invokestatic 80, 3) := by decide +kernel
theorem dX0_greatestTurn_29 : decode cX0_greatestTurn 29 = .ok (.istore_n 1, 1) := by decide +kernel
theorem dX0_greatestTurn_30 : decode cX0_greatestTurn 30 = .ok (.iinc 2 1, 3) := by decide +kernel
theorem dX0_greatestTurn_33 : decode cX0_greatestTurn 33 = .ok (.goto (-28), 3) := by decide +kernel
theorem dX0_greatestTurn_36 : decode cX0_greatestTurn 36 = .ok (.iload_n 1, 1) := by decide +kernel
theorem dX0_greatestTurn_37 : decode cX0_greatestTurn 37 = .ok (.ireturn, 1) := by decide +kernel
theorem dX0_leastTilt_0 : decode cX0_leastTilt 0 = .ok (.iconst 0, 1) := by decide +kernel
theorem dX0_leastTilt_1 : decode cX0_leastTilt 1 = .ok (.istore_n 1, 1) := by decide +kernel
theorem dX0_leastTilt_2 : decode cX0_leastTilt 2 = .ok (.iload_n 1, 1) := by decide +kernel
theorem dX0_leastTilt_3 : decode cX0_leastTilt 3 = .ok (.bipush 41, 2) := by decide +kernel
theorem dX0_leastTilt_5 : decode cX0_leastTilt 5 = .ok (.if_icmp .ge 22, 3) := by decide +kernel
theorem dX0_leastTilt_8 : decode cX0_leastTilt 8 = .ok (.aload_n 0, 1) := by decide +kernel
theorem dX0_leastTilt_9 : decode cX0_leastTilt 9 = .ok (.iload_n 1, 1) := by decide +kernel
theorem dX0_leastTilt_10 : decode cX0_leastTilt 10 = .ok (.invokevirtual 72, 3) := by decide +kernel
theorem dX0_leastTilt_13 : decode cX0_leastTilt 13 = .ok (.ifCond .ne 8, 3) := by decide +kernel
theorem dX0_leastTilt_16 : decode cX0_leastTilt 16 = .ok (.iload_n 1, 1) := by decide +kernel
theorem dX0_leastTilt_17 : decode cX0_leastTilt 17 = .ok (.bipush 20, 2) := by decide +kernel
theorem dX0_leastTilt_19 : decode cX0_leastTilt 19 = .ok (.isub, 1) := by decide +kernel
theorem dX0_leastTilt_20 : decode cX0_leastTilt 20 = .ok (.ireturn, 1) := by decide +kernel
theorem dX0_leastTilt_21 : decode cX0_leastTilt 21 = .ok (.iinc 1 1, 3) := by decide +kernel
theorem dX0_leastTilt_24 : decode cX0_leastTilt 24 = .ok (.goto (-22), 3) := by decide +kernel
theorem dX0_leastTilt_27 : decode cX0_leastTilt 27 = .ok (.iconst (-1), 1) := by decide +kernel
theorem dX0_leastTilt_28 : decode cX0_leastTilt 28 = .ok (.ireturn, 1) := by decide +kernel
theorem dX0_greatestTilt_0 : decode cX0_greatestTilt 0 = .ok (.bipush 40, 2) := by decide +kernel
theorem dX0_greatestTilt_2 : decode cX0_greatestTilt 2 = .ok (.istore_n 1, 1) := by decide +kernel
theorem dX0_greatestTilt_3 : decode cX0_greatestTilt 3 = .ok (.iload_n 1, 1) := by decide +kernel
theorem dX0_greatestTilt_4 : decode cX0_greatestTilt 4 = .ok (.ifCond .lt 22, 3) := by decide +kernel
theorem dX0_greatestTilt_7 : decode cX0_greatestTilt 7 = .ok (.aload_n 0, 1) := by decide +kernel
theorem dX0_greatestTilt_8 : decode cX0_greatestTilt 8 = .ok (.iload_n 1, 1) := by decide +kernel
theorem dX0_greatestTilt_9 : decode cX0_greatestTilt 9 = .ok (.invokevirtual 72, 3) := by decide +kernel
theorem dX0_greatestTilt_12 : decode cX0_greatestTilt 12 = .ok (.ifCond .ne 8, 3) := by decide +kernel
theorem dX0_greatestTilt_15 : decode cX0_greatestTilt 15 = .ok (.iload_n 1, 1) := by decide +kernel
theorem dX0_greatestTilt_16 : decode cX0_greatestTilt 16 = .ok (.bipush 20, 2) := by decide +kernel
theorem dX0_greatestTilt_18 : decode cX0_greatestTilt 18 = .ok (.isub, 1) := by decide +kernel
theorem dX0_greatestTilt_19 : decode cX0_greatestTilt 19 = .ok (.ireturn, 1) := by decide +kernel
theorem dX0_greatestTilt_20 : decode cX0_greatestTilt 20 = .ok (.iinc 1 (-1), 3) := by decide +kernel
theorem dX0_greatestTilt_23 : decode cX0_greatestTilt 23 = .ok (.goto (-20), 3) := by decide +kernel
theorem dX0_greatestTilt_26 : decode cX0_greatestTilt 26 = .ok (.iconst (-1), 1) := by decide +kernel
theorem dX0_greatestTilt_27 : decode cX0_greatestTilt 27 = .ok (.ireturn, 1) := by decide +kernel
theorem dX0_greatestGroup_0 : decode cX0_greatestGroup 0 = .ok (.aload_n 1, 1) := by decide +kernel
theorem dX0_greatestGroup_1 : decode cX0_greatestGroup 1 = .ok (.iload_n 2, 1) := by decide +kernel
theorem dX0_greatestGroup_2 : decode cX0_greatestGroup 2 = .ok (.iload_n 3, 1) := by decide +kernel
theorem dX0_greatestGroup_3 : decode cX0_greatestGroup 3 = .ok (.iload 4, 2) := by decide +kernel
theorem dX0_greatestGroup_5 : decode cX0_greatestGroup 5 = .ok (.iconst 0, 1) := by decide +kernel
theorem dX0_greatestGroup_6 : decode cX0_greatestGroup 6 = .ok (.invokevirtual 44, 3) := by decide +kernel
theorem dX0_greatestGroup_9 : decode cX0_greatestGroup 9 = .ok (.istore 5, 2) := by decide +kernel
theorem dX0_greatestGroup_11 : decode cX0_greatestGroup 11 = .ok (.iload 5, 2) := by decide +kernel
theorem dX0_greatestGroup_13 : decode cX0_greatestGroup 13 = .ok (.iconst (-1), 1) := by decide +kernel
theorem dX0_greatestGroup_14 : decode cX0_greatestGroup 14 = .ok (.if_icmp .ne 8, 3) := by decide +kernel
theorem dX0_greatestGroup_17 : decode cX0_greatestGroup 17 = .ok (.aload_n 0, 1) := by decide +kernel
theorem dX0_greatestGroup_18 : decode cX0_greatestGroup 18 = .ok (.getfield 11, 3) := by decide +kernel
theorem dX0_greatestGroup_21 : decode cX0_greatestGroup 21 = .ok (.ireturn, 1) := by decide +kernel
theorem dX0_greatestGroup_22 : decode cX0_greatestGroup 22 = .ok (.aload_n 1, 1) := by decide +kernel
theorem dX0_greatestGroup_23 : decode cX0_greatestGroup 23 = .ok (.getfield 83, 3) := by decide +kernel
theorem dX0_greatestGroup_26 : decode cX0_greatestGroup 26 = .ok (.iload_n 2, 1) := by decide +kernel
theorem dX0_greatestGroup_27 : decode cX0_greatestGroup 27 = .ok (.iaload, 1) := by decide +kernel
theorem dX0_greatestGroup_28 : decode cX0_greatestGroup 28 = .ok (.iconst 4, 1) := by decide +kernel
theorem dX0_greatestGroup_29 : decode cX0_greatestGroup 29 = .ok (.if_icmp .ne 31, 3) := by decide +kernel
theorem dX0_greatestGroup_32 : decode cX0_greatestGroup 32 = .ok (.aload_n 0, 1) := by decide +kernel
theorem dX0_greatestGroup_33 : decode cX0_greatestGroup 33 = .ok (.sipush 720, 3) := by decide +kernel
theorem dX0_greatestGroup_36 : decode cX0_greatestGroup 36 = .ok (.iload 5, 2) := by decide +kernel
theorem dX0_greatestGroup_38 : decode cX0_greatestGroup 38 = .ok (.isub, 1) := by decide +kernel
theorem dX0_greatestGroup_39 : decode cX0_greatestGroup 39 = .ok (.invokestatic 53, 3) := by decide +kernel
theorem dX0_greatestGroup_42 : decode cX0_greatestGroup 42 = .ok (.invokevirtual 86, 3) := by decide +kernel
theorem dX0_greatestGroup_45 : decode cX0_greatestGroup 45 = .ok (.istore 6, 2) := by decide +kernel
theorem dX0_greatestGroup_47 : decode cX0_greatestGroup 47 = .ok (.iload 6, 2) := by decide +kernel
theorem dX0_greatestGroup_49 : decode cX0_greatestGroup 49 = .ok (.aload_n 0, 1) := by decide +kernel
theorem dX0_greatestGroup_50 : decode cX0_greatestGroup 50 = .ok (.getfield 11, 3) := by decide +kernel
theorem dX0_greatestGroup_53 : decode cX0_greatestGroup 53 = .ok (.iload 6, 2) := by decide +kernel
theorem dX0_greatestGroup_55 : decode cX0_greatestGroup 55 = .ok (.isub, 1) := by decide +kernel
theorem dX0_greatestGroup_56 : decode cX0_greatestGroup 56 = .ok (.invokestatic 80, 3) := by decide +kernel
theorem dX0_greatestGroup_59 : decode cX0_greatestGroup 59 = .ok (.ireturn, 1) := by decide +kernel
theorem dX0_greatestGroup_60 : decode cX0_greatestGroup 60 = .ok (.aload_n 0, 1) := by decide +kernel
theorem dX0_greatestGroup_61 : decode cX0_greatestGroup 61 = .ok (.getfield 22, 3) := by decide +kernel
theorem dX0_greatestGroup_64 : decode cX0_greatestGroup 64 = .ok (.iconst 0, 1) := by decide +kernel
theorem dX0_greatestGroup_65 : decode cX0_greatestGroup 65 = .ok (.invokestatic 89, 3) := by decide +kernel
theorem dX0_greatestGroup_68 : decode cX0_greatestGroup 68 = .ok (.iconst 0, 1) := by decide +kernel
theorem dX0_greatestGroup_69 : decode cX0_greatestGroup 69 = .ok (.istore 6, 2) := by decide +kernel
theorem dX0_greatestGroup_71 : decode cX0_greatestGroup 71 = .ok (.iload 6, 2) := by decide +kernel
theorem dX0_greatestGroup_73 : decode cX0_greatestGroup 73 = .ok (.bipush 41, 2) := by decide +kernel
theorem dX0_greatestGroup_75 : decode cX0_greatestGroup 75 = .ok (.if_icmp .ge 77, 3) := by decide +kernel
theorem dX0_greatestGroup_78 : decode cX0_greatestGroup 78 = .ok (.aload_n 0, 1) := by decide +kernel
theorem dX0_greatestGroup_79 : decode cX0_greatestGroup 79 = .ok (.iload 6, 2) := by decide +kernel
theorem dX0_greatestGroup_81 : decode cX0_greatestGroup 81 = .ok (.invokevirtual 72, 3) := by decide +kernel
theorem dX0_greatestGroup_84 : decode cX0_greatestGroup 84 = .ok (.ifCond .ne 62, 3) := by decide +kernel
theorem dX0_greatestGroup_87 : decode cX0_greatestGroup 87 = .ok (.aload_n 1, 1) := by decide +kernel
theorem dX0_greatestGroup_88 : decode cX0_greatestGroup 88 = .ok (.iload_n 2, 1) := by decide +kernel
theorem dX0_greatestGroup_89 : decode cX0_greatestGroup 89 = .ok (.iload_n 3, 1) := by decide +kernel
theorem dX0_greatestGroup_90 : decode cX0_greatestGroup 90 = .ok (.iload 4, 2) := by decide +kernel
theorem dX0_greatestGroup_92 : decode cX0_greatestGroup 92 = .ok (.iload 6, 2) := by decide +kernel
theorem dX0_greatestGroup_94 : decode cX0_greatestGroup 94 = .ok (.bipush 20, 2) := by decide +kernel
theorem dX0_greatestGroup_96 : decode cX0_greatestGroup 96 = .ok (.isub, 1) := by decide +kernel
theorem dX0_greatestGroup_97 : decode cX0_greatestGroup 97 = .ok (.invokevirtual 44, 3) := by decide +kernel
theorem dX0_greatestGroup_100 : decode cX0_greatestGroup 100 = .ok (.istore 7, 2) := by decide +kernel
theorem dX0_greatestGroup_102 : decode cX0_greatestGroup 102 = .ok (.aload_n 0, 1) := by decide +kernel
theorem dX0_greatestGroup_103 : decode cX0_greatestGroup 103 = .ok (.iload 7, 2) := by decide +kernel
theorem dX0_greatestGroup_105 : decode cX0_greatestGroup 105 = .ok (.iload 5, 2) := by decide +kernel
theorem dX0_greatestGroup_107 : decode cX0_greatestGroup 107 = .ok (.isub, 1) := by decide +kernel
theorem dX0_greatestGroup_108 : decode cX0_greatestGroup 108 = .ok (.invokestatic 53, 3) := by decide +kernel
theorem dX0_greatestGroup_111 : decode cX0_greatestGroup 111 = .ok (.aload_n 0, 1) := by decide +kernel
theorem dX0_greatestGroup_112 : decode cX0_greatestGroup 112 = .ok (.getfield 15, 3) := by decide +kernel
theorem dX0_greatestGroup_115 : decode cX0_greatestGroup 115 = .ok (.iload 6, 2) := by decide +kernel
theorem dX0_greatestGroup_117 : decode cX0_greatestGroup 117 = .ok (.iaload, 1) := by decide +kernel
theorem dX0_greatestGroup_118 : decode cX0_greatestGroup 118 = .ok (.iadd, 1) := by decide +kernel
theorem dX0_greatestGroup_119 : decode cX0_greatestGroup 119 = .ok (.iconst 1, 1) := by decide +kernel
theorem dX0_greatestGroup_120 : decode cX0_greatestGroup 120 = .ok (.invokevirtual 95, 3) := by decide +kernel
theorem dX0_greatestGroup_123 : decode cX0_greatestGroup 123 = .ok (.aload_n 0, 1) := by decide +kernel
theorem dX0_greatestGroup_124 : decode cX0_greatestGroup 124 = .ok (.iload 7, 2) := by decide +kernel
theorem dX0_greatestGroup_126 : decode cX0_greatestGroup 126 = .ok (.iload 5, 2) := by decide +kernel
theorem dX0_greatestGroup_128 : decode cX0_greatestGroup 128 = .ok (.isub, 1) := by decide +kernel
theorem dX0_greatestGroup_129 : decode cX0_greatestGroup 129 = .ok (.invokestatic 53, 3) := by decide +kernel
theorem dX0_greatestGroup_132 : decode cX0_greatestGroup 132 = .ok (.aload_n 0, 1) := by decide +kernel
theorem dX0_greatestGroup_133 : decode cX0_greatestGroup 133 = .ok (.getfield 19, 3) := by decide +kernel
theorem dX0_greatestGroup_136 : decode cX0_greatestGroup 136 = .ok (.iload 6, 2) := by decide +kernel
theorem dX0_greatestGroup_138 : decode cX0_greatestGroup 138 = .ok (.iaload, 1) := by decide +kernel
theorem dX0_greatestGroup_139 : decode cX0_greatestGroup 139 = .ok (.iadd, 1) := by decide +kernel
theorem dX0_greatestGroup_140 : decode cX0_greatestGroup 140 = .ok (.iconst 1, 1) := by decide +kernel
theorem dX0_greatestGroup_141 : decode cX0_greatestGroup 141 = .ok (.iadd, 1) := by decide +kernel
theorem dX0_greatestGroup_142 : decode cX0_greatestGroup 142 = .ok (.iconst (-1), 1) := by decide +kernel
theorem dX0_greatestGroup_143 : decode cX0_greatestGroup 143 = .ok (.invokevirtual 95, 3) := by decide +kernel
theorem dX0_greatestGroup_146 : decode cX0_greatestGroup 146 = .ok (.iinc 6 1, 3) := by decide +kernel
theorem dX0_greatestGroup_149 : decode cX0_greatestGroup 149 = .ok (.goto (-78), 3) := by decide +kernel
theorem dX0_greatestGroup_152 : decode cX0_greatestGroup 152 = .ok (.aload_n 0, 1) := by decide +kernel
theorem dX0_greatestGroup_153 : decode cX0_greatestGroup 153 = .ok (.invokevirtual 99, 3) := by decide +kernel
theorem dX0_greatestGroup_156 : decode cX0_greatestGroup 156 = .ok (.ireturn, 1) := by decide +kernel
theorem dX0_couplesOfTurn_0 : decode cX0_couplesOfTurn 0 = .ok (.iconst 0, 1) := by decide +kernel
theorem dX0_couplesOfTurn_1 : decode cX0_couplesOfTurn 1 = .ok (.istore_n 2, 1) := by decide +kernel
theorem dX0_couplesOfTurn_2 : decode cX0_couplesOfTurn 2 = .ok (.iconst 0, 1) := by decide +kernel
theorem dX0_couplesOfTurn_3 : decode cX0_couplesOfTurn 3 = .ok (.istore_n 3, 1) := by decide +kernel
theorem dX0_couplesOfTurn_4 : decode cX0_couplesOfTurn 4 = .ok (.iload_n 3, 1) := by decide +kernel
theorem dX0_couplesOfTurn_5 : decode cX0_couplesOfTurn 5 = .ok (.bipush 41, 2) := by decide +kernel
theorem dX0_couplesOfTurn_7 : decode cX0_couplesOfTurn 7 = .ok (.if_icmp .ge 32, 3) := by decide +kernel
theorem dX0_couplesOfTurn_10 : decode cX0_couplesOfTurn 10 = .ok (.aload_n 0, 1) := by decide +kernel
theorem dX0_couplesOfTurn_11 : decode cX0_couplesOfTurn 11 = .ok (.getfield 15, 3) := by decide +kernel
theorem dX0_couplesOfTurn_14 : decode cX0_couplesOfTurn 14 = .ok (.iload_n 3, 1) := by decide +kernel
theorem dX0_couplesOfTurn_15 : decode cX0_couplesOfTurn 15 = .ok (.iaload, 1) := by decide +kernel
theorem dX0_couplesOfTurn_16 : decode cX0_couplesOfTurn 16 = .ok (.iload_n 1, 1) := by decide +kernel
theorem dX0_couplesOfTurn_17 : decode cX0_couplesOfTurn 17 = .ok (.if_icmp .gt 16, 3) := by decide +kernel
theorem dX0_couplesOfTurn_20 : decode cX0_couplesOfTurn 20 = .ok (.iload_n 1, 1) := by decide +kernel
theorem dX0_couplesOfTurn_21 : decode cX0_couplesOfTurn 21 = .ok (.aload_n 0, 1) := by decide +kernel
theorem dX0_couplesOfTurn_22 : decode cX0_couplesOfTurn 22 = .ok (.getfield 19, 3) := by decide +kernel
theorem dX0_couplesOfTurn_25 : decode cX0_couplesOfTurn 25 = .ok (.iload_n 3, 1) := by decide +kernel
theorem dX0_couplesOfTurn_26 : decode cX0_couplesOfTurn 26 = .ok (.iaload, 1) := by decide +kernel
theorem dX0_couplesOfTurn_27 : decode cX0_couplesOfTurn 27 = .ok (.if_icmp .gt 6, 3) := by decide +kernel
theorem dX0_couplesOfTurn_30 : decode cX0_couplesOfTurn 30 = .ok (.iinc 2 1, 3) := by decide +kernel
theorem dX0_couplesOfTurn_33 : decode cX0_couplesOfTurn 33 = .ok (.iinc 3 1, 3) := by decide +kernel
theorem dX0_couplesOfTurn_36 : decode cX0_couplesOfTurn 36 = .ok (.goto (-32), 3) := by decide +kernel
theorem dX0_couplesOfTurn_39 : decode cX0_couplesOfTurn 39 = .ok (.iload_n 2, 1) := by decide +kernel
theorem dX0_couplesOfTurn_40 : decode cX0_couplesOfTurn 40 = .ok (.ireturn, 1) := by decide +kernel
theorem dX0_addStep_0 : decode cX0_addStep 0 = .ok (.iload_n 1, 1) := by decide +kernel
theorem dX0_addStep_1 : decode cX0_addStep 1 = .ok (.sipush 310, 3) := by decide +kernel
theorem dX0_addStep_4 : decode cX0_addStep 4 = .ok (.iadd, 1) := by decide +kernel
theorem dX0_addStep_5 : decode cX0_addStep 5 = .ok (.istore_n 3, 1) := by decide +kernel
theorem dX0_addStep_6 : decode cX0_addStep 6 = .ok (.iload_n 3, 1) := by decide +kernel
theorem dX0_addStep_7 : decode cX0_addStep 7 = .ok (.ifCond .lt 22, 3) := by decide +kernel
theorem dX0_addStep_10 : decode cX0_addStep 10 = .ok (.iload_n 3, 1) := by decide +kernel
theorem dX0_addStep_11 : decode cX0_addStep 11 = .ok (.aload_n 0, 1) := by decide +kernel
theorem dX0_addStep_12 : decode cX0_addStep 12 = .ok (.getfield 22, 3) := by decide +kernel
theorem dX0_addStep_15 : decode cX0_addStep 15 = .ok (.arraylength, 1) := by decide +kernel
theorem dX0_addStep_16 : decode cX0_addStep 16 = .ok (.if_icmp .ge 13, 3) := by decide +kernel
theorem dX0_addStep_19 : decode cX0_addStep 19 = .ok (.aload_n 0, 1) := by decide +kernel
theorem dX0_addStep_20 : decode cX0_addStep 20 = .ok (.getfield 22, 3) := by decide +kernel
theorem dX0_addStep_23 : decode cX0_addStep 23 = .ok (.iload_n 3, 1) := by decide +kernel
theorem dX0_addStep_24 : decode cX0_addStep 24 = .ok (.dup2, 1) := by decide +kernel
theorem dX0_addStep_25 : decode cX0_addStep 25 = .ok (.iaload, 1) := by decide +kernel
theorem dX0_addStep_26 : decode cX0_addStep 26 = .ok (.iload_n 2, 1) := by decide +kernel
theorem dX0_addStep_27 : decode cX0_addStep 27 = .ok (.iadd, 1) := by decide +kernel
theorem dX0_addStep_28 : decode cX0_addStep 28 = .ok (.iastore, 1) := by decide +kernel
theorem dX0_addStep_29 : decode cX0_addStep 29 = .ok (.return_, 1) := by decide +kernel
theorem dX0_highestStep_0 : decode cX0_highestStep 0 = .ok (.iconst 0, 1) := by decide +kernel
theorem dX0_highestStep_1 : decode cX0_highestStep 1 = .ok (.istore_n 1, 1) := by decide +kernel
theorem dX0_highestStep_2 : decode cX0_highestStep 2 = .ok (.iconst 0, 1) := by decide +kernel
theorem dX0_highestStep_3 : decode cX0_highestStep 3 = .ok (.istore_n 2, 1) := by decide +kernel
theorem dX0_highestStep_4 : decode cX0_highestStep 4 = .ok (.iconst 0, 1) := by decide +kernel
theorem dX0_highestStep_5 : decode cX0_highestStep 5 = .ok (.istore_n 3, 1) := by decide +kernel
theorem dX0_highestStep_6 : decode cX0_highestStep 6 = .ok (.iload_n 3, 1) := by decide +kernel
theorem dX0_highestStep_7 : decode cX0_highestStep 7 = .ok (.aload_n 0, 1) := by decide +kernel
theorem dX0_highestStep_8 : decode cX0_highestStep 8 = .ok (.getfield 22, 3) := by decide +kernel
theorem dX0_highestStep_11 : decode cX0_highestStep 11 = .ok (.arraylength, 1) := by decide +kernel
theorem dX0_highestStep_12 : decode cX0_highestStep 12 = .ok (.if_icmp .ge 24, 3) := by decide +kernel
theorem dX0_highestStep_15 : decode cX0_highestStep 15 = .ok (.iload_n 1, 1) := by decide +kernel
theorem dX0_highestStep_16 : decode cX0_highestStep 16 = .ok (.aload_n 0, 1) := by decide +kernel
theorem dX0_highestStep_17 : decode cX0_highestStep 17 = .ok (.getfield 22, 3) := by decide +kernel
theorem dX0_highestStep_20 : decode cX0_highestStep 20 = .ok (.iload_n 3, 1) := by decide +kernel
theorem dX0_highestStep_21 : decode cX0_highestStep 21 = .ok (.iaload, 1) := by decide +kernel
theorem dX0_highestStep_22 : decode cX0_highestStep 22 = .ok (.iadd, 1) := by decide +kernel
theorem dX0_highestStep_23 : decode cX0_highestStep 23 = .ok (.istore_n 1, 1) := by decide +kernel
theorem dX0_highestStep_24 : decode cX0_highestStep 24 = .ok (.iload_n 2, 1) := by decide +kernel
theorem dX0_highestStep_25 : decode cX0_highestStep 25 = .ok (.iload_n 1, 1) := by decide +kernel
theorem dX0_highestStep_26 : decode cX0_highestStep 26 = .ok (.invokestatic 80, 3) := by decide +kernel
theorem dX0_highestStep_29 : decode cX0_highestStep 29 = .ok (.istore_n 2, 1) := by decide +kernel
theorem dX0_highestStep_30 : decode cX0_highestStep 30 = .ok (.iinc 3 1, 3) := by decide +kernel
theorem dX0_highestStep_33 : decode cX0_highestStep 33 = .ok (.goto (-27), 3) := by decide +kernel
theorem dX0_highestStep_36 : decode cX0_highestStep 36 = .ok (.iload_n 2, 1) := by decide +kernel
theorem dX0_highestStep_37 : decode cX0_highestStep 37 = .ok (.ireturn, 1) := by decide +kernel
theorem dX1_init_0 : decode cX1_init 0 = .ok (.aload_n 0, 1) := by decide +kernel
theorem dX1_init_1 : decode cX1_init 1 = .ok (.invokespecial 3, 3) := by decide +kernel
theorem dX1_init_4 : decode cX1_init 4 = .ok (.aload_n 0, 1) := by decide +kernel
theorem dX1_init_5 : decode cX1_init 5 = .ok (.iconst 0, 1) := by decide +kernel
theorem dX1_init_6 : decode cX1_init 6 = .ok (.putfield 9, 3) := by decide +kernel
theorem dX1_init_9 : decode cX1_init 9 = .ok (.aload_n 0, 1) := by decide +kernel
theorem dX1_init_10 : decode cX1_init 10 = .ok (.sipush 350, 3) := by decide +kernel
theorem dX1_init_13 : decode cX1_init 13 = .ok (.newarray .int, 2) := by decide +kernel
theorem dX1_init_15 : decode cX1_init 15 = .ok (.putfield 15, 3) := by decide +kernel
theorem dX1_init_18 : decode cX1_init 18 = .ok (.aload_n 0, 1) := by decide +kernel
theorem dX1_init_19 : decode cX1_init 19 = .ok (.sipush 350, 3) := by decide +kernel
theorem dX1_init_22 : decode cX1_init 22 = .ok (.newarray .int, 2) := by decide +kernel
theorem dX1_init_24 : decode cX1_init 24 = .ok (.putfield 19, 3) := by decide +kernel
theorem dX1_init_27 : decode cX1_init 27 = .ok (.aload_n 0, 1) := by decide +kernel
theorem dX1_init_28 : decode cX1_init 28 = .ok (.sipush 350, 3) := by decide +kernel
theorem dX1_init_31 : decode cX1_init 31 = .ok (.newarray .int, 2) := by decide +kernel
theorem dX1_init_33 : decode cX1_init 33 = .ok (.putfield 22, 3) := by decide +kernel
theorem dX1_init_36 : decode cX1_init 36 = .ok (.aload_n 0, 1) := by decide +kernel
theorem dX1_init_37 : decode cX1_init 37 = .ok (.sipush 350, 3) := by decide +kernel
theorem dX1_init_40 : decode cX1_init 40 = .ok (.newarray .int, 2) := by decide +kernel
theorem dX1_init_42 : decode cX1_init 42 = .ok (.putfield 25, 3) := by decide +kernel
theorem dX1_init_45 : decode cX1_init 45 = .ok (.aload_n 0, 1) := by decide +kernel
theorem dX1_init_46 : decode cX1_init 46 = .ok (.bipush 9, 2) := by decide +kernel
theorem dX1_init_48 : decode cX1_init 48 = .ok (.newarray .int, 2) := by decide +kernel
theorem dX1_init_50 : decode cX1_init 50 = .ok (.putfield 28, 3) := by decide +kernel
theorem dX1_init_53 : decode cX1_init 53 = .ok (.aload_n 0, 1) := by decide +kernel
theorem dX1_init_54 : decode cX1_init 54 = .ok (.aconst_null, 1) := by decide +kernel
theorem dX1_init_55 : decode cX1_init 55 = .ok (.putfield 31, 3) := by decide +kernel
theorem dX1_init_58 : decode cX1_init 58 = .ok (.aload_n 0, 1) := by decide +kernel
theorem dX1_init_59 : decode cX1_init 59 = .ok (.iconst 0, 1) := by decide +kernel
theorem dX1_init_60 : decode cX1_init 60 = .ok (.putfield 34, 3) := by decide +kernel
theorem dX1_init_63 : decode cX1_init 63 = .ok (.return_, 1) := by decide +kernel
theorem dX1_clear_0 : decode cX1_clear 0 = .ok (.aload_n 0, 1) := by decide +kernel
theorem dX1_clear_1 : decode cX1_clear 1 = .ok (.iconst 0, 1) := by decide +kernel
theorem dX1_clear_2 : decode cX1_clear 2 = .ok (.putfield 9, 3) := by decide +kernel
theorem dX1_clear_5 : decode cX1_clear 5 = .ok (.return_, 1) := by decide +kernel
theorem dX1_addNode_0 : decode cX1_addNode 0 = .ok (.aload_n 0, 1) := by decide +kernel
theorem dX1_addNode_1 : decode cX1_addNode 1 = .ok (.getfield 9, 3) := by decide +kernel
theorem dX1_addNode_4 : decode cX1_addNode 4 = .ok (.sipush 350, 3) := by decide +kernel
theorem dX1_addNode_7 : decode cX1_addNode 7 = .ok (.if_icmp .lt 5, 3) := by decide +kernel
theorem dX1_addNode_10 : decode cX1_addNode 10 = .ok (.iconst (-1), 1) := by decide +kernel
theorem dX1_addNode_11 : decode cX1_addNode 11 = .ok (.ireturn, 1) := by decide +kernel
theorem dX1_addNode_12 : decode cX1_addNode 12 = .ok (.aload_n 0, 1) := by decide +kernel
theorem dX1_addNode_13 : decode cX1_addNode 13 = .ok (.getfield 9, 3) := by decide +kernel
theorem dX1_addNode_16 : decode cX1_addNode 16 = .ok (.istore_n 2, 1) := by decide +kernel
theorem dX1_addNode_17 : decode cX1_addNode 17 = .ok (.aload_n 0, 1) := by decide +kernel
theorem dX1_addNode_18 : decode cX1_addNode 18 = .ok (.getfield 15, 3) := by decide +kernel
theorem dX1_addNode_21 : decode cX1_addNode 21 = .ok (.iload_n 2, 1) := by decide +kernel
theorem dX1_addNode_22 : decode cX1_addNode 22 = .ok (.iload_n 1, 1) := by decide +kernel
theorem dX1_addNode_23 : decode cX1_addNode 23 = .ok (.iastore, 1) := by decide +kernel
theorem dX1_addNode_24 : decode cX1_addNode 24 = .ok (.aload_n 0, 1) := by decide +kernel
theorem dX1_addNode_25 : decode cX1_addNode 25 = .ok (.getfield 19, 3) := by decide +kernel
theorem dX1_addNode_28 : decode cX1_addNode 28 = .ok (.iload_n 2, 1) := by decide +kernel
theorem dX1_addNode_29 : decode cX1_addNode 29 = .ok (.iconst 0, 1) := by decide +kernel
theorem dX1_addNode_30 : decode cX1_addNode 30 = .ok (.iastore, 1) := by decide +kernel
theorem dX1_addNode_31 : decode cX1_addNode 31 = .ok (.aload_n 0, 1) := by decide +kernel
theorem dX1_addNode_32 : decode cX1_addNode 32 = .ok (.getfield 22, 3) := by decide +kernel
theorem dX1_addNode_35 : decode cX1_addNode 35 = .ok (.iload_n 2, 1) := by decide +kernel
theorem dX1_addNode_36 : decode cX1_addNode 36 = .ok (.iconst (-1), 1) := by decide +kernel
theorem dX1_addNode_37 : decode cX1_addNode 37 = .ok (.iastore, 1) := by decide +kernel
theorem dX1_addNode_38 : decode cX1_addNode 38 = .ok (.aload_n 0, 1) := by decide +kernel
theorem dX1_addNode_39 : decode cX1_addNode 39 = .ok (.getfield 25, 3) := by decide +kernel
theorem dX1_addNode_42 : decode cX1_addNode 42 = .ok (.iload_n 2, 1) := by decide +kernel
theorem dX1_addNode_43 : decode cX1_addNode 43 = .ok (.iconst (-1), 1) := by decide +kernel
theorem dX1_addNode_44 : decode cX1_addNode 44 = .ok (.iastore, 1) := by decide +kernel
theorem dX1_addNode_45 : decode cX1_addNode 45 = .ok (.aload_n 0, 1) := by decide +kernel
theorem dX1_addNode_46 : decode cX1_addNode 46 = .ok (.dup, 1) := by decide +kernel
theorem dX1_addNode_47 : decode cX1_addNode 47 = .ok (.getfield 9, 3) := by decide +kernel
theorem dX1_addNode_50 : decode cX1_addNode 50 = .ok (.iconst 1, 1) := by decide +kernel
theorem dX1_addNode_51 : decode cX1_addNode 51 = .ok (.iadd, 1) := by decide +kernel
theorem dX1_addNode_52 : decode cX1_addNode 52 = .ok (.putfield 9, 3) := by decide +kernel
theorem dX1_addNode_55 : decode cX1_addNode 55 = .ok (.iload_n 2, 1) := by decide +kernel
theorem dX1_addNode_56 : decode cX1_addNode 56 = .ok (.ireturn, 1) := by decide +kernel
theorem dX1_isNode_0 : decode cX1_isNode 0 = .ok (.iload_n 1, 1) := by decide +kernel
theorem dX1_isNode_1 : decode cX1_isNode 1 = .ok (.ifCond .lt 15, 3) := by decide +kernel
theorem dX1_isNode_4 : decode cX1_isNode 4 = .ok (.iload_n 1, 1) := by decide +kernel
theorem dX1_isNode_5 : decode cX1_isNode 5 = .ok (.aload_n 0, 1) := by decide +kernel
theorem dX1_isNode_6 : decode cX1_isNode 6 = .ok (.getfield 9, 3) := by decide +kernel
theorem dX1_isNode_9 : decode cX1_isNode 9 = .ok (.if_icmp .ge 7, 3) := by decide +kernel
theorem dX1_isNode_12 : decode cX1_isNode 12 = .ok (.iconst 1, 1) := by decide +kernel
theorem dX1_isNode_13 : decode cX1_isNode 13 = .ok (.goto 4, 3) := by decide +kernel
theorem dX1_isNode_16 : decode cX1_isNode 16 = .ok (.iconst 0, 1) := by decide +kernel
theorem dX1_isNode_17 : decode cX1_isNode 17 = .ok (.ireturn, 1) := by decide +kernel
theorem dX1_setValue_0 : decode cX1_setValue 0 = .ok (.aload_n 0, 1) := by decide +kernel
theorem dX1_setValue_1 : decode cX1_setValue 1 = .ok (.iload_n 1, 1) := by decide +kernel
theorem dX1_setValue_2 : decode cX1_setValue 2 = .ok (.invokevirtual 37, 3) := by decide +kernel
theorem dX1_setValue_5 : decode cX1_setValue 5 = .ok (.ifCond .eq 10, 3) := by decide +kernel
theorem dX1_setValue_8 : decode cX1_setValue 8 = .ok (.aload_n 0, 1) := by decide +kernel
theorem dX1_setValue_9 : decode cX1_setValue 9 = .ok (.getfield 19, 3) := by decide +kernel
theorem dX1_setValue_12 : decode cX1_setValue 12 = .ok (.iload_n 1, 1) := by decide +kernel
theorem dX1_setValue_13 : decode cX1_setValue 13 = .ok (.iload_n 2, 1) := by decide +kernel
theorem dX1_setValue_14 : decode cX1_setValue 14 = .ok (.iastore, 1) := by decide +kernel
theorem dX1_setValue_15 : decode cX1_setValue 15 = .ok (.return_, 1) := by decide +kernel
theorem dX1_addPart_0 : decode cX1_addPart 0 = .ok (.aload_n 0, 1) := by decide +kernel
theorem dX1_addPart_1 : decode cX1_addPart 1 = .ok (.iload_n 2, 1) := by decide +kernel
theorem dX1_addPart_2 : decode cX1_addPart 2 = .ok (.invokevirtual 37, 3) := by decide +kernel
theorem dX1_addPart_5 : decode cX1_addPart 5 = .ok (.ifCond .eq 13, 3) := by decide +kernel
theorem dX1_addPart_8 : decode cX1_addPart 8 = .ok (.aload_n 0, 1) := by decide +kernel
theorem dX1_addPart_9 : decode cX1_addPart 9 = .ok (.getfield 25, 3) := by decide +kernel
theorem dX1_addPart_12 : decode cX1_addPart 12 = .ok (.iload_n 2, 1) := by decide +kernel
theorem dX1_addPart_13 : decode cX1_addPart 13 = .ok (.iload_n 3, 1) := by decide +kernel
theorem dX1_addPart_14 : decode cX1_addPart 14 = .ok (.iastore, 1) := by decide +kernel
theorem dX1_addPart_15 : decode cX1_addPart 15 = .ok (.goto 18, 3) := by decide +kernel
theorem dX1_addPart_18 : decode cX1_addPart 18 = .ok (.aload_n 0, 1) := by decide +kernel
theorem dX1_addPart_19 : decode cX1_addPart 19 = .ok (.iload_n 1, 1) := by decide +kernel
theorem dX1_addPart_20 : decode cX1_addPart 20 = .ok (.invokevirtual 37, 3) := by decide +kernel
theorem dX1_addPart_23 : decode cX1_addPart 23 = .ok (.ifCond .eq 10, 3) := by decide +kernel
theorem dX1_addPart_26 : decode cX1_addPart 26 = .ok (.aload_n 0, 1) := by decide +kernel
theorem dX1_addPart_27 : decode cX1_addPart 27 = .ok (.getfield 22, 3) := by decide +kernel
theorem dX1_addPart_30 : decode cX1_addPart 30 = .ok (.iload_n 1, 1) := by decide +kernel
theorem dX1_addPart_31 : decode cX1_addPart 31 = .ok (.iload_n 3, 1) := by decide +kernel
theorem dX1_addPart_32 : decode cX1_addPart 32 = .ok (.iastore, 1) := by decide +kernel
theorem dX1_addPart_33 : decode cX1_addPart 33 = .ok (.return_, 1) := by decide +kernel
theorem dX1_tellsBy_0 : decode cX1_tellsBy 0 = .ok (.aload_n 1, 1) := by decide +kernel
theorem dX1_tellsBy_1 : decode cX1_tellsBy 1 = .ok (.ifnonnull 5, 3) := by decide +kernel
theorem dX1_tellsBy_4 : decode cX1_tellsBy 4 = .ok (.iconst (-1), 1) := by decide +kernel
theorem dX1_tellsBy_5 : decode cX1_tellsBy 5 = .ok (.ireturn, 1) := by decide +kernel
theorem dX1_tellsBy_6 : decode cX1_tellsBy 6 = .ok (.aload_n 0, 1) := by decide +kernel
theorem dX1_tellsBy_7 : decode cX1_tellsBy 7 = .ok (.aload_n 1, 1) := by decide +kernel
theorem dX1_tellsBy_8 : decode cX1_tellsBy 8 = .ok (.putfield 31, 3) := by decide +kernel
theorem dX1_tellsBy_11 : decode cX1_tellsBy 11 = .ok (.aload_n 0, 1) := by decide +kernel
theorem dX1_tellsBy_12 : decode cX1_tellsBy 12 = .ok (.iload_n 2, 1) := by decide +kernel
theorem dX1_tellsBy_13 : decode cX1_tellsBy 13 = .ok (.putfield 34, 3) := by decide +kernel
theorem dX1_tellsBy_16 : decode cX1_tellsBy 16 = .ok (.aload_n 0, 1) := by decide +kernel
theorem dX1_tellsBy_17 : decode cX1_tellsBy 17 = .ok (.iconst 0, 1) := by decide +kernel
theorem dX1_tellsBy_18 : decode cX1_tellsBy 18 = .ok (.iconst 0, 1) := by decide +kernel
theorem dX1_tellsBy_19 : decode cX1_tellsBy 19 = .ok (.invokevirtual 41, 3) := by decide +kernel
theorem dX1_tellsBy_22 : decode cX1_tellsBy 22 = .ok (.ireturn, 1) := by decide +kernel
theorem dX1_partAt_0 : decode cX1_partAt 0 = .ok (.aload_n 0, 1) := by decide +kernel
theorem dX1_partAt_1 : decode cX1_partAt 1 = .ok (.iload_n 1, 1) := by decide +kernel
theorem dX1_partAt_2 : decode cX1_partAt 2 = .ok (.invokevirtual 37, 3) := by decide +kernel
theorem dX1_partAt_5 : decode cX1_partAt 5 = .ok (.ifCond .eq 12, 3) := by decide +kernel
theorem dX1_partAt_8 : decode cX1_partAt 8 = .ok (.aload_n 0, 1) := by decide +kernel
theorem dX1_partAt_9 : decode cX1_partAt 9 = .ok (.getfield 22, 3) := by decide +kernel
theorem dX1_partAt_12 : decode cX1_partAt 12 = .ok (.iload_n 1, 1) := by decide +kernel
theorem dX1_partAt_13 : decode cX1_partAt 13 = .ok (.iaload, 1) := by decide +kernel
theorem dX1_partAt_14 : decode cX1_partAt 14 = .ok (.goto 4, 3) := by decide +kernel
theorem dX1_partAt_17 : decode cX1_partAt 17 = .ok (.iconst (-1), 1) := by decide +kernel
theorem dX1_partAt_18 : decode cX1_partAt 18 = .ok (.istore_n 3, 1) := by decide +kernel
theorem dX1_partAt_19 : decode cX1_partAt 19 = .ok (.iconst 0, 1) := by decide +kernel
theorem dX1_partAt_20 : decode cX1_partAt 20 = .ok (.istore 4, 2) := by decide +kernel
theorem dX1_partAt_22 : decode cX1_partAt 22 = .ok (.iload 4, 2) := by decide +kernel
theorem dX1_partAt_24 : decode cX1_partAt 24 = .ok (.iload_n 2, 1) := by decide +kernel
theorem dX1_partAt_25 : decode cX1_partAt 25 = .ok (.if_icmp .ge 24, 3) := by decide +kernel
theorem dX1_partAt_28 : decode cX1_partAt 28 = .ok (.aload_n 0, 1) := by decide +kernel
theorem dX1_partAt_29 : decode cX1_partAt 29 = .ok (.iload_n 3, 1) := by decide +kernel
theorem dX1_partAt_30 : decode cX1_partAt 30 = .ok (.invokevirtual 37, 3) := by decide +kernel
theorem dX1_partAt_33 : decode cX1_partAt 33 = .ok (.ifCond .eq 16, 3) := by decide +kernel
theorem dX1_partAt_36 : decode cX1_partAt 36 = .ok (.aload_n 0, 1) := by decide +kernel
theorem dX1_partAt_37 : decode cX1_partAt 37 = .ok (.getfield 25, 3) := by decide +kernel
theorem dX1_partAt_40 : decode cX1_partAt 40 = .ok (.iload_n 3, 1) := by decide +kernel
theorem dX1_partAt_41 : decode cX1_partAt 41 = .ok (.iaload, 1) := by decide +kernel
theorem dX1_partAt_42 : decode cX1_partAt 42 = .ok (.istore_n 3, 1) := by decide +kernel
theorem dX1_partAt_43 : decode cX1_partAt 43 = .ok (.iinc 4 1, 3) := by decide +kernel
theorem dX1_partAt_46 : decode cX1_partAt 46 = .ok (.goto (-24), 3) := by decide +kernel
theorem dX1_partAt_49 : decode cX1_partAt 49 = .ok (.iload_n 3, 1) := by decide +kernel
theorem dX1_partAt_50 : decode cX1_partAt 50 = .ok (.ireturn, 1) := by decide +kernel
theorem dX1_timeAt_0 : decode cX1_timeAt 0 = .ok (.aload_n 0, 1) := by decide +kernel
theorem dX1_timeAt_1 : decode cX1_timeAt 1 = .ok (.iload_n 1, 1) := by decide +kernel
theorem dX1_timeAt_2 : decode cX1_timeAt 2 = .ok (.invokevirtual 37, 3) := by decide +kernel
theorem dX1_timeAt_5 : decode cX1_timeAt 5 = .ok (.ifCond .eq 9, 3) := by decide +kernel
theorem dX1_timeAt_8 : decode cX1_timeAt 8 = .ok (.iload_n 2, 1) := by decide +kernel
theorem dX1_timeAt_9 : decode cX1_timeAt 9 = .ok (.bipush 12, 2) := by decide +kernel
theorem dX1_timeAt_11 : decode cX1_timeAt 11 = .ok (.if_icmp .lt 5, 3) := by decide +kernel
theorem dX1_timeAt_14 : decode cX1_timeAt 14 = .ok (.iconst (-1), 1) := by decide +kernel
theorem dX1_timeAt_15 : decode cX1_timeAt 15 = .ok (.ireturn, 1) := by decide +kernel
theorem dX1_timeAt_16 : decode cX1_timeAt 16 = .ok (.aload_n 0, 1) := by decide +kernel
theorem dX1_timeAt_17 : decode cX1_timeAt 17 = .ok (.getfield 15, 3) := by decide +kernel
theorem dX1_timeAt_20 : decode cX1_timeAt 20 = .ok (.iload_n 1, 1) := by decide +kernel
theorem dX1_timeAt_21 : decode cX1_timeAt 21 = .ok (.iaload, 1) := by decide +kernel
theorem dX1_timeAt_22 : decode cX1_timeAt 22 = .ok (.tableswitch 95 0 5 #[38, 49, 67, 74, 81, 88], 38) := by decide +kernel
theorem dX1_timeAt_60 : decode cX1_timeAt 60 = .ok (.aload_n 0, 1) := by decide +kernel
theorem dX1_timeAt_61 : decode cX1_timeAt 61 = .ok (.aload_n 0, 1) := by decide +kernel
theorem dX1_timeAt_62 : decode cX1_timeAt 62 = .ok (.getfield 19, 3) := by decide +kernel
theorem dX1_timeAt_65 : decode cX1_timeAt 65 = .ok (.iload_n 1, 1) := by decide +kernel
theorem dX1_timeAt_66 : decode cX1_timeAt 66 = .ok (.iaload, 1) := by decide +kernel
theorem dX1_timeAt_67 : decode cX1_timeAt 67 = .ok (.invokevirtual 45, 3) := by decide +kernel
theorem dX1_timeAt_70 : decode cX1_timeAt 70 = .ok (.ireturn, 1) := by decide +kernel
theorem dX1_timeAt_71 : decode cX1_timeAt 71 = .ok (.aload_n 0, 1) := by decide +kernel
theorem dX1_timeAt_72 : decode cX1_timeAt 72 = .ok (.getfield 31, 3) := by decide +kernel
theorem dX1_timeAt_75 : decode cX1_timeAt 75 = .ok (.aload_n 0, 1) := by decide +kernel
theorem dX1_timeAt_76 : decode cX1_timeAt 76 = .ok (.getfield 19, 3) := by decide +kernel
theorem dX1_timeAt_79 : decode cX1_timeAt 79 = .ok (.iload_n 1, 1) := by decide +kernel
theorem dX1_timeAt_80 : decode cX1_timeAt 80 = .ok (.iaload, 1) := by decide +kernel
theorem dX1_timeAt_81 : decode cX1_timeAt 81 = .ok (.aload_n 0, 1) := by decide +kernel
theorem dX1_timeAt_82 : decode cX1_timeAt 82 = .ok (.getfield 28, 3) := by decide +kernel
theorem dX1_timeAt_85 : decode cX1_timeAt 85 = .ok (.invokestatic 49, 3) := by decide +kernel
theorem dX1_timeAt_88 : decode cX1_timeAt 88 = .ok (.ireturn, 1) := by decide +kernel
theorem dX1_timeAt_89 : decode cX1_timeAt 89 = .ok (.aload_n 0, 1) := by decide +kernel
theorem dX1_timeAt_90 : decode cX1_timeAt 90 = .ok (.iload_n 1, 1) := by decide +kernel
theorem dX1_timeAt_91 : decode cX1_timeAt 91 = .ok (.iload_n 2, 1) := by decide +kernel
theorem dX1_timeAt_92 : decode cX1_timeAt 92 = .ok (.invokevirtual 53, 3) := by decide +kernel
theorem dX1_timeAt_95 : decode cX1_timeAt 95 = .ok (.ireturn, 1) := by decide +kernel
theorem dX1_timeAt_96 : decode cX1_timeAt 96 = .ok (.aload_n 0, 1) := by decide +kernel
theorem dX1_timeAt_97 : decode cX1_timeAt 97 = .ok (.iload_n 1, 1) := by decide +kernel
theorem dX1_timeAt_98 : decode cX1_timeAt 98 = .ok (.iload_n 2, 1) := by decide +kernel
theorem dX1_timeAt_99 : decode cX1_timeAt 99 = .ok (.invokevirtual 56, 3) := by decide +kernel
theorem dX1_timeAt_102 : decode cX1_timeAt 102 = .ok (.ireturn, 1) := by decide +kernel
theorem dX1_timeAt_103 : decode cX1_timeAt 103 = .ok (.aload_n 0, 1) := by decide +kernel
theorem dX1_timeAt_104 : decode cX1_timeAt 104 = .ok (.iload_n 1, 1) := by decide +kernel
theorem dX1_timeAt_105 : decode cX1_timeAt 105 = .ok (.iload_n 2, 1) := by decide +kernel
theorem dX1_timeAt_106 : decode cX1_timeAt 106 = .ok (.invokevirtual 59, 3) := by decide +kernel
theorem dX1_timeAt_109 : decode cX1_timeAt 109 = .ok (.ireturn, 1) := by decide +kernel
theorem dX1_timeAt_110 : decode cX1_timeAt 110 = .ok (.aload_n 0, 1) := by decide +kernel
theorem dX1_timeAt_111 : decode cX1_timeAt 111 = .ok (.iload_n 1, 1) := by decide +kernel
theorem dX1_timeAt_112 : decode cX1_timeAt 112 = .ok (.iload_n 2, 1) := by decide +kernel
theorem dX1_timeAt_113 : decode cX1_timeAt 113 = .ok (.invokevirtual 62, 3) := by decide +kernel
theorem dX1_timeAt_116 : decode cX1_timeAt 116 = .ok (.ireturn, 1) := by decide +kernel
theorem dX1_timeAt_117 : decode cX1_timeAt 117 = .ok (.iconst (-1), 1) := by decide +kernel
theorem dX1_timeAt_118 : decode cX1_timeAt 118 = .ok (.ireturn, 1) := by decide +kernel
theorem dX1_toldBy_0 : decode cX1_toldBy 0 = .ok (.iload_n 1, 1) := by decide +kernel
theorem dX1_toldBy_1 : decode cX1_toldBy 1 = .ok (.ifCond .lt 21, 3) := by decide +kernel
theorem dX1_toldBy_4 : decode cX1_toldBy 4 = .ok (.iload_n 1, 1) := by decide +kernel
theorem dX1_toldBy_5 : decode cX1_toldBy 5 = .ok (.aload_n 0, 1) := by decide +kernel
theorem dX1_toldBy_6 : decode cX1_toldBy 6 = .ok (.getfield 31, 3) := by decide +kernel
theorem dX1_toldBy_9 : decode cX1_toldBy 9 = .ok (.arraylength, 1) := by decide +kernel
theorem dX1_toldBy_10 : decode cX1_toldBy 10 = .ok (.if_icmp .ge 12, 3) := by decide +kernel
theorem dX1_toldBy_13 : decode cX1_toldBy 13 = .ok (.aload_n 0, 1) := by decide +kernel
theorem dX1_toldBy_14 : decode cX1_toldBy 14 = .ok (.getfield 31, 3) := by decide +kernel
theorem dX1_toldBy_17 : decode cX1_toldBy 17 = .ok (.iload_n 1, 1) := by decide +kernel
theorem dX1_toldBy_18 : decode cX1_toldBy 18 = .ok (.iaload, 1) := by decide +kernel
theorem dX1_toldBy_19 : decode cX1_toldBy 19 = .ok (.goto 4, 3) := by decide +kernel
theorem dX1_toldBy_22 : decode cX1_toldBy 22 = .ok (.iconst (-1), 1) := by decide +kernel
theorem dX1_toldBy_23 : decode cX1_toldBy 23 = .ok (.ireturn, 1) := by decide +kernel
theorem dX1_firstAt_0 : decode cX1_firstAt 0 = .ok (.aload_n 0, 1) := by decide +kernel
theorem dX1_firstAt_1 : decode cX1_firstAt 1 = .ok (.iload_n 1, 1) := by decide +kernel
theorem dX1_firstAt_2 : decode cX1_firstAt 2 = .ok (.iconst 0, 1) := by decide +kernel
theorem dX1_firstAt_3 : decode cX1_firstAt 3 = .ok (.invokevirtual 65, 3) := by decide +kernel
theorem dX1_firstAt_6 : decode cX1_firstAt 6 = .ok (.istore_n 3, 1) := by decide +kernel
theorem dX1_firstAt_7 : decode cX1_firstAt 7 = .ok (.iconst 0, 1) := by decide +kernel
theorem dX1_firstAt_8 : decode cX1_firstAt 8 = .ok (.istore 4, 2) := by decide +kernel
theorem dX1_firstAt_10 : decode cX1_firstAt 10 = .ok (.iload 4, 2) := by decide +kernel
theorem dX1_firstAt_12 : decode cX1_firstAt 12 = .ok (.sipush 350, 3) := by decide +kernel
theorem dX1_firstAt_15 : decode cX1_firstAt 15 = .ok (.if_icmp .ge 43, 3) := by decide +kernel
theorem dX1_firstAt_18 : decode cX1_firstAt 18 = .ok (.aload_n 0, 1) := by decide +kernel
theorem dX1_firstAt_19 : decode cX1_firstAt 19 = .ok (.iload_n 3, 1) := by decide +kernel
theorem dX1_firstAt_20 : decode cX1_firstAt 20 = .ok (.invokevirtual 37, 3) := by decide +kernel
theorem dX1_firstAt_23 : decode cX1_firstAt 23 = .ok (.ifCond .eq 35, 3) := by decide +kernel
theorem dX1_firstAt_26 : decode cX1_firstAt 26 = .ok (.aload_n 0, 1) := by decide +kernel
theorem dX1_firstAt_27 : decode cX1_firstAt 27 = .ok (.iload_n 3, 1) := by decide +kernel
theorem dX1_firstAt_28 : decode cX1_firstAt 28 = .ok (.iload_n 2, 1) := by decide +kernel
theorem dX1_firstAt_29 : decode cX1_firstAt 29 = .ok (.iconst 1, 1) := by decide +kernel
theorem dX1_firstAt_30 : decode cX1_firstAt 30 = .ok (.iadd, 1) := by decide +kernel
theorem dX1_firstAt_31 : decode cX1_firstAt 31 = .ok (.invokevirtual 41, 3) := by decide +kernel
theorem dX1_firstAt_34 : decode cX1_firstAt 34 = .ok (.istore 5, 2) := by decide +kernel
theorem dX1_firstAt_36 : decode cX1_firstAt 36 = .ok (.iload 5, 2) := by decide +kernel
theorem dX1_firstAt_38 : decode cX1_firstAt 38 = .ok (.iconst (-1), 1) := by decide +kernel
theorem dX1_firstAt_39 : decode cX1_firstAt 39 = .ok (.if_icmp .eq 6, 3) := by decide +kernel
theorem dX1_firstAt_42 : decode cX1_firstAt 42 = .ok (.iload 5, 2) := by decide +kernel
theorem dX1_firstAt_44 : decode cX1_firstAt 44 = .ok (.ireturn, 1) := by decide +kernel
theorem dX1_firstAt_45 : decode cX1_firstAt 45 = .ok (.aload_n 0, 1) := by decide +kernel
theorem dX1_firstAt_46 : decode cX1_firstAt 46 = .ok (.getfield 25, 3) := by decide +kernel
theorem dX1_firstAt_49 : decode cX1_firstAt 49 = .ok (.iload_n 3, 1) := by decide +kernel
theorem dX1_firstAt_50 : decode cX1_firstAt 50 = .ok (.iaload, 1) := by decide +kernel
theorem dX1_firstAt_51 : decode cX1_firstAt 51 = .ok (.istore_n 3, 1) := by decide +kernel
theorem dX1_firstAt_52 : decode cX1_firstAt 52 = .ok (.iinc 4 1, 3) := by decide +kernel
theorem dX1_firstAt_55 : decode cX1_firstAt 55 = .ok (.goto (-45), 3) := by decide +kernel
theorem dX1_firstAt_58 : decode cX1_firstAt 58 = .ok (.iconst (-1), 1) := by decide +kernel
theorem dX1_firstAt_59 : decode cX1_firstAt 59 = .ok (.ireturn, 1) := by decide +kernel
theorem dX1_meanAt_0 : decode cX1_meanAt 0 = .ok (.aload_n 0, 1) := by decide +kernel
theorem dX1_meanAt_1 : decode cX1_meanAt 1 = .ok (.aload_n 0, 1) := by decide +kernel
theorem dX1_meanAt_2 : decode cX1_meanAt 2 = .ok (.iload_n 1, 1) := by decide +kernel
theorem dX1_meanAt_3 : decode cX1_meanAt 3 = .ok (.iconst 0, 1) := by decide +kernel
theorem dX1_meanAt_4 : decode cX1_meanAt 4 = .ok (.invokevirtual 65, 3) := by decide +kernel
theorem dX1_meanAt_7 : decode cX1_meanAt 7 = .ok (.iload_n 2, 1) := by decide +kernel
theorem dX1_meanAt_8 : decode cX1_meanAt 8 = .ok (.iconst 1, 1) := by decide +kernel
theorem dX1_meanAt_9 : decode cX1_meanAt 9 = .ok (.iadd, 1) := by decide +kernel
theorem dX1_meanAt_10 : decode cX1_meanAt 10 = .ok (.invokevirtual 41, 3) := by decide +kernel
theorem dX1_meanAt_13 : decode cX1_meanAt 13 = .ok (.istore_n 3, 1) := by decide +kernel
theorem dX1_meanAt_14 : decode cX1_meanAt 14 = .ok (.aload_n 0, 1) := by decide +kernel
theorem dX1_meanAt_15 : decode cX1_meanAt 15 = .ok (.aload_n 0, 1) := by decide +kernel
theorem dX1_meanAt_16 : decode cX1_meanAt 16 = .ok (.iload_n 1, 1) := by decide +kernel
theorem dX1_meanAt_17 : decode cX1_meanAt 17 = .ok (.iconst 1, 1) := by decide +kernel
theorem dX1_meanAt_18 : decode cX1_meanAt 18 = .ok (.invokevirtual 65, 3) := by decide +kernel
theorem dX1_meanAt_21 : decode cX1_meanAt 21 = .ok (.iload_n 2, 1) := by decide +kernel
theorem dX1_meanAt_22 : decode cX1_meanAt 22 = .ok (.iconst 1, 1) := by decide +kernel
theorem dX1_meanAt_23 : decode cX1_meanAt 23 = .ok (.iadd, 1) := by decide +kernel
theorem dX1_meanAt_24 : decode cX1_meanAt 24 = .ok (.invokevirtual 41, 3) := by decide +kernel
theorem dX1_meanAt_27 : decode cX1_meanAt 27 = .ok (.istore 4, 2) := by decide +kernel
theorem dX1_meanAt_29 : decode cX1_meanAt 29 = .ok (.iload_n 3, 1) := by decide +kernel
theorem dX1_meanAt_30 : decode cX1_meanAt 30 = .ok (.iconst (-1), 1) := by decide +kernel
theorem dX1_meanAt_31 : decode cX1_meanAt 31 = .ok (.if_icmp .eq 9, 3) := by decide +kernel
theorem dX1_meanAt_34 : decode cX1_meanAt 34 = .ok (.iload 4, 2) := by decide +kernel
theorem dX1_meanAt_36 : decode cX1_meanAt 36 = .ok (.iconst (-1), 1) := by decide +kernel
theorem dX1_meanAt_37 : decode cX1_meanAt 37 = .ok (.if_icmp .ne 7, 3) := by decide +kernel
theorem dX1_meanAt_40 : decode cX1_meanAt 40 = .ok (.iconst (-1), 1) := by decide +kernel
theorem dX1_meanAt_41 : decode cX1_meanAt 41 = .ok (.goto 9, 3) := by decide +kernel
theorem dX1_meanAt_44 : decode cX1_meanAt 44 = .ok (.iload_n 3, 1) := by decide +kernel
theorem dX1_meanAt_45 : decode cX1_meanAt 45 = .ok (.iload 4, 2) := by decide +kernel
theorem dX1_meanAt_47 : decode cX1_meanAt 47 = .ok (.iadd, 1) := by decide +kernel
theorem dX1_meanAt_48 : decode cX1_meanAt 48 = .ok (.iconst 2, 1) := by decide +kernel
theorem dX1_meanAt_49 : decode cX1_meanAt 49 = .ok (.idiv, 1) := by decide +kernel
theorem dX1_meanAt_50 : decode cX1_meanAt 50 = .ok (.ireturn, 1) := by decide +kernel
theorem dX1_laterAt_0 : decode cX1_laterAt 0 = .ok (.aload_n 0, 1) := by decide +kernel
theorem dX1_laterAt_1 : decode cX1_laterAt 1 = .ok (.aload_n 0, 1) := by decide +kernel
theorem dX1_laterAt_2 : decode cX1_laterAt 2 = .ok (.iload_n 1, 1) := by decide +kernel
theorem dX1_laterAt_3 : decode cX1_laterAt 3 = .ok (.iconst 0, 1) := by decide +kernel
theorem dX1_laterAt_4 : decode cX1_laterAt 4 = .ok (.invokevirtual 65, 3) := by decide +kernel
theorem dX1_laterAt_7 : decode cX1_laterAt 7 = .ok (.iload_n 2, 1) := by decide +kernel
theorem dX1_laterAt_8 : decode cX1_laterAt 8 = .ok (.iconst 1, 1) := by decide +kernel
theorem dX1_laterAt_9 : decode cX1_laterAt 9 = .ok (.iadd, 1) := by decide +kernel
theorem dX1_laterAt_10 : decode cX1_laterAt 10 = .ok (.invokevirtual 41, 3) := by decide +kernel
theorem dX1_laterAt_13 : decode cX1_laterAt 13 = .ok (.istore_n 3, 1) := by decide +kernel
theorem dX1_laterAt_14 : decode cX1_laterAt 14 = .ok (.iload_n 3, 1) := by decide +kernel
theorem dX1_laterAt_15 : decode cX1_laterAt 15 = .ok (.iconst (-1), 1) := by decide +kernel
theorem dX1_laterAt_16 : decode cX1_laterAt 16 = .ok (.if_icmp .ne 7, 3) := by decide +kernel
theorem dX1_laterAt_19 : decode cX1_laterAt 19 = .ok (.iconst (-1), 1) := by decide +kernel
theorem dX1_laterAt_20 : decode cX1_laterAt 20 = .ok (.goto 17, 3) := by decide +kernel
theorem dX1_laterAt_23 : decode cX1_laterAt 23 = .ok (.iload_n 3, 1) := by decide +kernel
theorem dX1_laterAt_24 : decode cX1_laterAt 24 = .ok (.aload_n 0, 1) := by decide +kernel
theorem dX1_laterAt_25 : decode cX1_laterAt 25 = .ok (.getfield 19, 3) := by decide +kernel
theorem dX1_laterAt_28 : decode cX1_laterAt 28 = .ok (.iload_n 1, 1) := by decide +kernel
theorem dX1_laterAt_29 : decode cX1_laterAt 29 = .ok (.iaload, 1) := by decide +kernel
theorem dX1_laterAt_30 : decode cX1_laterAt 30 = .ok (.iadd, 1) := by decide +kernel
theorem dX1_laterAt_31 : decode cX1_laterAt 31 = .ok (.sipush 1440, 3) := by decide +kernel
theorem dX1_laterAt_34 : decode cX1_laterAt 34 = .ok (.invokestatic 68, 3) := by decide +kernel
theorem dX1_laterAt_37 : decode cX1_laterAt 37 = .ok (.ireturn, 1) := by decide +kernel
theorem dX1_chosenAt_0 : decode cX1_chosenAt 0 = .ok (.aload_n 0, 1) := by decide +kernel
theorem dX1_chosenAt_1 : decode cX1_chosenAt 1 = .ok (.aload_n 0, 1) := by decide +kernel
theorem dX1_chosenAt_2 : decode cX1_chosenAt 2 = .ok (.iload_n 1, 1) := by decide +kernel
theorem dX1_chosenAt_3 : decode cX1_chosenAt 3 = .ok (.iconst 0, 1) := by decide +kernel
theorem dX1_chosenAt_4 : decode cX1_chosenAt 4 = .ok (.invokevirtual 65, 3) := by decide +kernel
theorem dX1_chosenAt_7 : decode cX1_chosenAt 7 = .ok (.iload_n 2, 1) := by decide +kernel
theorem dX1_chosenAt_8 : decode cX1_chosenAt 8 = .ok (.iconst 1, 1) := by decide +kernel
theorem dX1_chosenAt_9 : decode cX1_chosenAt 9 = .ok (.iadd, 1) := by decide +kernel
theorem dX1_chosenAt_10 : decode cX1_chosenAt 10 = .ok (.invokevirtual 73, 3) := by decide +kernel
theorem dX1_chosenAt_13 : decode cX1_chosenAt 13 = .ok (.istore_n 3, 1) := by decide +kernel
theorem dX1_chosenAt_14 : decode cX1_chosenAt 14 = .ok (.aload_n 0, 1) := by decide +kernel
theorem dX1_chosenAt_15 : decode cX1_chosenAt 15 = .ok (.aload_n 0, 1) := by decide +kernel
theorem dX1_chosenAt_16 : decode cX1_chosenAt 16 = .ok (.iload_n 1, 1) := by decide +kernel
theorem dX1_chosenAt_17 : decode cX1_chosenAt 17 = .ok (.iload_n 3, 1) := by decide +kernel
theorem dX1_chosenAt_18 : decode cX1_chosenAt 18 = .ok (.ifCond .eq 7, 3) := by decide +kernel
theorem dX1_chosenAt_21 : decode cX1_chosenAt 21 = .ok (.iconst 1, 1) := by decide +kernel
theorem dX1_chosenAt_22 : decode cX1_chosenAt 22 = .ok (.goto 4, 3) := by decide +kernel
theorem dX1_chosenAt_25 : decode cX1_chosenAt 25 = .ok (.iconst 2, 1) := by decide +kernel
theorem dX1_chosenAt_26 : decode cX1_chosenAt 26 = .ok (.invokevirtual 65, 3) := by decide +kernel
theorem dX1_chosenAt_29 : decode cX1_chosenAt 29 = .ok (.iload_n 2, 1) := by decide +kernel
theorem dX1_chosenAt_30 : decode cX1_chosenAt 30 = .ok (.iconst 1, 1) := by decide +kernel
theorem dX1_chosenAt_31 : decode cX1_chosenAt 31 = .ok (.iadd, 1) := by decide +kernel
theorem dX1_chosenAt_32 : decode cX1_chosenAt 32 = .ok (.invokevirtual 41, 3) := by decide +kernel
theorem dX1_chosenAt_35 : decode cX1_chosenAt 35 = .ok (.ireturn, 1) := by decide +kernel
theorem dX1_testAt_0 : decode cX1_testAt 0 = .ok (.aload_n 0, 1) := by decide +kernel
theorem dX1_testAt_1 : decode cX1_testAt 1 = .ok (.iload_n 1, 1) := by decide +kernel
theorem dX1_testAt_2 : decode cX1_testAt 2 = .ok (.invokevirtual 37, 3) := by decide +kernel
theorem dX1_testAt_5 : decode cX1_testAt 5 = .ok (.ifCond .eq 9, 3) := by decide +kernel
theorem dX1_testAt_8 : decode cX1_testAt 8 = .ok (.iload_n 2, 1) := by decide +kernel
theorem dX1_testAt_9 : decode cX1_testAt 9 = .ok (.bipush 12, 2) := by decide +kernel
theorem dX1_testAt_11 : decode cX1_testAt 11 = .ok (.if_icmp .lt 5, 3) := by decide +kernel
theorem dX1_testAt_14 : decode cX1_testAt 14 = .ok (.iconst 0, 1) := by decide +kernel
theorem dX1_testAt_15 : decode cX1_testAt 15 = .ok (.ireturn, 1) := by decide +kernel
theorem dX1_testAt_16 : decode cX1_testAt 16 = .ok (.aload_n 0, 1) := by decide +kernel
theorem dX1_testAt_17 : decode cX1_testAt 17 = .ok (.getfield 15, 3) := by decide +kernel
theorem dX1_testAt_20 : decode cX1_testAt 20 = .ok (.iload_n 1, 1) := by decide +kernel
theorem dX1_testAt_21 : decode cX1_testAt 21 = .ok (.iaload, 1) := by decide +kernel
theorem dX1_testAt_22 : decode cX1_testAt 22 = .ok (.tableswitch 101 6 9 #[30, 52, 75, 94], 30) := by decide +kernel
theorem dX1_testAt_52 : decode cX1_testAt 52 = .ok (.aload_n 0, 1) := by decide +kernel
theorem dX1_testAt_53 : decode cX1_testAt 53 = .ok (.aload_n 0, 1) := by decide +kernel
theorem dX1_testAt_54 : decode cX1_testAt 54 = .ok (.iload_n 1, 1) := by decide +kernel
theorem dX1_testAt_55 : decode cX1_testAt 55 = .ok (.iconst 0, 1) := by decide +kernel
theorem dX1_testAt_56 : decode cX1_testAt 56 = .ok (.invokevirtual 65, 3) := by decide +kernel
theorem dX1_testAt_59 : decode cX1_testAt 59 = .ok (.iload_n 2, 1) := by decide +kernel
theorem dX1_testAt_60 : decode cX1_testAt 60 = .ok (.iconst 1, 1) := by decide +kernel
theorem dX1_testAt_61 : decode cX1_testAt 61 = .ok (.iadd, 1) := by decide +kernel
theorem dX1_testAt_62 : decode cX1_testAt 62 = .ok (.invokevirtual 73, 3) := by decide +kernel
theorem dX1_testAt_65 : decode cX1_testAt 65 = .ok (.ifCond .ne 7, 3) := by decide +kernel
theorem dX1_testAt_68 : decode cX1_testAt 68 = .ok (.iconst 1, 1) := by decide +kernel
theorem dX1_testAt_69 : decode cX1_testAt 69 = .ok (.goto 4, 3) := by decide +kernel
theorem dX1_testAt_72 : decode cX1_testAt 72 = .ok (.iconst 0, 1) := by decide +kernel
theorem dX1_testAt_73 : decode cX1_testAt 73 = .ok (.ireturn, 1) := by decide +kernel
theorem dX1_testAt_74 : decode cX1_testAt 74 = .ok (.aload_n 0, 1) := by decide +kernel
theorem dX1_testAt_75 : decode cX1_testAt 75 = .ok (.aload_n 0, 1) := by decide +kernel
theorem dX1_testAt_76 : decode cX1_testAt 76 = .ok (.iload_n 1, 1) := by decide +kernel
theorem dX1_testAt_77 : decode cX1_testAt 77 = .ok (.iconst 0, 1) := by decide +kernel
theorem dX1_testAt_78 : decode cX1_testAt 78 = .ok (.invokevirtual 65, 3) := by decide +kernel
theorem dX1_testAt_81 : decode cX1_testAt 81 = .ok (.iload_n 2, 1) := by decide +kernel
theorem dX1_testAt_82 : decode cX1_testAt 82 = .ok (.iconst 1, 1) := by decide +kernel
theorem dX1_testAt_83 : decode cX1_testAt 83 = .ok (.iadd, 1) := by decide +kernel
theorem dX1_testAt_84 : decode cX1_testAt 84 = .ok (.invokevirtual 41, 3) := by decide +kernel
theorem dX1_testAt_87 : decode cX1_testAt 87 = .ok (.iconst (-1), 1) := by decide +kernel
theorem dX1_testAt_88 : decode cX1_testAt 88 = .ok (.if_icmp .ne 7, 3) := by decide +kernel
theorem dX1_testAt_91 : decode cX1_testAt 91 = .ok (.iconst 1, 1) := by decide +kernel
theorem dX1_testAt_92 : decode cX1_testAt 92 = .ok (.goto 4, 3) := by decide +kernel
theorem dX1_testAt_95 : decode cX1_testAt 95 = .ok (.iconst 0, 1) := by decide +kernel
theorem dX1_testAt_96 : decode cX1_testAt 96 = .ok (.ireturn, 1) := by decide +kernel
theorem dX1_testAt_97 : decode cX1_testAt 97 = .ok (.aload_n 0, 1) := by decide +kernel
theorem dX1_testAt_98 : decode cX1_testAt 98 = .ok (.getfield 34, 3) := by decide +kernel
theorem dX1_testAt_101 : decode cX1_testAt 101 = .ok (.aload_n 0, 1) := by decide +kernel
theorem dX1_testAt_102 : decode cX1_testAt 102 = .ok (.getfield 19, 3) := by decide +kernel
theorem dX1_testAt_105 : decode cX1_testAt 105 = .ok (.iload_n 1, 1) := by decide +kernel
theorem dX1_testAt_106 : decode cX1_testAt 106 = .ok (.iaload, 1) := by decide +kernel
theorem dX1_testAt_107 : decode cX1_testAt 107 = .ok (.if_icmp .ne 7, 3) := by decide +kernel
theorem dX1_testAt_110 : decode cX1_testAt 110 = .ok (.iconst 1, 1) := by decide +kernel
theorem dX1_testAt_111 : decode cX1_testAt 111 = .ok (.goto 4, 3) := by decide +kernel
theorem dX1_testAt_114 : decode cX1_testAt 114 = .ok (.iconst 0, 1) := by decide +kernel
theorem dX1_testAt_115 : decode cX1_testAt 115 = .ok (.ireturn, 1) := by decide +kernel
theorem dX1_testAt_116 : decode cX1_testAt 116 = .ok (.aload_n 0, 1) := by decide +kernel
theorem dX1_testAt_117 : decode cX1_testAt 117 = .ok (.iload_n 1, 1) := by decide +kernel
theorem dX1_testAt_118 : decode cX1_testAt 118 = .ok (.iload_n 2, 1) := by decide +kernel
theorem dX1_testAt_119 : decode cX1_testAt 119 = .ok (.invokevirtual 77, 3) := by decide +kernel
theorem dX1_testAt_122 : decode cX1_testAt 122 = .ok (.ireturn, 1) := by decide +kernel
theorem dX1_testAt_123 : decode cX1_testAt 123 = .ok (.iconst 0, 1) := by decide +kernel
theorem dX1_testAt_124 : decode cX1_testAt 124 = .ok (.ireturn, 1) := by decide +kernel
theorem dX1_isBefore_0 : decode cX1_isBefore 0 = .ok (.aload_n 0, 1) := by decide +kernel
theorem dX1_isBefore_1 : decode cX1_isBefore 1 = .ok (.aload_n 0, 1) := by decide +kernel
theorem dX1_isBefore_2 : decode cX1_isBefore 2 = .ok (.iload_n 1, 1) := by decide +kernel
theorem dX1_isBefore_3 : decode cX1_isBefore 3 = .ok (.iconst 0, 1) := by decide +kernel
theorem dX1_isBefore_4 : decode cX1_isBefore 4 = .ok (.invokevirtual 65, 3) := by decide +kernel
theorem dX1_isBefore_7 : decode cX1_isBefore 7 = .ok (.iload_n 2, 1) := by decide +kernel
theorem dX1_isBefore_8 : decode cX1_isBefore 8 = .ok (.iconst 1, 1) := by decide +kernel
theorem dX1_isBefore_9 : decode cX1_isBefore 9 = .ok (.iadd, 1) := by decide +kernel
theorem dX1_isBefore_10 : decode cX1_isBefore 10 = .ok (.invokevirtual 41, 3) := by decide +kernel
theorem dX1_isBefore_13 : decode cX1_isBefore 13 = .ok (.istore_n 3, 1) := by decide +kernel
theorem dX1_isBefore_14 : decode cX1_isBefore 14 = .ok (.aload_n 0, 1) := by decide +kernel
theorem dX1_isBefore_15 : decode cX1_isBefore 15 = .ok (.aload_n 0, 1) := by decide +kernel
theorem dX1_isBefore_16 : decode cX1_isBefore 16 = .ok (.iload_n 1, 1) := by decide +kernel
theorem dX1_isBefore_17 : decode cX1_isBefore 17 = .ok (.iconst 1, 1) := by decide +kernel
theorem dX1_isBefore_18 : decode cX1_isBefore 18 = .ok (.invokevirtual 65, 3) := by decide +kernel
theorem dX1_isBefore_21 : decode cX1_isBefore 21 = .ok (.iload_n 2, 1) := by decide +kernel
theorem dX1_isBefore_22 : decode cX1_isBefore 22 = .ok (.iconst 1, 1) := by decide +kernel
theorem dX1_isBefore_23 : decode cX1_isBefore 23 = .ok (.iadd, 1) := by decide +kernel
theorem dX1_isBefore_24 : decode cX1_isBefore 24 = .ok (.invokevirtual 41, 3) := by decide +kernel
theorem dX1_isBefore_27 : decode cX1_isBefore 27 = .ok (.istore 4, 2) := by decide +kernel
theorem dX1_isBefore_29 : decode cX1_isBefore 29 = .ok (.iload_n 3, 1) := by decide +kernel
theorem dX1_isBefore_30 : decode cX1_isBefore 30 = .ok (.iconst (-1), 1) := by decide +kernel
theorem dX1_isBefore_31 : decode cX1_isBefore 31 = .ok (.if_icmp .eq 19, 3) := by decide +kernel
theorem dX1_isBefore_34 : decode cX1_isBefore 34 = .ok (.iload 4, 2) := by decide +kernel
theorem dX1_isBefore_36 : decode cX1_isBefore 36 = .ok (.iconst (-1), 1) := by decide +kernel
theorem dX1_isBefore_37 : decode cX1_isBefore 37 = .ok (.if_icmp .eq 13, 3) := by decide +kernel
theorem dX1_isBefore_40 : decode cX1_isBefore 40 = .ok (.iload_n 3, 1) := by decide +kernel
theorem dX1_isBefore_41 : decode cX1_isBefore 41 = .ok (.iload 4, 2) := by decide +kernel
theorem dX1_isBefore_43 : decode cX1_isBefore 43 = .ok (.if_icmp .ge 7, 3) := by decide +kernel
theorem dX1_isBefore_46 : decode cX1_isBefore 46 = .ok (.iconst 1, 1) := by decide +kernel
theorem dX1_isBefore_47 : decode cX1_isBefore 47 = .ok (.goto 4, 3) := by decide +kernel
theorem dX1_isBefore_50 : decode cX1_isBefore 50 = .ok (.iconst 0, 1) := by decide +kernel
theorem dX1_isBefore_51 : decode cX1_isBefore 51 = .ok (.ireturn, 1) := by decide +kernel
theorem dX2_init_0 : decode cX2_init 0 = .ok (.aload_n 0, 1) := by decide +kernel
theorem dX2_init_1 : decode cX2_init 1 = .ok (.invokespecial 3, 3) := by decide +kernel
theorem dX2_init_4 : decode cX2_init 4 = .ok (.aload_n 0, 1) := by decide +kernel
theorem dX2_init_5 : decode cX2_init 5 = .ok (.aconst_null, 1) := by decide +kernel
theorem dX2_init_6 : decode cX2_init 6 = .ok (.putfield 9, 3) := by decide +kernel
theorem dX2_init_9 : decode cX2_init 9 = .ok (.aload_n 0, 1) := by decide +kernel
theorem dX2_init_10 : decode cX2_init 10 = .ok (.aconst_null, 1) := by decide +kernel
theorem dX2_init_11 : decode cX2_init 11 = .ok (.putfield 15, 3) := by decide +kernel
theorem dX2_init_14 : decode cX2_init 14 = .ok (.aload_n 0, 1) := by decide +kernel
theorem dX2_init_15 : decode cX2_init 15 = .ok (.iconst 0, 1) := by decide +kernel
theorem dX2_init_16 : decode cX2_init 16 = .ok (.putfield 19, 3) := by decide +kernel
theorem dX2_init_19 : decode cX2_init 19 = .ok (.return_, 1) := by decide +kernel
theorem dX2_readInto_0 : decode cX2_readInto 0 = .ok (.aload_n 1, 1) := by decide +kernel
theorem dX2_readInto_1 : decode cX2_readInto 1 = .ok (.ifnull 7, 3) := by decide +kernel
theorem dX2_readInto_4 : decode cX2_readInto 4 = .ok (.aload_n 2, 1) := by decide +kernel
theorem dX2_readInto_5 : decode cX2_readInto 5 = .ok (.ifnonnull 5, 3) := by decide +kernel
theorem dX2_readInto_8 : decode cX2_readInto 8 = .ok (.iconst 0, 1) := by decide +kernel
theorem dX2_readInto_9 : decode cX2_readInto 9 = .ok (.ireturn, 1) := by decide +kernel
theorem dX2_readInto_10 : decode cX2_readInto 10 = .ok (.aload_n 0, 1) := by decide +kernel
theorem dX2_readInto_11 : decode cX2_readInto 11 = .ok (.aload_n 1, 1) := by decide +kernel
theorem dX2_readInto_12 : decode cX2_readInto 12 = .ok (.putfield 15, 3) := by decide +kernel
theorem dX2_readInto_15 : decode cX2_readInto 15 = .ok (.aload_n 0, 1) := by decide +kernel
theorem dX2_readInto_16 : decode cX2_readInto 16 = .ok (.aload_n 2, 1) := by decide +kernel
theorem dX2_readInto_17 : decode cX2_readInto 17 = .ok (.putfield 9, 3) := by decide +kernel
theorem dX2_readInto_20 : decode cX2_readInto 20 = .ok (.aload_n 0, 1) := by decide +kernel
theorem dX2_readInto_21 : decode cX2_readInto 21 = .ok (.iload_n 3, 1) := by decide +kernel
theorem dX2_readInto_22 : decode cX2_readInto 22 = .ok (.putfield 19, 3) := by decide +kernel
theorem dX2_readInto_25 : decode cX2_readInto 25 = .ok (.aload_n 0, 1) := by decide +kernel
theorem dX2_readInto_26 : decode cX2_readInto 26 = .ok (.getfield 15, 3) := by decide +kernel
theorem dX2_readInto_29 : decode cX2_readInto 29 = .ok (.invokevirtual 23, 3) := by decide +kernel
theorem dX2_readInto_32 : decode cX2_readInto 32 = .ok (.aload_n 0, 1) := by decide +kernel
theorem dX2_readInto_33 : decode cX2_readInto 33 = .ok (.iconst 0, 1) := by decide +kernel
theorem dX2_readInto_34 : decode cX2_readInto 34 = .ok (.invokevirtual 28, 3) := by decide +kernel
theorem dX2_readInto_37 : decode cX2_readInto 37 = .ok (.iconst (-1), 1) := by decide +kernel
theorem dX2_readInto_38 : decode cX2_readInto 38 = .ok (.if_icmp .ne 5, 3) := by decide +kernel
theorem dX2_readInto_41 : decode cX2_readInto 41 = .ok (.iconst 0, 1) := by decide +kernel
theorem dX2_readInto_42 : decode cX2_readInto 42 = .ok (.ireturn, 1) := by decide +kernel
theorem dX2_readInto_43 : decode cX2_readInto 43 = .ok (.aload_n 0, 1) := by decide +kernel
theorem dX2_readInto_44 : decode cX2_readInto 44 = .ok (.getfield 9, 3) := by decide +kernel
theorem dX2_readInto_47 : decode cX2_readInto 47 = .ok (.invokevirtual 32, 3) := by decide +kernel
theorem dX2_readInto_50 : decode cX2_readInto 50 = .ok (.ifCond .ne 14, 3) := by decide +kernel
theorem dX2_readInto_53 : decode cX2_readInto 53 = .ok (.aload_n 0, 1) := by decide +kernel
theorem dX2_readInto_54 : decode cX2_readInto 54 = .ok (.getfield 9, 3) := by decide +kernel
theorem dX2_readInto_57 : decode cX2_readInto 57 = .ok (.iconst 1, 1) := by decide +kernel
theorem dX2_readInto_58 : decode cX2_readInto 58 = .ok (.invokevirtual 38, 3) := by decide +kernel
theorem dX2_readInto_61 : decode cX2_readInto 61 = .ok (.ifCond .eq 7, 3) := by decide +kernel
theorem dX2_readInto_64 : decode cX2_readInto 64 = .ok (.iconst 1, 1) := by decide +kernel
theorem dX2_readInto_65 : decode cX2_readInto 65 = .ok (.goto 4, 3) := by decide +kernel
theorem dX2_readInto_68 : decode cX2_readInto 68 = .ok (.iconst 0, 1) := by decide +kernel
theorem dX2_readInto_69 : decode cX2_readInto 69 = .ok (.ireturn, 1) := by decide +kernel
theorem dX2_canBegin_0 : decode cX2_canBegin 0 = .ok (.aload_n 0, 1) := by decide +kernel
theorem dX2_canBegin_1 : decode cX2_canBegin 1 = .ok (.getfield 9, 3) := by decide +kernel
theorem dX2_canBegin_4 : decode cX2_canBegin 4 = .ok (.invokevirtual 42, 3) := by decide +kernel
theorem dX2_canBegin_7 : decode cX2_canBegin 7 = .ok (.ifCond .ne 12, 3) := by decide +kernel
theorem dX2_canBegin_10 : decode cX2_canBegin 10 = .ok (.aload_n 0, 1) := by decide +kernel
theorem dX2_canBegin_11 : decode cX2_canBegin 11 = .ok (.getfield 9, 3) := by decide +kernel
theorem dX2_canBegin_14 : decode cX2_canBegin 14 = .ok (.iconst 1, 1) := by decide +kernel
theorem dX2_canBegin_15 : decode cX2_canBegin 15 = .ok (.invokevirtual 38, 3) := by decide +kernel
theorem dX2_canBegin_18 : decode cX2_canBegin 18 = .ok (.ireturn, 1) := by decide +kernel
theorem dX2_canBegin_19 : decode cX2_canBegin 19 = .ok (.iload_n 1, 1) := by decide +kernel
theorem dX2_canBegin_20 : decode cX2_canBegin 20 = .ok (.bipush 12, 2) := by decide +kernel
theorem dX2_canBegin_22 : decode cX2_canBegin 22 = .ok (.if_icmp .lt 14, 3) := by decide +kernel
theorem dX2_canBegin_25 : decode cX2_canBegin 25 = .ok (.aload_n 0, 1) := by decide +kernel
theorem dX2_canBegin_26 : decode cX2_canBegin 26 = .ok (.getfield 9, 3) := by decide +kernel
theorem dX2_canBegin_29 : decode cX2_canBegin 29 = .ok (.iconst 2, 1) := by decide +kernel
theorem dX2_canBegin_30 : decode cX2_canBegin 30 = .ok (.invokevirtual 38, 3) := by decide +kernel
theorem dX2_canBegin_33 : decode cX2_canBegin 33 = .ok (.ifCond .eq 7, 3) := by decide +kernel
theorem dX2_canBegin_36 : decode cX2_canBegin 36 = .ok (.iconst 1, 1) := by decide +kernel
theorem dX2_canBegin_37 : decode cX2_canBegin 37 = .ok (.goto 4, 3) := by decide +kernel
theorem dX2_canBegin_40 : decode cX2_canBegin 40 = .ok (.iconst 0, 1) := by decide +kernel
theorem dX2_canBegin_41 : decode cX2_canBegin 41 = .ok (.ireturn, 1) := by decide +kernel
theorem dX2_readTime_0 : decode cX2_readTime 0 = .ok (.aload_n 0, 1) := by decide +kernel
theorem dX2_readTime_1 : decode cX2_readTime 1 = .ok (.iload_n 1, 1) := by decide +kernel
theorem dX2_readTime_2 : decode cX2_readTime 2 = .ok (.invokevirtual 45, 3) := by decide +kernel
theorem dX2_readTime_5 : decode cX2_readTime 5 = .ok (.ifCond .ne 5, 3) := by decide +kernel
theorem dX2_readTime_8 : decode cX2_readTime 8 = .ok (.iconst (-1), 1) := by decide +kernel
theorem dX2_readTime_9 : decode cX2_readTime 9 = .ok (.ireturn, 1) := by decide +kernel
theorem dX2_readTime_10 : decode cX2_readTime 10 = .ok (.aload_n 0, 1) := by decide +kernel
theorem dX2_readTime_11 : decode cX2_readTime 11 = .ok (.getfield 9, 3) := by decide +kernel
theorem dX2_readTime_14 : decode cX2_readTime 14 = .ok (.ldc 48, 2) := by decide +kernel
theorem dX2_readTime_16 : decode cX2_readTime 16 = .ok (.invokevirtual 50, 3) := by decide +kernel
theorem dX2_readTime_19 : decode cX2_readTime 19 = .ok (.ifCond .eq 8, 3) := by decide +kernel
theorem dX2_readTime_22 : decode cX2_readTime 22 = .ok (.aload_n 0, 1) := by decide +kernel
theorem dX2_readTime_23 : decode cX2_readTime 23 = .ok (.invokevirtual 54, 3) := by decide +kernel
theorem dX2_readTime_26 : decode cX2_readTime 26 = .ok (.ireturn, 1) := by decide +kernel
theorem dX2_readTime_27 : decode cX2_readTime 27 = .ok (.aload_n 0, 1) := by decide +kernel
theorem dX2_readTime_28 : decode cX2_readTime 28 = .ok (.getfield 9, 3) := by decide +kernel
theorem dX2_readTime_31 : decode cX2_readTime 31 = .ok (.ldc 58, 2) := by decide +kernel
theorem dX2_readTime_33 : decode cX2_readTime 33 = .ok (.invokevirtual 50, 3) := by decide +kernel
theorem dX2_readTime_36 : decode cX2_readTime 36 = .ok (.ifCond .eq 8, 3) := by decide +kernel
theorem dX2_readTime_39 : decode cX2_readTime 39 = .ok (.aload_n 0, 1) := by decide +kernel
theorem dX2_readTime_40 : decode cX2_readTime 40 = .ok (.invokevirtual 60, 3) := by decide +kernel
theorem dX2_readTime_43 : decode cX2_readTime 43 = .ok (.ireturn, 1) := by decide +kernel
theorem dX2_readTime_44 : decode cX2_readTime 44 = .ok (.aload_n 0, 1) := by decide +kernel
theorem dX2_readTime_45 : decode cX2_readTime 45 = .ok (.getfield 9, 3) := by decide +kernel
theorem dX2_readTime_48 : decode cX2_readTime 48 = .ok (.ldc 63, 2) := by decide +kernel
theorem dX2_readTime_50 : decode cX2_readTime 50 = .ok (.invokevirtual 50, 3) := by decide +kernel
theorem dX2_readTime_53 : decode cX2_readTime 53 = .ok (.ifCond .eq 9, 3) := by decide +kernel
theorem dX2_readTime_56 : decode cX2_readTime 56 = .ok (.aload_n 0, 1) := by decide +kernel
theorem dX2_readTime_57 : decode cX2_readTime 57 = .ok (.iload_n 1, 1) := by decide +kernel
theorem dX2_readTime_58 : decode cX2_readTime 58 = .ok (.invokevirtual 65, 3) := by decide +kernel
theorem dX2_readTime_61 : decode cX2_readTime 61 = .ok (.ireturn, 1) := by decide +kernel
theorem dX2_readTime_62 : decode cX2_readTime 62 = .ok (.aload_n 0, 1) := by decide +kernel
theorem dX2_readTime_63 : decode cX2_readTime 63 = .ok (.getfield 9, 3) := by decide +kernel
theorem dX2_readTime_66 : decode cX2_readTime 66 = .ok (.ldc 68, 2) := by decide +kernel
theorem dX2_readTime_68 : decode cX2_readTime 68 = .ok (.invokevirtual 50, 3) := by decide +kernel
theorem dX2_readTime_71 : decode cX2_readTime 71 = .ok (.ifCond .eq 10, 3) := by decide +kernel
theorem dX2_readTime_74 : decode cX2_readTime 74 = .ok (.aload_n 0, 1) := by decide +kernel
theorem dX2_readTime_75 : decode cX2_readTime 75 = .ok (.iconst 3, 1) := by decide +kernel
theorem dX2_readTime_76 : decode cX2_readTime 76 = .ok (.iload_n 1, 1) := by decide +kernel
theorem dX2_readTime_77 : decode cX2_readTime 77 = .ok (.invokevirtual 70, 3) := by decide +kernel
theorem dX2_readTime_80 : decode cX2_readTime 80 = .ok (.ireturn, 1) := by decide +kernel
theorem dX2_readTime_81 : decode cX2_readTime 81 = .ok (.aload_n 0, 1) := by decide +kernel
theorem dX2_readTime_82 : decode cX2_readTime 82 = .ok (.getfield 9, 3) := by decide +kernel
theorem dX2_readTime_85 : decode cX2_readTime 85 = .ok (.ldc 74, 2) := by decide +kernel
theorem dX2_readTime_87 : decode cX2_readTime 87 = .ok (.invokevirtual 50, 3) := by decide +kernel
theorem dX2_readTime_90 : decode cX2_readTime 90 = .ok (.ifCond .eq 9, 3) := by decide +kernel
theorem dX2_readTime_93 : decode cX2_readTime 93 = .ok (.aload_n 0, 1) := by decide +kernel
theorem dX2_readTime_94 : decode cX2_readTime 94 = .ok (.iload_n 1, 1) := by decide +kernel
theorem dX2_readTime_95 : decode cX2_readTime 95 = .ok (.invokevirtual 76, 3) := by decide +kernel
theorem dX2_readTime_98 : decode cX2_readTime 98 = .ok (.ireturn, 1) := by decide +kernel
theorem dX2_readTime_99 : decode cX2_readTime 99 = .ok (.aload_n 0, 1) := by decide +kernel
theorem dX2_readTime_100 : decode cX2_readTime 100 = .ok (.getfield 9, 3) := by decide +kernel
theorem dX2_readTime_103 : decode cX2_readTime 103 = .ok (.ldc 79, 2) := by decide +kernel
theorem dX2_readTime_105 : decode cX2_readTime 105 = .ok (.invokevirtual 50, 3) := by decide +kernel
theorem dX2_readTime_108 : decode cX2_readTime 108 = .ok (.ifCond .eq 9, 3) := by decide +kernel
theorem dX2_readTime_111 : decode cX2_readTime 111 = .ok (.aload_n 0, 1) := by decide +kernel
theorem dX2_readTime_112 : decode cX2_readTime 112 = .ok (.iload_n 1, 1) := by decide +kernel
theorem dX2_readTime_113 : decode cX2_readTime 113 = .ok (.invokevirtual 81, 3) := by decide +kernel
theorem dX2_readTime_116 : decode cX2_readTime 116 = .ok (.ireturn, 1) := by decide +kernel
theorem dX2_readTime_117 : decode cX2_readTime 117 = .ok (.aload_n 0, 1) := by decide +kernel
theorem dX2_readTime_118 : decode cX2_readTime 118 = .ok (.getfield 9, 3) := by decide +kernel
theorem dX2_readTime_121 : decode cX2_readTime 121 = .ok (.iconst 4, 1) := by decide +kernel
theorem dX2_readTime_122 : decode cX2_readTime 122 = .ok (.invokevirtual 38, 3) := by decide +kernel
theorem dX2_readTime_125 : decode cX2_readTime 125 = .ok (.pop, 1) := by decide +kernel
theorem dX2_readTime_126 : decode cX2_readTime 126 = .ok (.iconst (-1), 1) := by decide +kernel
theorem dX2_readTime_127 : decode cX2_readTime 127 = .ok (.ireturn, 1) := by decide +kernel
theorem dX2_readTest_0 : decode cX2_readTest 0 = .ok (.aload_n 0, 1) := by decide +kernel
theorem dX2_readTest_1 : decode cX2_readTest 1 = .ok (.iload_n 1, 1) := by decide +kernel
theorem dX2_readTest_2 : decode cX2_readTest 2 = .ok (.invokevirtual 45, 3) := by decide +kernel
theorem dX2_readTest_5 : decode cX2_readTest 5 = .ok (.ifCond .ne 5, 3) := by decide +kernel
theorem dX2_readTest_8 : decode cX2_readTest 8 = .ok (.iconst (-1), 1) := by decide +kernel
theorem dX2_readTest_9 : decode cX2_readTest 9 = .ok (.ireturn, 1) := by decide +kernel
theorem dX2_readTest_10 : decode cX2_readTest 10 = .ok (.aload_n 0, 1) := by decide +kernel
theorem dX2_readTest_11 : decode cX2_readTest 11 = .ok (.getfield 9, 3) := by decide +kernel
theorem dX2_readTest_14 : decode cX2_readTest 14 = .ok (.ldc 84, 2) := by decide +kernel
theorem dX2_readTest_16 : decode cX2_readTest 16 = .ok (.invokevirtual 50, 3) := by decide +kernel
theorem dX2_readTest_19 : decode cX2_readTest 19 = .ok (.ifCond .eq 9, 3) := by decide +kernel
theorem dX2_readTest_22 : decode cX2_readTest 22 = .ok (.aload_n 0, 1) := by decide +kernel
theorem dX2_readTest_23 : decode cX2_readTest 23 = .ok (.iload_n 1, 1) := by decide +kernel
theorem dX2_readTest_24 : decode cX2_readTest 24 = .ok (.invokevirtual 86, 3) := by decide +kernel
theorem dX2_readTest_27 : decode cX2_readTest 27 = .ok (.ireturn, 1) := by decide +kernel
theorem dX2_readTest_28 : decode cX2_readTest 28 = .ok (.aload_n 0, 1) := by decide +kernel
theorem dX2_readTest_29 : decode cX2_readTest 29 = .ok (.getfield 9, 3) := by decide +kernel
theorem dX2_readTest_32 : decode cX2_readTest 32 = .ok (.ldc 89, 2) := by decide +kernel
theorem dX2_readTest_34 : decode cX2_readTest 34 = .ok (.invokevirtual 50, 3) := by decide +kernel
theorem dX2_readTest_37 : decode cX2_readTest 37 = .ok (.ifCond .eq 9, 3) := by decide +kernel
theorem dX2_readTest_40 : decode cX2_readTest 40 = .ok (.aload_n 0, 1) := by decide +kernel
theorem dX2_readTest_41 : decode cX2_readTest 41 = .ok (.iload_n 1, 1) := by decide +kernel
theorem dX2_readTest_42 : decode cX2_readTest 42 = .ok (.invokevirtual 91, 3) := by decide +kernel
theorem dX2_readTest_45 : decode cX2_readTest 45 = .ok (.ireturn, 1) := by decide +kernel
theorem dX2_readTest_46 : decode cX2_readTest 46 = .ok (.aload_n 0, 1) := by decide +kernel
theorem dX2_readTest_47 : decode cX2_readTest 47 = .ok (.getfield 9, 3) := by decide +kernel
theorem dX2_readTest_50 : decode cX2_readTest 50 = .ok (.ldc 94, 2) := by decide +kernel
theorem dX2_readTest_52 : decode cX2_readTest 52 = .ok (.invokevirtual 50, 3) := by decide +kernel
theorem dX2_readTest_55 : decode cX2_readTest 55 = .ok (.ifCond .eq 8, 3) := by decide +kernel
theorem dX2_readTest_58 : decode cX2_readTest 58 = .ok (.aload_n 0, 1) := by decide +kernel
theorem dX2_readTest_59 : decode cX2_readTest 59 = .ok (.invokevirtual 96, 3) := by decide +kernel
theorem dX2_readTest_62 : decode cX2_readTest 62 = .ok (.ireturn, 1) := by decide +kernel
theorem dX2_readTest_63 : decode cX2_readTest 63 = .ok (.aload_n 0, 1) := by decide +kernel
theorem dX2_readTest_64 : decode cX2_readTest 64 = .ok (.getfield 9, 3) := by decide +kernel
theorem dX2_readTest_67 : decode cX2_readTest 67 = .ok (.ldc 99, 2) := by decide +kernel
theorem dX2_readTest_69 : decode cX2_readTest 69 = .ok (.invokevirtual 50, 3) := by decide +kernel
theorem dX2_readTest_72 : decode cX2_readTest 72 = .ok (.ifCond .eq 11, 3) := by decide +kernel
theorem dX2_readTest_75 : decode cX2_readTest 75 = .ok (.aload_n 0, 1) := by decide +kernel
theorem dX2_readTest_76 : decode cX2_readTest 76 = .ok (.bipush 9, 2) := by decide +kernel
theorem dX2_readTest_78 : decode cX2_readTest 78 = .ok (.iload_n 1, 1) := by decide +kernel
theorem dX2_readTest_79 : decode cX2_readTest 79 = .ok (.invokevirtual 70, 3) := by decide +kernel
theorem dX2_readTest_82 : decode cX2_readTest 82 = .ok (.ireturn, 1) := by decide +kernel
theorem dX2_readTest_83 : decode cX2_readTest 83 = .ok (.aload_n 0, 1) := by decide +kernel
theorem dX2_readTest_84 : decode cX2_readTest 84 = .ok (.getfield 9, 3) := by decide +kernel
theorem dX2_readTest_87 : decode cX2_readTest 87 = .ok (.iconst 4, 1) := by decide +kernel
theorem dX2_readTest_88 : decode cX2_readTest 88 = .ok (.invokevirtual 38, 3) := by decide +kernel
theorem dX2_readTest_91 : decode cX2_readTest 91 = .ok (.pop, 1) := by decide +kernel
theorem dX2_readTest_92 : decode cX2_readTest 92 = .ok (.iconst (-1), 1) := by decide +kernel
theorem dX2_readTest_93 : decode cX2_readTest 93 = .ok (.ireturn, 1) := by decide +kernel
theorem dX2_open_0 : decode cX2_open 0 = .ok (.aload_n 0, 1) := by decide +kernel
theorem dX2_open_1 : decode cX2_open 1 = .ok (.getfield 9, 3) := by decide +kernel
theorem dX2_open_4 : decode cX2_open 4 = .ok (.invokevirtual 101, 3) := by decide +kernel
theorem dX2_open_7 : decode cX2_open 7 = .ok (.aload_n 0, 1) := by decide +kernel
theorem dX2_open_8 : decode cX2_open 8 = .ok (.getfield 15, 3) := by decide +kernel
theorem dX2_open_11 : decode cX2_open 11 = .ok (.iload_n 1, 1) := by decide +kernel
theorem dX2_open_12 : decode cX2_open 12 = .ok (.invokevirtual 104, 3) := by decide +kernel
theorem dX2_open_15 : decode cX2_open 15 = .ok (.ireturn, 1) := by decide +kernel
theorem dX2_addPart_0 : decode cX2_addPart 0 = .ok (.iload_n 3, 1) := by decide +kernel
theorem dX2_addPart_1 : decode cX2_addPart 1 = .ok (.iconst (-1), 1) := by decide +kernel
theorem dX2_addPart_2 : decode cX2_addPart 2 = .ok (.if_icmp .ne 5, 3) := by decide +kernel
theorem dX2_addPart_5 : decode cX2_addPart 5 = .ok (.iconst 0, 1) := by decide +kernel
theorem dX2_addPart_6 : decode cX2_addPart 6 = .ok (.ireturn, 1) := by decide +kernel
theorem dX2_addPart_7 : decode cX2_addPart 7 = .ok (.aload_n 0, 1) := by decide +kernel
theorem dX2_addPart_8 : decode cX2_addPart 8 = .ok (.getfield 15, 3) := by decide +kernel
theorem dX2_addPart_11 : decode cX2_addPart 11 = .ok (.iload_n 1, 1) := by decide +kernel
theorem dX2_addPart_12 : decode cX2_addPart 12 = .ok (.iload_n 2, 1) := by decide +kernel
theorem dX2_addPart_13 : decode cX2_addPart 13 = .ok (.iload_n 3, 1) := by decide +kernel
theorem dX2_addPart_14 : decode cX2_addPart 14 = .ok (.invokevirtual 107, 3) := by decide +kernel
theorem dX2_addPart_17 : decode cX2_addPart 17 = .ok (.iconst 1, 1) := by decide +kernel
theorem dX2_addPart_18 : decode cX2_addPart 18 = .ok (.ireturn, 1) := by decide +kernel
theorem dX2_readDial_0 : decode cX2_readDial 0 = .ok (.aload_n 0, 1) := by decide +kernel
theorem dX2_readDial_1 : decode cX2_readDial 1 = .ok (.iconst 0, 1) := by decide +kernel
theorem dX2_readDial_2 : decode cX2_readDial 2 = .ok (.invokevirtual 111, 3) := by decide +kernel
theorem dX2_readDial_5 : decode cX2_readDial 5 = .ok (.istore_n 1, 1) := by decide +kernel
theorem dX2_readDial_6 : decode cX2_readDial 6 = .ok (.aload_n 0, 1) := by decide +kernel
theorem dX2_readDial_7 : decode cX2_readDial 7 = .ok (.getfield 9, 3) := by decide +kernel
theorem dX2_readDial_10 : decode cX2_readDial 10 = .ok (.iconst 0, 1) := by decide +kernel
theorem dX2_readDial_11 : decode cX2_readDial 11 = .ok (.aload_n 0, 1) := by decide +kernel
theorem dX2_readDial_12 : decode cX2_readDial 12 = .ok (.getfield 19, 3) := by decide +kernel
theorem dX2_readDial_15 : decode cX2_readDial 15 = .ok (.iconst 1, 1) := by decide +kernel
theorem dX2_readDial_16 : decode cX2_readDial 16 = .ok (.isub, 1) := by decide +kernel
theorem dX2_readDial_17 : decode cX2_readDial 17 = .ok (.invokevirtual 114, 3) := by decide +kernel
theorem dX2_readDial_20 : decode cX2_readDial 20 = .ok (.ifCond .ne 5, 3) := by decide +kernel
theorem dX2_readDial_23 : decode cX2_readDial 23 = .ok (.iconst (-1), 1) := by decide +kernel
theorem dX2_readDial_24 : decode cX2_readDial 24 = .ok (.ireturn, 1) := by decide +kernel
theorem dX2_readDial_25 : decode cX2_readDial 25 = .ok (.aload_n 0, 1) := by decide +kernel
theorem dX2_readDial_26 : decode cX2_readDial 26 = .ok (.getfield 15, 3) := by decide +kernel
theorem dX2_readDial_29 : decode cX2_readDial 29 = .ok (.iload_n 1, 1) := by decide +kernel
theorem dX2_readDial_30 : decode cX2_readDial 30 = .ok (.aload_n 0, 1) := by decide +kernel
theorem dX2_readDial_31 : decode cX2_readDial 31 = .ok (.getfield 9, 3) := by decide +kernel
theorem dX2_readDial_34 : decode cX2_readDial 34 = .ok (.getfield 118, 3) := by decide +kernel
theorem dX2_readDial_37 : decode cX2_readDial 37 = .ok (.invokevirtual 121, 3) := by decide +kernel
theorem dX2_readDial_40 : decode cX2_readDial 40 = .ok (.iload_n 1, 1) := by decide +kernel
theorem dX2_readDial_41 : decode cX2_readDial 41 = .ok (.ireturn, 1) := by decide +kernel
theorem dX2_readMiddle_0 : decode cX2_readMiddle 0 = .ok (.aload_n 0, 1) := by decide +kernel
theorem dX2_readMiddle_1 : decode cX2_readMiddle 1 = .ok (.iconst 1, 1) := by decide +kernel
theorem dX2_readMiddle_2 : decode cX2_readMiddle 2 = .ok (.invokevirtual 111, 3) := by decide +kernel
theorem dX2_readMiddle_5 : decode cX2_readMiddle 5 = .ok (.istore_n 1, 1) := by decide +kernel
theorem dX2_readMiddle_6 : decode cX2_readMiddle 6 = .ok (.aload_n 0, 1) := by decide +kernel
theorem dX2_readMiddle_7 : decode cX2_readMiddle 7 = .ok (.getfield 9, 3) := by decide +kernel
theorem dX2_readMiddle_10 : decode cX2_readMiddle 10 = .ok (.bipush 40, 2) := by decide +kernel
theorem dX2_readMiddle_12 : decode cX2_readMiddle 12 = .ok (.invokevirtual 125, 3) := by decide +kernel
theorem dX2_readMiddle_15 : decode cX2_readMiddle 15 = .ok (.ifCond .ne 5, 3) := by decide +kernel
theorem dX2_readMiddle_18 : decode cX2_readMiddle 18 = .ok (.iconst (-1), 1) := by decide +kernel
theorem dX2_readMiddle_19 : decode cX2_readMiddle 19 = .ok (.ireturn, 1) := by decide +kernel
theorem dX2_readMiddle_20 : decode cX2_readMiddle 20 = .ok (.aload_n 0, 1) := by decide +kernel
theorem dX2_readMiddle_21 : decode cX2_readMiddle 21 = .ok (.iconst 0, 1) := by decide +kernel
theorem dX2_readMiddle_22 : decode cX2_readMiddle 22 = .ok (.invokevirtual 129, 3) := by decide +kernel
theorem dX2_readMiddle_25 : decode cX2_readMiddle 25 = .ok (.istore_n 2, 1) := by decide +kernel
theorem dX2_readMiddle_26 : decode cX2_readMiddle 26 = .ok (.iconst 0, 1) := by decide +kernel
theorem dX2_readMiddle_27 : decode cX2_readMiddle 27 = .ok (.istore_n 3, 1) := by decide +kernel
theorem dX2_readMiddle_28 : decode cX2_readMiddle 28 = .ok (.iload_n 3, 1) := by decide +kernel
theorem dX2_readMiddle_29 : decode cX2_readMiddle 29 = .ok (.bipush 9, 2) := by decide +kernel
theorem dX2_readMiddle_31 : decode cX2_readMiddle 31 = .ok (.if_icmp .ge 39, 3) := by decide +kernel
theorem dX2_readMiddle_34 : decode cX2_readMiddle 34 = .ok (.iload_n 2, 1) := by decide +kernel
theorem dX2_readMiddle_35 : decode cX2_readMiddle 35 = .ok (.iconst (-1), 1) := by decide +kernel
theorem dX2_readMiddle_36 : decode cX2_readMiddle 36 = .ok (.if_icmp .eq 34, 3) := by decide +kernel
theorem dX2_readMiddle_39 : decode cX2_readMiddle 39 = .ok (.aload_n 0, 1) := by decide +kernel
theorem dX2_readMiddle_40 : decode cX2_readMiddle 40 = .ok (.getfield 9, 3) := by decide +kernel
theorem dX2_readMiddle_43 : decode cX2_readMiddle 43 = .ok (.bipush 44, 2) := by decide +kernel
theorem dX2_readMiddle_45 : decode cX2_readMiddle 45 = .ok (.invokevirtual 132, 3) := by decide +kernel
theorem dX2_readMiddle_48 : decode cX2_readMiddle 48 = .ok (.ifCond .eq 22, 3) := by decide +kernel
theorem dX2_readMiddle_51 : decode cX2_readMiddle 51 = .ok (.aload_n 0, 1) := by decide +kernel
theorem dX2_readMiddle_52 : decode cX2_readMiddle 52 = .ok (.getfield 9, 3) := by decide +kernel
theorem dX2_readMiddle_55 : decode cX2_readMiddle 55 = .ok (.invokevirtual 101, 3) := by decide +kernel
theorem dX2_readMiddle_58 : decode cX2_readMiddle 58 = .ok (.aload_n 0, 1) := by decide +kernel
theorem dX2_readMiddle_59 : decode cX2_readMiddle 59 = .ok (.iload_n 2, 1) := by decide +kernel
theorem dX2_readMiddle_60 : decode cX2_readMiddle 60 = .ok (.invokevirtual 129, 3) := by decide +kernel
theorem dX2_readMiddle_63 : decode cX2_readMiddle 63 = .ok (.istore_n 2, 1) := by decide +kernel
theorem dX2_readMiddle_64 : decode cX2_readMiddle 64 = .ok (.iinc 3 1, 3) := by decide +kernel
theorem dX2_readMiddle_67 : decode cX2_readMiddle 67 = .ok (.goto (-39), 3) := by decide +kernel
theorem dX2_readMiddle_70 : decode cX2_readMiddle 70 = .ok (.iload_n 2, 1) := by decide +kernel
theorem dX2_readMiddle_71 : decode cX2_readMiddle 71 = .ok (.iconst (-1), 1) := by decide +kernel
theorem dX2_readMiddle_72 : decode cX2_readMiddle 72 = .ok (.if_icmp .eq 15, 3) := by decide +kernel
theorem dX2_readMiddle_75 : decode cX2_readMiddle 75 = .ok (.aload_n 0, 1) := by decide +kernel
theorem dX2_readMiddle_76 : decode cX2_readMiddle 76 = .ok (.getfield 9, 3) := by decide +kernel
theorem dX2_readMiddle_79 : decode cX2_readMiddle 79 = .ok (.bipush 41, 2) := by decide +kernel
theorem dX2_readMiddle_81 : decode cX2_readMiddle 81 = .ok (.invokevirtual 125, 3) := by decide +kernel
theorem dX2_readMiddle_84 : decode cX2_readMiddle 84 = .ok (.ifCond .ne 5, 3) := by decide +kernel
theorem dX2_readMiddle_87 : decode cX2_readMiddle 87 = .ok (.iconst (-1), 1) := by decide +kernel
theorem dX2_readMiddle_88 : decode cX2_readMiddle 88 = .ok (.ireturn, 1) := by decide +kernel
theorem dX2_readMiddle_89 : decode cX2_readMiddle 89 = .ok (.aload_n 0, 1) := by decide +kernel
theorem dX2_readMiddle_90 : decode cX2_readMiddle 90 = .ok (.getfield 15, 3) := by decide +kernel
theorem dX2_readMiddle_93 : decode cX2_readMiddle 93 = .ok (.iload_n 1, 1) := by decide +kernel
theorem dX2_readMiddle_94 : decode cX2_readMiddle 94 = .ok (.iload_n 2, 1) := by decide +kernel
theorem dX2_readMiddle_95 : decode cX2_readMiddle 95 = .ok (.invokevirtual 121, 3) := by decide +kernel
theorem dX2_readMiddle_98 : decode cX2_readMiddle 98 = .ok (.iload_n 1, 1) := by decide +kernel
theorem dX2_readMiddle_99 : decode cX2_readMiddle 99 = .ok (.ireturn, 1) := by decide +kernel
theorem dX2_takeOther_0 : decode cX2_takeOther 0 = .ok (.aload_n 0, 1) := by decide +kernel
theorem dX2_takeOther_1 : decode cX2_takeOther 1 = .ok (.getfield 9, 3) := by decide +kernel
theorem dX2_takeOther_4 : decode cX2_takeOther 4 = .ok (.iconst 0, 1) := by decide +kernel
theorem dX2_takeOther_5 : decode cX2_takeOther 5 = .ok (.aload_n 0, 1) := by decide +kernel
theorem dX2_takeOther_6 : decode cX2_takeOther 6 = .ok (.getfield 19, 3) := by decide +kernel
theorem dX2_takeOther_9 : decode cX2_takeOther 9 = .ok (.iconst 1, 1) := by decide +kernel
theorem dX2_takeOther_10 : decode cX2_takeOther 10 = .ok (.isub, 1) := by decide +kernel
theorem dX2_takeOther_11 : decode cX2_takeOther 11 = .ok (.invokevirtual 135, 3) := by decide +kernel
theorem dX2_takeOther_14 : decode cX2_takeOther 14 = .ok (.ifCond .ne 5, 3) := by decide +kernel
theorem dX2_takeOther_17 : decode cX2_takeOther 17 = .ok (.iconst (-1), 1) := by decide +kernel
theorem dX2_takeOther_18 : decode cX2_takeOther 18 = .ok (.ireturn, 1) := by decide +kernel
theorem dX2_takeOther_19 : decode cX2_takeOther 19 = .ok (.iconst 1, 1) := by decide +kernel
theorem dX2_takeOther_20 : decode cX2_takeOther 20 = .ok (.aload_n 0, 1) := by decide +kernel
theorem dX2_takeOther_21 : decode cX2_takeOther 21 = .ok (.getfield 9, 3) := by decide +kernel
theorem dX2_takeOther_24 : decode cX2_takeOther 24 = .ok (.getfield 118, 3) := by decide +kernel
theorem dX2_takeOther_27 : decode cX2_takeOther 27 = .ok (.ishl, 1) := by decide +kernel
theorem dX2_takeOther_28 : decode cX2_takeOther 28 = .ok (.istore_n 2, 1) := by decide +kernel
theorem dX2_takeOther_29 : decode cX2_takeOther 29 = .ok (.iload_n 1, 1) := by decide +kernel
theorem dX2_takeOther_30 : decode cX2_takeOther 30 = .ok (.iload_n 2, 1) := by decide +kernel
theorem dX2_takeOther_31 : decode cX2_takeOther 31 = .ok (.iand, 1) := by decide +kernel
theorem dX2_takeOther_32 : decode cX2_takeOther 32 = .ok (.ifCond .eq 14, 3) := by decide +kernel
theorem dX2_takeOther_35 : decode cX2_takeOther 35 = .ok (.aload_n 0, 1) := by decide +kernel
theorem dX2_takeOther_36 : decode cX2_takeOther 36 = .ok (.getfield 9, 3) := by decide +kernel
theorem dX2_takeOther_39 : decode cX2_takeOther 39 = .ok (.iconst 3, 1) := by decide +kernel
theorem dX2_takeOther_40 : decode cX2_takeOther 40 = .ok (.invokevirtual 38, 3) := by decide +kernel
theorem dX2_takeOther_43 : decode cX2_takeOther 43 = .ok (.pop, 1) := by decide +kernel
theorem dX2_takeOther_44 : decode cX2_takeOther 44 = .ok (.iconst (-1), 1) := by decide +kernel
theorem dX2_takeOther_45 : decode cX2_takeOther 45 = .ok (.ireturn, 1) := by decide +kernel
theorem dX2_takeOther_46 : decode cX2_takeOther 46 = .ok (.aload_n 0, 1) := by decide +kernel
theorem dX2_takeOther_47 : decode cX2_takeOther 47 = .ok (.getfield 9, 3) := by decide +kernel
theorem dX2_takeOther_50 : decode cX2_takeOther 50 = .ok (.invokevirtual 101, 3) := by decide +kernel
theorem dX2_takeOther_53 : decode cX2_takeOther 53 = .ok (.iload_n 1, 1) := by decide +kernel
theorem dX2_takeOther_54 : decode cX2_takeOther 54 = .ok (.iload_n 2, 1) := by decide +kernel
theorem dX2_takeOther_55 : decode cX2_takeOther 55 = .ok (.ior, 1) := by decide +kernel
theorem dX2_takeOther_56 : decode cX2_takeOther 56 = .ok (.ireturn, 1) := by decide +kernel
theorem dX2_readFirst_0 : decode cX2_readFirst 0 = .ok (.aload_n 0, 1) := by decide +kernel
theorem dX2_readFirst_1 : decode cX2_readFirst 1 = .ok (.iconst 2, 1) := by decide +kernel
theorem dX2_readFirst_2 : decode cX2_readFirst 2 = .ok (.invokevirtual 111, 3) := by decide +kernel
theorem dX2_readFirst_5 : decode cX2_readFirst 5 = .ok (.istore_n 2, 1) := by decide +kernel
theorem dX2_readFirst_6 : decode cX2_readFirst 6 = .ok (.aload_n 0, 1) := by decide +kernel
theorem dX2_readFirst_7 : decode cX2_readFirst 7 = .ok (.getfield 9, 3) := by decide +kernel
theorem dX2_readFirst_10 : decode cX2_readFirst 10 = .ok (.bipush 40, 2) := by decide +kernel
theorem dX2_readFirst_12 : decode cX2_readFirst 12 = .ok (.invokevirtual 125, 3) := by decide +kernel
theorem dX2_readFirst_15 : decode cX2_readFirst 15 = .ok (.ifCond .ne 5, 3) := by decide +kernel
theorem dX2_readFirst_18 : decode cX2_readFirst 18 = .ok (.iconst (-1), 1) := by decide +kernel
theorem dX2_readFirst_19 : decode cX2_readFirst 19 = .ok (.ireturn, 1) := by decide +kernel
theorem dX2_readFirst_20 : decode cX2_readFirst 20 = .ok (.aload_n 0, 1) := by decide +kernel
theorem dX2_readFirst_21 : decode cX2_readFirst 21 = .ok (.iload_n 1, 1) := by decide +kernel
theorem dX2_readFirst_22 : decode cX2_readFirst 22 = .ok (.iconst 1, 1) := by decide +kernel
theorem dX2_readFirst_23 : decode cX2_readFirst 23 = .ok (.iadd, 1) := by decide +kernel
theorem dX2_readFirst_24 : decode cX2_readFirst 24 = .ok (.invokevirtual 28, 3) := by decide +kernel
theorem dX2_readFirst_27 : decode cX2_readFirst 27 = .ok (.istore_n 3, 1) := by decide +kernel
theorem dX2_readFirst_28 : decode cX2_readFirst 28 = .ok (.aload_n 0, 1) := by decide +kernel
theorem dX2_readFirst_29 : decode cX2_readFirst 29 = .ok (.iload_n 2, 1) := by decide +kernel
theorem dX2_readFirst_30 : decode cX2_readFirst 30 = .ok (.iconst (-1), 1) := by decide +kernel
theorem dX2_readFirst_31 : decode cX2_readFirst 31 = .ok (.iload_n 3, 1) := by decide +kernel
theorem dX2_readFirst_32 : decode cX2_readFirst 32 = .ok (.invokevirtual 138, 3) := by decide +kernel
theorem dX2_readFirst_35 : decode cX2_readFirst 35 = .ok (.ifCond .ne 5, 3) := by decide +kernel
theorem dX2_readFirst_38 : decode cX2_readFirst 38 = .ok (.iconst (-1), 1) := by decide +kernel
theorem dX2_readFirst_39 : decode cX2_readFirst 39 = .ok (.ireturn, 1) := by decide +kernel
theorem dX2_readFirst_40 : decode cX2_readFirst 40 = .ok (.iconst 0, 1) := by decide +kernel
theorem dX2_readFirst_41 : decode cX2_readFirst 41 = .ok (.istore 4, 2) := by decide +kernel
theorem dX2_readFirst_43 : decode cX2_readFirst 43 = .ok (.iload 4, 2) := by decide +kernel
theorem dX2_readFirst_45 : decode cX2_readFirst 45 = .ok (.sipush 700, 3) := by decide +kernel
theorem dX2_readFirst_48 : decode cX2_readFirst 48 = .ok (.if_icmp .ge 53, 3) := by decide +kernel
theorem dX2_readFirst_51 : decode cX2_readFirst 51 = .ok (.aload_n 0, 1) := by decide +kernel
theorem dX2_readFirst_52 : decode cX2_readFirst 52 = .ok (.getfield 9, 3) := by decide +kernel
theorem dX2_readFirst_55 : decode cX2_readFirst 55 = .ok (.bipush 44, 2) := by decide +kernel
theorem dX2_readFirst_57 : decode cX2_readFirst 57 = .ok (.invokevirtual 132, 3) := by decide +kernel
theorem dX2_readFirst_60 : decode cX2_readFirst 60 = .ok (.ifCond .eq 41, 3) := by decide +kernel
theorem dX2_readFirst_63 : decode cX2_readFirst 63 = .ok (.aload_n 0, 1) := by decide +kernel
theorem dX2_readFirst_64 : decode cX2_readFirst 64 = .ok (.getfield 9, 3) := by decide +kernel
theorem dX2_readFirst_67 : decode cX2_readFirst 67 = .ok (.invokevirtual 101, 3) := by decide +kernel
theorem dX2_readFirst_70 : decode cX2_readFirst 70 = .ok (.aload_n 0, 1) := by decide +kernel
theorem dX2_readFirst_71 : decode cX2_readFirst 71 = .ok (.iload_n 1, 1) := by decide +kernel
theorem dX2_readFirst_72 : decode cX2_readFirst 72 = .ok (.iconst 1, 1) := by decide +kernel
theorem dX2_readFirst_73 : decode cX2_readFirst 73 = .ok (.iadd, 1) := by decide +kernel
theorem dX2_readFirst_74 : decode cX2_readFirst 74 = .ok (.invokevirtual 28, 3) := by decide +kernel
theorem dX2_readFirst_77 : decode cX2_readFirst 77 = .ok (.istore 5, 2) := by decide +kernel
theorem dX2_readFirst_79 : decode cX2_readFirst 79 = .ok (.aload_n 0, 1) := by decide +kernel
theorem dX2_readFirst_80 : decode cX2_readFirst 80 = .ok (.iload_n 2, 1) := by decide +kernel
theorem dX2_readFirst_81 : decode cX2_readFirst 81 = .ok (.iload_n 3, 1) := by decide +kernel
theorem dX2_readFirst_82 : decode cX2_readFirst 82 = .ok (.iload 5, 2) := by decide +kernel
theorem dX2_readFirst_84 : decode cX2_readFirst 84 = .ok (.invokevirtual 138, 3) := by decide +kernel
theorem dX2_readFirst_87 : decode cX2_readFirst 87 = .ok (.ifCond .ne 5, 3) := by decide +kernel
theorem dX2_readFirst_90 : decode cX2_readFirst 90 = .ok (.iconst (-1), 1) := by decide +kernel
theorem dX2_readFirst_91 : decode cX2_readFirst 91 = .ok (.ireturn, 1) := by decide +kernel
theorem dX2_readFirst_92 : decode cX2_readFirst 92 = .ok (.iload 5, 2) := by decide +kernel
theorem dX2_readFirst_94 : decode cX2_readFirst 94 = .ok (.istore_n 3, 1) := by decide +kernel
theorem dX2_readFirst_95 : decode cX2_readFirst 95 = .ok (.iinc 4 1, 3) := by decide +kernel
theorem dX2_readFirst_98 : decode cX2_readFirst 98 = .ok (.goto (-55), 3) := by decide +kernel
theorem dX2_readFirst_101 : decode cX2_readFirst 101 = .ok (.aload_n 0, 1) := by decide +kernel
theorem dX2_readFirst_102 : decode cX2_readFirst 102 = .ok (.getfield 9, 3) := by decide +kernel
theorem dX2_readFirst_105 : decode cX2_readFirst 105 = .ok (.bipush 41, 2) := by decide +kernel
theorem dX2_readFirst_107 : decode cX2_readFirst 107 = .ok (.invokevirtual 125, 3) := by decide +kernel
theorem dX2_readFirst_110 : decode cX2_readFirst 110 = .ok (.ifCond .eq 7, 3) := by decide +kernel
theorem dX2_readFirst_113 : decode cX2_readFirst 113 = .ok (.iload_n 2, 1) := by decide +kernel
theorem dX2_readFirst_114 : decode cX2_readFirst 114 = .ok (.goto 4, 3) := by decide +kernel
theorem dX2_readFirst_117 : decode cX2_readFirst 117 = .ok (.iconst (-1), 1) := by decide +kernel
theorem dX2_readFirst_118 : decode cX2_readFirst 118 = .ok (.ireturn, 1) := by decide +kernel
theorem dX2_readCouple_0 : decode cX2_readCouple 0 = .ok (.aload_n 0, 1) := by decide +kernel
theorem dX2_readCouple_1 : decode cX2_readCouple 1 = .ok (.iload_n 1, 1) := by decide +kernel
theorem dX2_readCouple_2 : decode cX2_readCouple 2 = .ok (.invokevirtual 111, 3) := by decide +kernel
theorem dX2_readCouple_5 : decode cX2_readCouple 5 = .ok (.istore_n 3, 1) := by decide +kernel
theorem dX2_readCouple_6 : decode cX2_readCouple 6 = .ok (.aload_n 0, 1) := by decide +kernel
theorem dX2_readCouple_7 : decode cX2_readCouple 7 = .ok (.getfield 9, 3) := by decide +kernel
theorem dX2_readCouple_10 : decode cX2_readCouple 10 = .ok (.bipush 40, 2) := by decide +kernel
theorem dX2_readCouple_12 : decode cX2_readCouple 12 = .ok (.invokevirtual 125, 3) := by decide +kernel
theorem dX2_readCouple_15 : decode cX2_readCouple 15 = .ok (.ifCond .ne 5, 3) := by decide +kernel
theorem dX2_readCouple_18 : decode cX2_readCouple 18 = .ok (.iconst (-1), 1) := by decide +kernel
theorem dX2_readCouple_19 : decode cX2_readCouple 19 = .ok (.ireturn, 1) := by decide +kernel
theorem dX2_readCouple_20 : decode cX2_readCouple 20 = .ok (.aload_n 0, 1) := by decide +kernel
theorem dX2_readCouple_21 : decode cX2_readCouple 21 = .ok (.iload_n 2, 1) := by decide +kernel
theorem dX2_readCouple_22 : decode cX2_readCouple 22 = .ok (.iconst 1, 1) := by decide +kernel
theorem dX2_readCouple_23 : decode cX2_readCouple 23 = .ok (.iadd, 1) := by decide +kernel
theorem dX2_readCouple_24 : decode cX2_readCouple 24 = .ok (.invokevirtual 28, 3) := by decide +kernel
theorem dX2_readCouple_27 : decode cX2_readCouple 27 = .ok (.istore 4, 2) := by decide +kernel
theorem dX2_readCouple_29 : decode cX2_readCouple 29 = .ok (.aload_n 0, 1) := by decide +kernel
theorem dX2_readCouple_30 : decode cX2_readCouple 30 = .ok (.iload_n 3, 1) := by decide +kernel
theorem dX2_readCouple_31 : decode cX2_readCouple 31 = .ok (.iconst (-1), 1) := by decide +kernel
theorem dX2_readCouple_32 : decode cX2_readCouple 32 = .ok (.iload 4, 2) := by decide +kernel
theorem dX2_readCouple_34 : decode cX2_readCouple 34 = .ok (.invokevirtual 138, 3) := by decide +kernel
theorem dX2_readCouple_37 : decode cX2_readCouple 37 = .ok (.ifCond .eq 15, 3) := by decide +kernel
theorem dX2_readCouple_40 : decode cX2_readCouple 40 = .ok (.aload_n 0, 1) := by decide +kernel
theorem dX2_readCouple_41 : decode cX2_readCouple 41 = .ok (.getfield 9, 3) := by decide +kernel
theorem dX2_readCouple_44 : decode cX2_readCouple 44 = .ok (.bipush 44, 2) := by decide +kernel
theorem dX2_readCouple_46 : decode cX2_readCouple 46 = .ok (.invokevirtual 125, 3) := by decide +kernel
theorem dX2_readCouple_49 : decode cX2_readCouple 49 = .ok (.ifCond .ne 5, 3) := by decide +kernel
theorem dX2_readCouple_52 : decode cX2_readCouple 52 = .ok (.iconst (-1), 1) := by decide +kernel
theorem dX2_readCouple_53 : decode cX2_readCouple 53 = .ok (.ireturn, 1) := by decide +kernel
theorem dX2_readCouple_54 : decode cX2_readCouple 54 = .ok (.aload_n 0, 1) := by decide +kernel
theorem dX2_readCouple_55 : decode cX2_readCouple 55 = .ok (.iload_n 2, 1) := by decide +kernel
theorem dX2_readCouple_56 : decode cX2_readCouple 56 = .ok (.iconst 1, 1) := by decide +kernel
theorem dX2_readCouple_57 : decode cX2_readCouple 57 = .ok (.iadd, 1) := by decide +kernel
theorem dX2_readCouple_58 : decode cX2_readCouple 58 = .ok (.invokevirtual 28, 3) := by decide +kernel
theorem dX2_readCouple_61 : decode cX2_readCouple 61 = .ok (.istore 5, 2) := by decide +kernel
theorem dX2_readCouple_63 : decode cX2_readCouple 63 = .ok (.aload_n 0, 1) := by decide +kernel
theorem dX2_readCouple_64 : decode cX2_readCouple 64 = .ok (.iload_n 3, 1) := by decide +kernel
theorem dX2_readCouple_65 : decode cX2_readCouple 65 = .ok (.iload 4, 2) := by decide +kernel
theorem dX2_readCouple_67 : decode cX2_readCouple 67 = .ok (.iload 5, 2) := by decide +kernel
theorem dX2_readCouple_69 : decode cX2_readCouple 69 = .ok (.invokevirtual 138, 3) := by decide +kernel
theorem dX2_readCouple_72 : decode cX2_readCouple 72 = .ok (.ifCond .eq 15, 3) := by decide +kernel
theorem dX2_readCouple_75 : decode cX2_readCouple 75 = .ok (.aload_n 0, 1) := by decide +kernel
theorem dX2_readCouple_76 : decode cX2_readCouple 76 = .ok (.getfield 9, 3) := by decide +kernel
theorem dX2_readCouple_79 : decode cX2_readCouple 79 = .ok (.bipush 41, 2) := by decide +kernel
theorem dX2_readCouple_81 : decode cX2_readCouple 81 = .ok (.invokevirtual 125, 3) := by decide +kernel
theorem dX2_readCouple_84 : decode cX2_readCouple 84 = .ok (.ifCond .ne 5, 3) := by decide +kernel
theorem dX2_readCouple_87 : decode cX2_readCouple 87 = .ok (.iconst (-1), 1) := by decide +kernel
theorem dX2_readCouple_88 : decode cX2_readCouple 88 = .ok (.ireturn, 1) := by decide +kernel
theorem dX2_readCouple_89 : decode cX2_readCouple 89 = .ok (.iload_n 3, 1) := by decide +kernel
theorem dX2_readCouple_90 : decode cX2_readCouple 90 = .ok (.ireturn, 1) := by decide +kernel
theorem dX2_readLate_0 : decode cX2_readLate 0 = .ok (.aload_n 0, 1) := by decide +kernel
theorem dX2_readLate_1 : decode cX2_readLate 1 = .ok (.iconst 4, 1) := by decide +kernel
theorem dX2_readLate_2 : decode cX2_readLate 2 = .ok (.invokevirtual 111, 3) := by decide +kernel
theorem dX2_readLate_5 : decode cX2_readLate 5 = .ok (.istore_n 2, 1) := by decide +kernel
theorem dX2_readLate_6 : decode cX2_readLate 6 = .ok (.aload_n 0, 1) := by decide +kernel
theorem dX2_readLate_7 : decode cX2_readLate 7 = .ok (.getfield 9, 3) := by decide +kernel
theorem dX2_readLate_10 : decode cX2_readLate 10 = .ok (.sipush 720, 3) := by decide +kernel
theorem dX2_readLate_13 : decode cX2_readLate 13 = .ok (.invokevirtual 141, 3) := by decide +kernel
theorem dX2_readLate_16 : decode cX2_readLate 16 = .ok (.ifCond .ne 5, 3) := by decide +kernel
theorem dX2_readLate_19 : decode cX2_readLate 19 = .ok (.iconst (-1), 1) := by decide +kernel
theorem dX2_readLate_20 : decode cX2_readLate 20 = .ok (.ireturn, 1) := by decide +kernel
theorem dX2_readLate_21 : decode cX2_readLate 21 = .ok (.aload_n 0, 1) := by decide +kernel
theorem dX2_readLate_22 : decode cX2_readLate 22 = .ok (.getfield 15, 3) := by decide +kernel
theorem dX2_readLate_25 : decode cX2_readLate 25 = .ok (.iload_n 2, 1) := by decide +kernel
theorem dX2_readLate_26 : decode cX2_readLate 26 = .ok (.aload_n 0, 1) := by decide +kernel
theorem dX2_readLate_27 : decode cX2_readLate 27 = .ok (.getfield 9, 3) := by decide +kernel
theorem dX2_readLate_30 : decode cX2_readLate 30 = .ok (.getfield 118, 3) := by decide +kernel
theorem dX2_readLate_33 : decode cX2_readLate 33 = .ok (.invokevirtual 121, 3) := by decide +kernel
theorem dX2_readLate_36 : decode cX2_readLate 36 = .ok (.aload_n 0, 1) := by decide +kernel
theorem dX2_readLate_37 : decode cX2_readLate 37 = .ok (.iload_n 2, 1) := by decide +kernel
theorem dX2_readLate_38 : decode cX2_readLate 38 = .ok (.iconst (-1), 1) := by decide +kernel
theorem dX2_readLate_39 : decode cX2_readLate 39 = .ok (.aload_n 0, 1) := by decide +kernel
theorem dX2_readLate_40 : decode cX2_readLate 40 = .ok (.iload_n 1, 1) := by decide +kernel
theorem dX2_readLate_41 : decode cX2_readLate 41 = .ok (.iconst 1, 1) := by decide +kernel
theorem dX2_readLate_42 : decode cX2_readLate 42 = .ok (.iadd, 1) := by decide +kernel
theorem dX2_readLate_43 : decode cX2_readLate 43 = .ok (.invokevirtual 28, 3) := by decide +kernel
theorem dX2_readLate_46 : decode cX2_readLate 46 = .ok (.invokevirtual 138, 3) := by decide +kernel
theorem dX2_readLate_49 : decode cX2_readLate 49 = .ok (.ifCond .eq 7, 3) := by decide +kernel
theorem dX2_readLate_52 : decode cX2_readLate 52 = .ok (.iload_n 2, 1) := by decide +kernel
theorem dX2_readLate_53 : decode cX2_readLate 53 = .ok (.goto 4, 3) := by decide +kernel
theorem dX2_readLate_56 : decode cX2_readLate 56 = .ok (.iconst (-1), 1) := by decide +kernel
theorem dX2_readLate_57 : decode cX2_readLate 57 = .ok (.ireturn, 1) := by decide +kernel
theorem dX2_readIf_0 : decode cX2_readIf 0 = .ok (.aload_n 0, 1) := by decide +kernel
theorem dX2_readIf_1 : decode cX2_readIf 1 = .ok (.iconst 5, 1) := by decide +kernel
theorem dX2_readIf_2 : decode cX2_readIf 2 = .ok (.invokevirtual 111, 3) := by decide +kernel
theorem dX2_readIf_5 : decode cX2_readIf 5 = .ok (.istore_n 2, 1) := by decide +kernel
theorem dX2_readIf_6 : decode cX2_readIf 6 = .ok (.aload_n 0, 1) := by decide +kernel
theorem dX2_readIf_7 : decode cX2_readIf 7 = .ok (.iload_n 1, 1) := by decide +kernel
theorem dX2_readIf_8 : decode cX2_readIf 8 = .ok (.iconst 1, 1) := by decide +kernel
theorem dX2_readIf_9 : decode cX2_readIf 9 = .ok (.iadd, 1) := by decide +kernel
theorem dX2_readIf_10 : decode cX2_readIf 10 = .ok (.invokevirtual 144, 3) := by decide +kernel
theorem dX2_readIf_13 : decode cX2_readIf 13 = .ok (.istore_n 3, 1) := by decide +kernel
theorem dX2_readIf_14 : decode cX2_readIf 14 = .ok (.aload_n 0, 1) := by decide +kernel
theorem dX2_readIf_15 : decode cX2_readIf 15 = .ok (.iload_n 2, 1) := by decide +kernel
theorem dX2_readIf_16 : decode cX2_readIf 16 = .ok (.iconst (-1), 1) := by decide +kernel
theorem dX2_readIf_17 : decode cX2_readIf 17 = .ok (.iload_n 3, 1) := by decide +kernel
theorem dX2_readIf_18 : decode cX2_readIf 18 = .ok (.invokevirtual 138, 3) := by decide +kernel
theorem dX2_readIf_21 : decode cX2_readIf 21 = .ok (.ifCond .eq 15, 3) := by decide +kernel
theorem dX2_readIf_24 : decode cX2_readIf 24 = .ok (.aload_n 0, 1) := by decide +kernel
theorem dX2_readIf_25 : decode cX2_readIf 25 = .ok (.getfield 9, 3) := by decide +kernel
theorem dX2_readIf_28 : decode cX2_readIf 28 = .ok (.ldc 147, 2) := by decide +kernel
theorem dX2_readIf_30 : decode cX2_readIf 30 = .ok (.invokevirtual 149, 3) := by decide +kernel
theorem dX2_readIf_33 : decode cX2_readIf 33 = .ok (.ifCond .ne 5, 3) := by decide +kernel
theorem dX2_readIf_36 : decode cX2_readIf 36 = .ok (.iconst (-1), 1) := by decide +kernel
theorem dX2_readIf_37 : decode cX2_readIf 37 = .ok (.ireturn, 1) := by decide +kernel
theorem dX2_readIf_38 : decode cX2_readIf 38 = .ok (.aload_n 0, 1) := by decide +kernel
theorem dX2_readIf_39 : decode cX2_readIf 39 = .ok (.iload_n 1, 1) := by decide +kernel
theorem dX2_readIf_40 : decode cX2_readIf 40 = .ok (.iconst 1, 1) := by decide +kernel
theorem dX2_readIf_41 : decode cX2_readIf 41 = .ok (.iadd, 1) := by decide +kernel
theorem dX2_readIf_42 : decode cX2_readIf 42 = .ok (.invokevirtual 28, 3) := by decide +kernel
theorem dX2_readIf_45 : decode cX2_readIf 45 = .ok (.istore 4, 2) := by decide +kernel
theorem dX2_readIf_47 : decode cX2_readIf 47 = .ok (.aload_n 0, 1) := by decide +kernel
theorem dX2_readIf_48 : decode cX2_readIf 48 = .ok (.iload_n 2, 1) := by decide +kernel
theorem dX2_readIf_49 : decode cX2_readIf 49 = .ok (.iload_n 3, 1) := by decide +kernel
theorem dX2_readIf_50 : decode cX2_readIf 50 = .ok (.iload 4, 2) := by decide +kernel
theorem dX2_readIf_52 : decode cX2_readIf 52 = .ok (.invokevirtual 138, 3) := by decide +kernel
theorem dX2_readIf_55 : decode cX2_readIf 55 = .ok (.ifCond .eq 15, 3) := by decide +kernel
theorem dX2_readIf_58 : decode cX2_readIf 58 = .ok (.aload_n 0, 1) := by decide +kernel
theorem dX2_readIf_59 : decode cX2_readIf 59 = .ok (.getfield 9, 3) := by decide +kernel
theorem dX2_readIf_62 : decode cX2_readIf 62 = .ok (.ldc 152, 2) := by decide +kernel
theorem dX2_readIf_64 : decode cX2_readIf 64 = .ok (.invokevirtual 149, 3) := by decide +kernel
theorem dX2_readIf_67 : decode cX2_readIf 67 = .ok (.ifCond .ne 5, 3) := by decide +kernel
theorem dX2_readIf_70 : decode cX2_readIf 70 = .ok (.iconst (-1), 1) := by decide +kernel
theorem dX2_readIf_71 : decode cX2_readIf 71 = .ok (.ireturn, 1) := by decide +kernel
theorem dX2_readIf_72 : decode cX2_readIf 72 = .ok (.aload_n 0, 1) := by decide +kernel
theorem dX2_readIf_73 : decode cX2_readIf 73 = .ok (.iload_n 1, 1) := by decide +kernel
theorem dX2_readIf_74 : decode cX2_readIf 74 = .ok (.iconst 1, 1) := by decide +kernel
theorem dX2_readIf_75 : decode cX2_readIf 75 = .ok (.iadd, 1) := by decide +kernel
theorem dX2_readIf_76 : decode cX2_readIf 76 = .ok (.invokevirtual 28, 3) := by decide +kernel
theorem dX2_readIf_79 : decode cX2_readIf 79 = .ok (.istore 5, 2) := by decide +kernel
theorem dX2_readIf_81 : decode cX2_readIf 81 = .ok (.aload_n 0, 1) := by decide +kernel
theorem dX2_readIf_82 : decode cX2_readIf 82 = .ok (.iload_n 2, 1) := by decide +kernel
theorem dX2_readIf_83 : decode cX2_readIf 83 = .ok (.iload 4, 2) := by decide +kernel
theorem dX2_readIf_85 : decode cX2_readIf 85 = .ok (.iload 5, 2) := by decide +kernel
theorem dX2_readIf_87 : decode cX2_readIf 87 = .ok (.invokevirtual 138, 3) := by decide +kernel
theorem dX2_readIf_90 : decode cX2_readIf 90 = .ok (.ifCond .eq 15, 3) := by decide +kernel
theorem dX2_readIf_93 : decode cX2_readIf 93 = .ok (.aload_n 0, 1) := by decide +kernel
theorem dX2_readIf_94 : decode cX2_readIf 94 = .ok (.getfield 9, 3) := by decide +kernel
theorem dX2_readIf_97 : decode cX2_readIf 97 = .ok (.ldc 154, 2) := by decide +kernel
theorem dX2_readIf_99 : decode cX2_readIf 99 = .ok (.invokevirtual 149, 3) := by decide +kernel
theorem dX2_readIf_102 : decode cX2_readIf 102 = .ok (.ifCond .ne 5, 3) := by decide +kernel
theorem dX2_readIf_105 : decode cX2_readIf 105 = .ok (.iconst (-1), 1) := by decide +kernel
theorem dX2_readIf_106 : decode cX2_readIf 106 = .ok (.ireturn, 1) := by decide +kernel
theorem dX2_readIf_107 : decode cX2_readIf 107 = .ok (.iload_n 2, 1) := by decide +kernel
theorem dX2_readIf_108 : decode cX2_readIf 108 = .ok (.ireturn, 1) := by decide +kernel
theorem dX2_readNot_0 : decode cX2_readNot 0 = .ok (.aload_n 0, 1) := by decide +kernel
theorem dX2_readNot_1 : decode cX2_readNot 1 = .ok (.bipush 6, 2) := by decide +kernel
theorem dX2_readNot_3 : decode cX2_readNot 3 = .ok (.invokevirtual 111, 3) := by decide +kernel
theorem dX2_readNot_6 : decode cX2_readNot 6 = .ok (.istore_n 2, 1) := by decide +kernel
theorem dX2_readNot_7 : decode cX2_readNot 7 = .ok (.aload_n 0, 1) := by decide +kernel
theorem dX2_readNot_8 : decode cX2_readNot 8 = .ok (.iload_n 2, 1) := by decide +kernel
theorem dX2_readNot_9 : decode cX2_readNot 9 = .ok (.iconst (-1), 1) := by decide +kernel
theorem dX2_readNot_10 : decode cX2_readNot 10 = .ok (.aload_n 0, 1) := by decide +kernel
theorem dX2_readNot_11 : decode cX2_readNot 11 = .ok (.iload_n 1, 1) := by decide +kernel
theorem dX2_readNot_12 : decode cX2_readNot 12 = .ok (.iconst 1, 1) := by decide +kernel
theorem dX2_readNot_13 : decode cX2_readNot 13 = .ok (.iadd, 1) := by decide +kernel
theorem dX2_readNot_14 : decode cX2_readNot 14 = .ok (.invokevirtual 144, 3) := by decide +kernel
theorem dX2_readNot_17 : decode cX2_readNot 17 = .ok (.invokevirtual 138, 3) := by decide +kernel
theorem dX2_readNot_20 : decode cX2_readNot 20 = .ok (.ifCond .eq 7, 3) := by decide +kernel
theorem dX2_readNot_23 : decode cX2_readNot 23 = .ok (.iload_n 2, 1) := by decide +kernel
theorem dX2_readNot_24 : decode cX2_readNot 24 = .ok (.goto 4, 3) := by decide +kernel
theorem dX2_readNot_27 : decode cX2_readNot 27 = .ok (.iconst (-1), 1) := by decide +kernel
theorem dX2_readNot_28 : decode cX2_readNot 28 = .ok (.ireturn, 1) := by decide +kernel
theorem dX2_readDark_0 : decode cX2_readDark 0 = .ok (.aload_n 0, 1) := by decide +kernel
theorem dX2_readDark_1 : decode cX2_readDark 1 = .ok (.bipush 7, 2) := by decide +kernel
theorem dX2_readDark_3 : decode cX2_readDark 3 = .ok (.invokevirtual 111, 3) := by decide +kernel
theorem dX2_readDark_6 : decode cX2_readDark 6 = .ok (.istore_n 2, 1) := by decide +kernel
theorem dX2_readDark_7 : decode cX2_readDark 7 = .ok (.aload_n 0, 1) := by decide +kernel
theorem dX2_readDark_8 : decode cX2_readDark 8 = .ok (.iload_n 2, 1) := by decide +kernel
theorem dX2_readDark_9 : decode cX2_readDark 9 = .ok (.iconst (-1), 1) := by decide +kernel
theorem dX2_readDark_10 : decode cX2_readDark 10 = .ok (.aload_n 0, 1) := by decide +kernel
theorem dX2_readDark_11 : decode cX2_readDark 11 = .ok (.iload_n 1, 1) := by decide +kernel
theorem dX2_readDark_12 : decode cX2_readDark 12 = .ok (.iconst 1, 1) := by decide +kernel
theorem dX2_readDark_13 : decode cX2_readDark 13 = .ok (.iadd, 1) := by decide +kernel
theorem dX2_readDark_14 : decode cX2_readDark 14 = .ok (.invokevirtual 28, 3) := by decide +kernel
theorem dX2_readDark_17 : decode cX2_readDark 17 = .ok (.invokevirtual 138, 3) := by decide +kernel
theorem dX2_readDark_20 : decode cX2_readDark 20 = .ok (.ifCond .eq 7, 3) := by decide +kernel
theorem dX2_readDark_23 : decode cX2_readDark 23 = .ok (.iload_n 2, 1) := by decide +kernel
theorem dX2_readDark_24 : decode cX2_readDark 24 = .ok (.goto 4, 3) := by decide +kernel
theorem dX2_readDark_27 : decode cX2_readDark 27 = .ok (.iconst (-1), 1) := by decide +kernel
theorem dX2_readDark_28 : decode cX2_readDark 28 = .ok (.ireturn, 1) := by decide +kernel
theorem dX2_readMonth_0 : decode cX2_readMonth 0 = .ok (.aload_n 0, 1) := by decide +kernel
theorem dX2_readMonth_1 : decode cX2_readMonth 1 = .ok (.bipush 8, 2) := by decide +kernel
theorem dX2_readMonth_3 : decode cX2_readMonth 3 = .ok (.invokevirtual 111, 3) := by decide +kernel
theorem dX2_readMonth_6 : decode cX2_readMonth 6 = .ok (.istore_n 1, 1) := by decide +kernel
theorem dX2_readMonth_7 : decode cX2_readMonth 7 = .ok (.aload_n 0, 1) := by decide +kernel
theorem dX2_readMonth_8 : decode cX2_readMonth 8 = .ok (.getfield 9, 3) := by decide +kernel
theorem dX2_readMonth_11 : decode cX2_readMonth 11 = .ok (.iconst 0, 1) := by decide +kernel
theorem dX2_readMonth_12 : decode cX2_readMonth 12 = .ok (.bipush 11, 2) := by decide +kernel
theorem dX2_readMonth_14 : decode cX2_readMonth 14 = .ok (.invokevirtual 114, 3) := by decide +kernel
theorem dX2_readMonth_17 : decode cX2_readMonth 17 = .ok (.ifCond .ne 5, 3) := by decide +kernel
theorem dX2_readMonth_20 : decode cX2_readMonth 20 = .ok (.iconst (-1), 1) := by decide +kernel
theorem dX2_readMonth_21 : decode cX2_readMonth 21 = .ok (.ireturn, 1) := by decide +kernel
theorem dX2_readMonth_22 : decode cX2_readMonth 22 = .ok (.aload_n 0, 1) := by decide +kernel
theorem dX2_readMonth_23 : decode cX2_readMonth 23 = .ok (.getfield 15, 3) := by decide +kernel
theorem dX2_readMonth_26 : decode cX2_readMonth 26 = .ok (.iload_n 1, 1) := by decide +kernel
theorem dX2_readMonth_27 : decode cX2_readMonth 27 = .ok (.aload_n 0, 1) := by decide +kernel
theorem dX2_readMonth_28 : decode cX2_readMonth 28 = .ok (.getfield 9, 3) := by decide +kernel
theorem dX2_readMonth_31 : decode cX2_readMonth 31 = .ok (.getfield 118, 3) := by decide +kernel
theorem dX2_readMonth_34 : decode cX2_readMonth 34 = .ok (.invokevirtual 121, 3) := by decide +kernel
theorem dX2_readMonth_37 : decode cX2_readMonth 37 = .ok (.iload_n 1, 1) := by decide +kernel
theorem dX2_readMonth_38 : decode cX2_readMonth 38 = .ok (.ireturn, 1) := by decide +kernel
theorem dX3_init_0 : decode cX3_init 0 = .ok (.aload_n 0, 1) := by decide +kernel
theorem dX3_init_1 : decode cX3_init 1 = .ok (.invokespecial 3, 3) := by decide +kernel
theorem dX3_init_4 : decode cX3_init 4 = .ok (.aload_n 0, 1) := by decide +kernel
theorem dX3_init_5 : decode cX3_init 5 = .ok (.iconst 0, 1) := by decide +kernel
theorem dX3_init_6 : decode cX3_init 6 = .ok (.putfield 9, 3) := by decide +kernel
theorem dX3_init_9 : decode cX3_init 9 = .ok (.aload_n 0, 1) := by decide +kernel
theorem dX3_init_10 : decode cX3_init 10 = .ok (.iconst 0, 1) := by decide +kernel
theorem dX3_init_11 : decode cX3_init 11 = .ok (.putfield 15, 3) := by decide +kernel
theorem dX3_init_14 : decode cX3_init 14 = .ok (.aload_n 0, 1) := by decide +kernel
theorem dX3_init_15 : decode cX3_init 15 = .ok (.iconst 0, 1) := by decide +kernel
theorem dX3_init_16 : decode cX3_init 16 = .ok (.putfield 18, 3) := by decide +kernel
theorem dX3_init_19 : decode cX3_init 19 = .ok (.aload_n 0, 1) := by decide +kernel
theorem dX3_init_20 : decode cX3_init 20 = .ok (.bipush 12, 2) := by decide +kernel
theorem dX3_init_22 : decode cX3_init 22 = .ok (.newarray .int, 2) := by decide +kernel
theorem dX3_init_24 : decode cX3_init 24 = .ok (.putfield 21, 3) := by decide +kernel
theorem dX3_init_27 : decode cX3_init 27 = .ok (.aload_n 0, 1) := by decide +kernel
theorem dX3_init_28 : decode cX3_init 28 = .ok (.bipush 12, 2) := by decide +kernel
theorem dX3_init_30 : decode cX3_init 30 = .ok (.newarray .int, 2) := by decide +kernel
theorem dX3_init_32 : decode cX3_init 32 = .ok (.putfield 25, 3) := by decide +kernel
theorem dX3_init_35 : decode cX3_init 35 = .ok (.aload_n 0, 1) := by decide +kernel
theorem dX3_init_36 : decode cX3_init 36 = .ok (.bipush 12, 2) := by decide +kernel
theorem dX3_init_38 : decode cX3_init 38 = .ok (.newarray .int, 2) := by decide +kernel
theorem dX3_init_40 : decode cX3_init 40 = .ok (.putfield 28, 3) := by decide +kernel
theorem dX3_init_43 : decode cX3_init 43 = .ok (.aload_n 0, 1) := by decide +kernel
theorem dX3_init_44 : decode cX3_init 44 = .ok (.bipush 12, 2) := by decide +kernel
theorem dX3_init_46 : decode cX3_init 46 = .ok (.newarray .int, 2) := by decide +kernel
theorem dX3_init_48 : decode cX3_init 48 = .ok (.putfield 31, 3) := by decide +kernel
theorem dX3_init_51 : decode cX3_init 51 = .ok (.aload_n 0, 1) := by decide +kernel
theorem dX3_init_52 : decode cX3_init 52 = .ok (.bipush 9, 2) := by decide +kernel
theorem dX3_init_54 : decode cX3_init 54 = .ok (.newarray .int, 2) := by decide +kernel
theorem dX3_init_56 : decode cX3_init 56 = .ok (.putfield 34, 3) := by decide +kernel
theorem dX3_init_59 : decode cX3_init 59 = .ok (.aload_n 0, 1) := by decide +kernel
theorem dX3_init_60 : decode cX3_init 60 = .ok (.bipush 40, 2) := by decide +kernel
theorem dX3_init_62 : decode cX3_init 62 = .ok (.newarray .int, 2) := by decide +kernel
theorem dX3_init_64 : decode cX3_init 64 = .ok (.putfield 37, 3) := by decide +kernel
theorem dX3_init_67 : decode cX3_init 67 = .ok (.aload_n 0, 1) := by decide +kernel
theorem dX3_init_68 : decode cX3_init 68 = .ok (.bipush 40, 2) := by decide +kernel
theorem dX3_init_70 : decode cX3_init 70 = .ok (.newarray .int, 2) := by decide +kernel
theorem dX3_init_72 : decode cX3_init 72 = .ok (.putfield 40, 3) := by decide +kernel
theorem dX3_init_75 : decode cX3_init 75 = .ok (.aload_n 0, 1) := by decide +kernel
theorem dX3_init_76 : decode cX3_init 76 = .ok (.bipush 40, 2) := by decide +kernel
theorem dX3_init_78 : decode cX3_init 78 = .ok (.newarray .int, 2) := by decide +kernel
theorem dX3_init_80 : decode cX3_init 80 = .ok (.putfield 43, 3) := by decide +kernel
theorem dX3_init_83 : decode cX3_init 83 = .ok (.aload_n 0, 1) := by decide +kernel
theorem dX3_init_84 : decode cX3_init 84 = .ok (.getfield 34, 3) := by decide +kernel
theorem dX3_init_87 : decode cX3_init 87 = .ok (.iconst (-1), 1) := by decide +kernel
theorem dX3_init_88 : decode cX3_init 88 = .ok (.invokestatic 46, 3) := by decide +kernel
theorem dX3_init_91 : decode cX3_init 91 = .ok (.return_, 1) := by decide +kernel
theorem dX3_clear_0 : decode cX3_clear 0 = .ok (.aload_n 0, 1) := by decide +kernel
theorem dX3_clear_1 : decode cX3_clear 1 = .ok (.iconst 0, 1) := by decide +kernel
theorem dX3_clear_2 : decode cX3_clear 2 = .ok (.putfield 9, 3) := by decide +kernel
theorem dX3_clear_5 : decode cX3_clear 5 = .ok (.aload_n 0, 1) := by decide +kernel
theorem dX3_clear_6 : decode cX3_clear 6 = .ok (.iconst 0, 1) := by decide +kernel
theorem dX3_clear_7 : decode cX3_clear 7 = .ok (.putfield 18, 3) := by decide +kernel
theorem dX3_clear_10 : decode cX3_clear 10 = .ok (.aload_n 0, 1) := by decide +kernel
theorem dX3_clear_11 : decode cX3_clear 11 = .ok (.invokevirtual 52, 3) := by decide +kernel
theorem dX3_clear_14 : decode cX3_clear 14 = .ok (.return_, 1) := by decide +kernel
theorem dX3_clearSeen_0 : decode cX3_clearSeen 0 = .ok (.aload_n 0, 1) := by decide +kernel
theorem dX3_clearSeen_1 : decode cX3_clearSeen 1 = .ok (.iconst 0, 1) := by decide +kernel
theorem dX3_clearSeen_2 : decode cX3_clearSeen 2 = .ok (.putfield 15, 3) := by decide +kernel
theorem dX3_clearSeen_5 : decode cX3_clearSeen 5 = .ok (.aload_n 0, 1) := by decide +kernel
theorem dX3_clearSeen_6 : decode cX3_clearSeen 6 = .ok (.getfield 34, 3) := by decide +kernel
theorem dX3_clearSeen_9 : decode cX3_clearSeen 9 = .ok (.iconst (-1), 1) := by decide +kernel
theorem dX3_clearSeen_10 : decode cX3_clearSeen 10 = .ok (.invokestatic 46, 3) := by decide +kernel
theorem dX3_clearSeen_13 : decode cX3_clearSeen 13 = .ok (.return_, 1) := by decide +kernel
theorem dX3_addReading_0 : decode cX3_addReading 0 = .ok (.aload_n 0, 1) := by decide +kernel
theorem dX3_addReading_1 : decode cX3_addReading 1 = .ok (.getfield 9, 3) := by decide +kernel
theorem dX3_addReading_4 : decode cX3_addReading 4 = .ok (.bipush 12, 2) := by decide +kernel
theorem dX3_addReading_6 : decode cX3_addReading 6 = .ok (.if_icmp .ge 54, 3) := by decide +kernel
theorem dX3_addReading_9 : decode cX3_addReading 9 = .ok (.aload_n 0, 1) := by decide +kernel
theorem dX3_addReading_10 : decode cX3_addReading 10 = .ok (.getfield 21, 3) := by decide +kernel
theorem dX3_addReading_13 : decode cX3_addReading 13 = .ok (.aload_n 0, 1) := by decide +kernel
theorem dX3_addReading_14 : decode cX3_addReading 14 = .ok (.getfield 9, 3) := by decide +kernel
theorem dX3_addReading_17 : decode cX3_addReading 17 = .ok (.iload_n 1, 1) := by decide +kernel
theorem dX3_addReading_18 : decode cX3_addReading 18 = .ok (.iastore, 1) := by decide +kernel
theorem dX3_addReading_19 : decode cX3_addReading 19 = .ok (.aload_n 0, 1) := by decide +kernel
theorem dX3_addReading_20 : decode cX3_addReading 20 = .ok (.getfield 25, 3) := by decide +kernel
theorem dX3_addReading_23 : decode cX3_addReading 23 = .ok (.aload_n 0, 1) := by decide +kernel
theorem dX3_addReading_24 : decode cX3_addReading 24 = .ok (.getfield 9, 3) := by decide +kernel
theorem dX3_addReading_27 : decode cX3_addReading 27 = .ok (.iload_n 2, 1) := by decide +kernel
theorem dX3_addReading_28 : decode cX3_addReading 28 = .ok (.iastore, 1) := by decide +kernel
theorem dX3_addReading_29 : decode cX3_addReading 29 = .ok (.aload_n 0, 1) := by decide +kernel
theorem dX3_addReading_30 : decode cX3_addReading 30 = .ok (.getfield 28, 3) := by decide +kernel
theorem dX3_addReading_33 : decode cX3_addReading 33 = .ok (.aload_n 0, 1) := by decide +kernel
theorem dX3_addReading_34 : decode cX3_addReading 34 = .ok (.getfield 9, 3) := by decide +kernel
theorem dX3_addReading_37 : decode cX3_addReading 37 = .ok (.iload_n 3, 1) := by decide +kernel
theorem dX3_addReading_38 : decode cX3_addReading 38 = .ok (.iastore, 1) := by decide +kernel
theorem dX3_addReading_39 : decode cX3_addReading 39 = .ok (.aload_n 0, 1) := by decide +kernel
theorem dX3_addReading_40 : decode cX3_addReading 40 = .ok (.getfield 31, 3) := by decide +kernel
theorem dX3_addReading_43 : decode cX3_addReading 43 = .ok (.aload_n 0, 1) := by decide +kernel
theorem dX3_addReading_44 : decode cX3_addReading 44 = .ok (.getfield 9, 3) := by decide +kernel
theorem dX3_addReading_47 : decode cX3_addReading 47 = .ok (.iload 4, 2) := by decide +kernel
theorem dX3_addReading_49 : decode cX3_addReading 49 = .ok (.iastore, 1) := by decide +kernel
theorem dX3_addReading_50 : decode cX3_addReading 50 = .ok (.aload_n 0, 1) := by decide +kernel
theorem dX3_addReading_51 : decode cX3_addReading 51 = .ok (.dup, 1) := by decide +kernel
theorem dX3_addReading_52 : decode cX3_addReading 52 = .ok (.getfield 9, 3) := by decide +kernel
theorem dX3_addReading_55 : decode cX3_addReading 55 = .ok (.iconst 1, 1) := by decide +kernel
theorem dX3_addReading_56 : decode cX3_addReading 56 = .ok (.iadd, 1) := by decide +kernel
theorem dX3_addReading_57 : decode cX3_addReading 57 = .ok (.putfield 9, 3) := by decide +kernel
theorem dX3_addReading_60 : decode cX3_addReading 60 = .ok (.aload_n 0, 1) := by decide +kernel
theorem dX3_addReading_61 : decode cX3_addReading 61 = .ok (.getfield 9, 3) := by decide +kernel
theorem dX3_addReading_64 : decode cX3_addReading 64 = .ok (.ireturn, 1) := by decide +kernel
theorem dX3_addMend_0 : decode cX3_addMend 0 = .ok (.aload_n 0, 1) := by decide +kernel
theorem dX3_addMend_1 : decode cX3_addMend 1 = .ok (.getfield 18, 3) := by decide +kernel
theorem dX3_addMend_4 : decode cX3_addMend 4 = .ok (.bipush 40, 2) := by decide +kernel
theorem dX3_addMend_6 : decode cX3_addMend 6 = .ok (.if_icmp .ge 43, 3) := by decide +kernel
theorem dX3_addMend_9 : decode cX3_addMend 9 = .ok (.aload_n 0, 1) := by decide +kernel
theorem dX3_addMend_10 : decode cX3_addMend 10 = .ok (.getfield 37, 3) := by decide +kernel
theorem dX3_addMend_13 : decode cX3_addMend 13 = .ok (.aload_n 0, 1) := by decide +kernel
theorem dX3_addMend_14 : decode cX3_addMend 14 = .ok (.getfield 18, 3) := by decide +kernel
theorem dX3_addMend_17 : decode cX3_addMend 17 = .ok (.iload_n 1, 1) := by decide +kernel
theorem dX3_addMend_18 : decode cX3_addMend 18 = .ok (.iastore, 1) := by decide +kernel
theorem dX3_addMend_19 : decode cX3_addMend 19 = .ok (.aload_n 0, 1) := by decide +kernel
theorem dX3_addMend_20 : decode cX3_addMend 20 = .ok (.getfield 40, 3) := by decide +kernel
theorem dX3_addMend_23 : decode cX3_addMend 23 = .ok (.aload_n 0, 1) := by decide +kernel
theorem dX3_addMend_24 : decode cX3_addMend 24 = .ok (.getfield 18, 3) := by decide +kernel
theorem dX3_addMend_27 : decode cX3_addMend 27 = .ok (.iload_n 2, 1) := by decide +kernel
theorem dX3_addMend_28 : decode cX3_addMend 28 = .ok (.iastore, 1) := by decide +kernel
theorem dX3_addMend_29 : decode cX3_addMend 29 = .ok (.aload_n 0, 1) := by decide +kernel
theorem dX3_addMend_30 : decode cX3_addMend 30 = .ok (.getfield 43, 3) := by decide +kernel
theorem dX3_addMend_33 : decode cX3_addMend 33 = .ok (.aload_n 0, 1) := by decide +kernel
theorem dX3_addMend_34 : decode cX3_addMend 34 = .ok (.getfield 18, 3) := by decide +kernel
theorem dX3_addMend_37 : decode cX3_addMend 37 = .ok (.iload_n 3, 1) := by decide +kernel
theorem dX3_addMend_38 : decode cX3_addMend 38 = .ok (.iastore, 1) := by decide +kernel
theorem dX3_addMend_39 : decode cX3_addMend 39 = .ok (.aload_n 0, 1) := by decide +kernel
theorem dX3_addMend_40 : decode cX3_addMend 40 = .ok (.dup, 1) := by decide +kernel
theorem dX3_addMend_41 : decode cX3_addMend 41 = .ok (.getfield 18, 3) := by decide +kernel
theorem dX3_addMend_44 : decode cX3_addMend 44 = .ok (.iconst 1, 1) := by decide +kernel
theorem dX3_addMend_45 : decode cX3_addMend 45 = .ok (.iadd, 1) := by decide +kernel
theorem dX3_addMend_46 : decode cX3_addMend 46 = .ok (.putfield 18, 3) := by decide +kernel
theorem dX3_addMend_49 : decode cX3_addMend 49 = .ok (.aload_n 0, 1) := by decide +kernel
theorem dX3_addMend_50 : decode cX3_addMend 50 = .ok (.getfield 18, 3) := by decide +kernel
theorem dX3_addMend_53 : decode cX3_addMend 53 = .ok (.ireturn, 1) := by decide +kernel
theorem dX3_turnBy_0 : decode cX3_turnBy 0 = .ok (.aload_n 0, 1) := by decide +kernel
theorem dX3_turnBy_1 : decode cX3_turnBy 1 = .ok (.getfield 18, 3) := by decide +kernel
theorem dX3_turnBy_4 : decode cX3_turnBy 4 = .ok (.iconst 1, 1) := by decide +kernel
theorem dX3_turnBy_5 : decode cX3_turnBy 5 = .ok (.isub, 1) := by decide +kernel
theorem dX3_turnBy_6 : decode cX3_turnBy 6 = .ok (.istore 4, 2) := by decide +kernel
theorem dX3_turnBy_8 : decode cX3_turnBy 8 = .ok (.iload 4, 2) := by decide +kernel
theorem dX3_turnBy_10 : decode cX3_turnBy 10 = .ok (.ifCond .lt 39, 3) := by decide +kernel
theorem dX3_turnBy_13 : decode cX3_turnBy 13 = .ok (.aload_n 0, 1) := by decide +kernel
theorem dX3_turnBy_14 : decode cX3_turnBy 14 = .ok (.getfield 37, 3) := by decide +kernel
theorem dX3_turnBy_17 : decode cX3_turnBy 17 = .ok (.iload 4, 2) := by decide +kernel
theorem dX3_turnBy_19 : decode cX3_turnBy 19 = .ok (.iaload, 1) := by decide +kernel
theorem dX3_turnBy_20 : decode cX3_turnBy 20 = .ok (.iload_n 1, 1) := by decide +kernel
theorem dX3_turnBy_21 : decode cX3_turnBy 21 = .ok (.if_icmp .ne 22, 3) := by decide +kernel
theorem dX3_turnBy_24 : decode cX3_turnBy 24 = .ok (.aload_n 0, 1) := by decide +kernel
theorem dX3_turnBy_25 : decode cX3_turnBy 25 = .ok (.getfield 40, 3) := by decide +kernel
theorem dX3_turnBy_28 : decode cX3_turnBy 28 = .ok (.iload 4, 2) := by decide +kernel
theorem dX3_turnBy_30 : decode cX3_turnBy 30 = .ok (.iaload, 1) := by decide +kernel
theorem dX3_turnBy_31 : decode cX3_turnBy 31 = .ok (.iload_n 2, 1) := by decide +kernel
theorem dX3_turnBy_32 : decode cX3_turnBy 32 = .ok (.if_icmp .gt 11, 3) := by decide +kernel
theorem dX3_turnBy_35 : decode cX3_turnBy 35 = .ok (.aload_n 0, 1) := by decide +kernel
theorem dX3_turnBy_36 : decode cX3_turnBy 36 = .ok (.getfield 43, 3) := by decide +kernel
theorem dX3_turnBy_39 : decode cX3_turnBy 39 = .ok (.iload 4, 2) := by decide +kernel
theorem dX3_turnBy_41 : decode cX3_turnBy 41 = .ok (.iaload, 1) := by decide +kernel
theorem dX3_turnBy_42 : decode cX3_turnBy 42 = .ok (.ireturn, 1) := by decide +kernel
theorem dX3_turnBy_43 : decode cX3_turnBy 43 = .ok (.iinc 4 (-1), 3) := by decide +kernel
theorem dX3_turnBy_46 : decode cX3_turnBy 46 = .ok (.goto (-38), 3) := by decide +kernel
theorem dX3_turnBy_49 : decode cX3_turnBy 49 = .ok (.iload_n 3, 1) := by decide +kernel
theorem dX3_turnBy_50 : decode cX3_turnBy 50 = .ok (.ireturn, 1) := by decide +kernel
theorem dX3_firstReadingOf_0 : decode cX3_firstReadingOf 0 = .ok (.iconst 0, 1) := by decide +kernel
theorem dX3_firstReadingOf_1 : decode cX3_firstReadingOf 1 = .ok (.istore_n 2, 1) := by decide +kernel
theorem dX3_firstReadingOf_2 : decode cX3_firstReadingOf 2 = .ok (.iload_n 2, 1) := by decide +kernel
theorem dX3_firstReadingOf_3 : decode cX3_firstReadingOf 3 = .ok (.aload_n 0, 1) := by decide +kernel
theorem dX3_firstReadingOf_4 : decode cX3_firstReadingOf 4 = .ok (.getfield 9, 3) := by decide +kernel
theorem dX3_firstReadingOf_7 : decode cX3_firstReadingOf 7 = .ok (.if_icmp .ge 21, 3) := by decide +kernel
theorem dX3_firstReadingOf_10 : decode cX3_firstReadingOf 10 = .ok (.aload_n 0, 1) := by decide +kernel
theorem dX3_firstReadingOf_11 : decode cX3_firstReadingOf 11 = .ok (.getfield 21, 3) := by decide +kernel
theorem dX3_firstReadingOf_14 : decode cX3_firstReadingOf 14 = .ok (.iload_n 2, 1) := by decide +kernel
theorem dX3_firstReadingOf_15 : decode cX3_firstReadingOf 15 = .ok (.iaload, 1) := by decide +kernel
theorem dX3_firstReadingOf_16 : decode cX3_firstReadingOf 16 = .ok (.iload_n 1, 1) := by decide +kernel
theorem dX3_firstReadingOf_17 : decode cX3_firstReadingOf 17 = .ok (.if_icmp .ne 5, 3) := by decide +kernel
theorem dX3_firstReadingOf_20 : decode cX3_firstReadingOf 20 = .ok (.iload_n 2, 1) := by decide +kernel
theorem dX3_firstReadingOf_21 : decode cX3_firstReadingOf 21 = .ok (.ireturn, 1) := by decide +kernel
theorem dX3_firstReadingOf_22 : decode cX3_firstReadingOf 22 = .ok (.iinc 2 1, 3) := by decide +kernel
theorem dX3_firstReadingOf_25 : decode cX3_firstReadingOf 25 = .ok (.goto (-23), 3) := by decide +kernel
theorem dX3_firstReadingOf_28 : decode cX3_firstReadingOf 28 = .ok (.iconst (-1), 1) := by decide +kernel
theorem dX3_firstReadingOf_29 : decode cX3_firstReadingOf 29 = .ok (.ireturn, 1) := by decide +kernel
theorem dX3_copyFrom_0 : decode cX3_copyFrom 0 = .ok (.aload_n 0, 1) := by decide +kernel
theorem dX3_copyFrom_1 : decode cX3_copyFrom 1 = .ok (.aload_n 1, 1) := by decide +kernel
theorem dX3_copyFrom_2 : decode cX3_copyFrom 2 = .ok (.getfield 9, 3) := by decide +kernel
theorem dX3_copyFrom_5 : decode cX3_copyFrom 5 = .ok (.putfield 9, 3) := by decide +kernel
theorem dX3_copyFrom_8 : decode cX3_copyFrom 8 = .ok (.aload_n 0, 1) := by decide +kernel
theorem dX3_copyFrom_9 : decode cX3_copyFrom 9 = .ok (.aload_n 1, 1) := by decide +kernel
theorem dX3_copyFrom_10 : decode cX3_copyFrom 10 = .ok (.getfield 15, 3) := by decide +kernel
theorem dX3_copyFrom_13 : decode cX3_copyFrom 13 = .ok (.putfield 15, 3) := by decide +kernel
theorem dX3_copyFrom_16 : decode cX3_copyFrom 16 = .ok (.aload_n 0, 1) := by decide +kernel
theorem dX3_copyFrom_17 : decode cX3_copyFrom 17 = .ok (.aload_n 1, 1) := by decide +kernel
theorem dX3_copyFrom_18 : decode cX3_copyFrom 18 = .ok (.getfield 18, 3) := by decide +kernel
theorem dX3_copyFrom_21 : decode cX3_copyFrom 21 = .ok (.putfield 18, 3) := by decide +kernel
theorem dX3_copyFrom_24 : decode cX3_copyFrom 24 = .ok (.aload_n 1, 1) := by decide +kernel
theorem dX3_copyFrom_25 : decode cX3_copyFrom 25 = .ok (.getfield 21, 3) := by decide +kernel
theorem dX3_copyFrom_28 : decode cX3_copyFrom 28 = .ok (.iconst 0, 1) := by decide +kernel
theorem dX3_copyFrom_29 : decode cX3_copyFrom 29 = .ok (.aload_n 0, 1) := by decide +kernel
theorem dX3_copyFrom_30 : decode cX3_copyFrom 30 = .ok (.getfield 21, 3) := by decide +kernel
theorem dX3_copyFrom_33 : decode cX3_copyFrom 33 = .ok (.iconst 0, 1) := by decide +kernel
theorem dX3_copyFrom_34 : decode cX3_copyFrom 34 = .ok (.bipush 12, 2) := by decide +kernel
theorem dX3_copyFrom_36 : decode cX3_copyFrom 36 = .ok (.invokestatic 55, 3) := by decide +kernel
theorem dX3_copyFrom_39 : decode cX3_copyFrom 39 = .ok (.aload_n 1, 1) := by decide +kernel
theorem dX3_copyFrom_40 : decode cX3_copyFrom 40 = .ok (.getfield 25, 3) := by decide +kernel
theorem dX3_copyFrom_43 : decode cX3_copyFrom 43 = .ok (.iconst 0, 1) := by decide +kernel
theorem dX3_copyFrom_44 : decode cX3_copyFrom 44 = .ok (.aload_n 0, 1) := by decide +kernel
theorem dX3_copyFrom_45 : decode cX3_copyFrom 45 = .ok (.getfield 25, 3) := by decide +kernel
theorem dX3_copyFrom_48 : decode cX3_copyFrom 48 = .ok (.iconst 0, 1) := by decide +kernel
theorem dX3_copyFrom_49 : decode cX3_copyFrom 49 = .ok (.bipush 12, 2) := by decide +kernel
theorem dX3_copyFrom_51 : decode cX3_copyFrom 51 = .ok (.invokestatic 55, 3) := by decide +kernel
theorem dX3_copyFrom_54 : decode cX3_copyFrom 54 = .ok (.aload_n 1, 1) := by decide +kernel
theorem dX3_copyFrom_55 : decode cX3_copyFrom 55 = .ok (.getfield 28, 3) := by decide +kernel
theorem dX3_copyFrom_58 : decode cX3_copyFrom 58 = .ok (.iconst 0, 1) := by decide +kernel
theorem dX3_copyFrom_59 : decode cX3_copyFrom 59 = .ok (.aload_n 0, 1) := by decide +kernel
theorem dX3_copyFrom_60 : decode cX3_copyFrom 60 = .ok (.getfield 28, 3) := by decide +kernel
theorem dX3_copyFrom_63 : decode cX3_copyFrom 63 = .ok (.iconst 0, 1) := by decide +kernel
theorem dX3_copyFrom_64 : decode cX3_copyFrom 64 = .ok (.bipush 12, 2) := by decide +kernel
theorem dX3_copyFrom_66 : decode cX3_copyFrom 66 = .ok (.invokestatic 55, 3) := by decide +kernel
theorem dX3_copyFrom_69 : decode cX3_copyFrom 69 = .ok (.aload_n 1, 1) := by decide +kernel
theorem dX3_copyFrom_70 : decode cX3_copyFrom 70 = .ok (.getfield 31, 3) := by decide +kernel
theorem dX3_copyFrom_73 : decode cX3_copyFrom 73 = .ok (.iconst 0, 1) := by decide +kernel
theorem dX3_copyFrom_74 : decode cX3_copyFrom 74 = .ok (.aload_n 0, 1) := by decide +kernel
theorem dX3_copyFrom_75 : decode cX3_copyFrom 75 = .ok (.getfield 31, 3) := by decide +kernel
theorem dX3_copyFrom_78 : decode cX3_copyFrom 78 = .ok (.iconst 0, 1) := by decide +kernel
theorem dX3_copyFrom_79 : decode cX3_copyFrom 79 = .ok (.bipush 12, 2) := by decide +kernel
theorem dX3_copyFrom_81 : decode cX3_copyFrom 81 = .ok (.invokestatic 55, 3) := by decide +kernel
theorem dX3_copyFrom_84 : decode cX3_copyFrom 84 = .ok (.aload_n 1, 1) := by decide +kernel
theorem dX3_copyFrom_85 : decode cX3_copyFrom 85 = .ok (.getfield 34, 3) := by decide +kernel
theorem dX3_copyFrom_88 : decode cX3_copyFrom 88 = .ok (.iconst 0, 1) := by decide +kernel
theorem dX3_copyFrom_89 : decode cX3_copyFrom 89 = .ok (.aload_n 0, 1) := by decide +kernel
theorem dX3_copyFrom_90 : decode cX3_copyFrom 90 = .ok (.getfield 34, 3) := by decide +kernel
theorem dX3_copyFrom_93 : decode cX3_copyFrom 93 = .ok (.iconst 0, 1) := by decide +kernel
theorem dX3_copyFrom_94 : decode cX3_copyFrom 94 = .ok (.bipush 9, 2) := by decide +kernel
theorem dX3_copyFrom_96 : decode cX3_copyFrom 96 = .ok (.invokestatic 55, 3) := by decide +kernel
theorem dX3_copyFrom_99 : decode cX3_copyFrom 99 = .ok (.aload_n 1, 1) := by decide +kernel
theorem dX3_copyFrom_100 : decode cX3_copyFrom 100 = .ok (.getfield 37, 3) := by decide +kernel
theorem dX3_copyFrom_103 : decode cX3_copyFrom 103 = .ok (.iconst 0, 1) := by decide +kernel
theorem dX3_copyFrom_104 : decode cX3_copyFrom 104 = .ok (.aload_n 0, 1) := by decide +kernel
theorem dX3_copyFrom_105 : decode cX3_copyFrom 105 = .ok (.getfield 37, 3) := by decide +kernel
theorem dX3_copyFrom_108 : decode cX3_copyFrom 108 = .ok (.iconst 0, 1) := by decide +kernel
theorem dX3_copyFrom_109 : decode cX3_copyFrom 109 = .ok (.bipush 40, 2) := by decide +kernel
theorem dX3_copyFrom_111 : decode cX3_copyFrom 111 = .ok (.invokestatic 55, 3) := by decide +kernel
theorem dX3_copyFrom_114 : decode cX3_copyFrom 114 = .ok (.aload_n 1, 1) := by decide +kernel
theorem dX3_copyFrom_115 : decode cX3_copyFrom 115 = .ok (.getfield 40, 3) := by decide +kernel
theorem dX3_copyFrom_118 : decode cX3_copyFrom 118 = .ok (.iconst 0, 1) := by decide +kernel
theorem dX3_copyFrom_119 : decode cX3_copyFrom 119 = .ok (.aload_n 0, 1) := by decide +kernel
theorem dX3_copyFrom_120 : decode cX3_copyFrom 120 = .ok (.getfield 40, 3) := by decide +kernel
theorem dX3_copyFrom_123 : decode cX3_copyFrom 123 = .ok (.iconst 0, 1) := by decide +kernel
theorem dX3_copyFrom_124 : decode cX3_copyFrom 124 = .ok (.bipush 40, 2) := by decide +kernel
theorem dX3_copyFrom_126 : decode cX3_copyFrom 126 = .ok (.invokestatic 55, 3) := by decide +kernel
theorem dX3_copyFrom_129 : decode cX3_copyFrom 129 = .ok (.aload_n 1, 1) := by decide +kernel
theorem dX3_copyFrom_130 : decode cX3_copyFrom 130 = .ok (.getfield 43, 3) := by decide +kernel
theorem dX3_copyFrom_133 : decode cX3_copyFrom 133 = .ok (.iconst 0, 1) := by decide +kernel
theorem dX3_copyFrom_134 : decode cX3_copyFrom 134 = .ok (.aload_n 0, 1) := by decide +kernel
theorem dX3_copyFrom_135 : decode cX3_copyFrom 135 = .ok (.getfield 43, 3) := by decide +kernel
theorem dX3_copyFrom_138 : decode cX3_copyFrom 138 = .ok (.iconst 0, 1) := by decide +kernel
theorem dX3_copyFrom_139 : decode cX3_copyFrom 139 = .ok (.bipush 40, 2) := by decide +kernel
theorem dX3_copyFrom_141 : decode cX3_copyFrom 141 = .ok (.invokestatic 55, 3) := by decide +kernel
theorem dX3_copyFrom_144 : decode cX3_copyFrom 144 = .ok (.return_, 1) := by decide +kernel
theorem dX4_init_0 : decode cX4_init 0 = .ok (.aload_n 0, 1) := by decide +kernel
theorem dX4_init_1 : decode cX4_init 1 = .ok (.invokespecial 3, 3) := by decide +kernel
theorem dX4_init_4 : decode cX4_init 4 = .ok (.aload_n 0, 1) := by decide +kernel
theorem dX4_init_5 : decode cX4_init 5 = .ok (.iconst 0, 1) := by decide +kernel
theorem dX4_init_6 : decode cX4_init 6 = .ok (.putfield 9, 3) := by decide +kernel
theorem dX4_init_9 : decode cX4_init 9 = .ok (.aload_n 0, 1) := by decide +kernel
theorem dX4_init_10 : decode cX4_init 10 = .ok (.bipush 120, 2) := by decide +kernel
theorem dX4_init_12 : decode cX4_init 12 = .ok (.putfield 15, 3) := by decide +kernel
theorem dX4_init_15 : decode cX4_init 15 = .ok (.aload_n 0, 1) := by decide +kernel
theorem dX4_init_16 : decode cX4_init 16 = .ok (.iconst 0, 1) := by decide +kernel
theorem dX4_init_17 : decode cX4_init 17 = .ok (.putfield 18, 3) := by decide +kernel
theorem dX4_init_20 : decode cX4_init 20 = .ok (.aload_n 0, 1) := by decide +kernel
theorem dX4_init_21 : decode cX4_init 21 = .ok (.bipush 9, 2) := by decide +kernel
theorem dX4_init_23 : decode cX4_init 23 = .ok (.newarray .int, 2) := by decide +kernel
theorem dX4_init_25 : decode cX4_init 25 = .ok (.putfield 21, 3) := by decide +kernel
theorem dX4_init_28 : decode cX4_init 28 = .ok (.aload_n 0, 1) := by decide +kernel
theorem dX4_init_29 : decode cX4_init 29 = .ok (.bipush 9, 2) := by decide +kernel
theorem dX4_init_31 : decode cX4_init 31 = .ok (.newarray .int, 2) := by decide +kernel
theorem dX4_init_33 : decode cX4_init 33 = .ok (.putfield 25, 3) := by decide +kernel
theorem dX4_init_36 : decode cX4_init 36 = .ok (.aload_n 0, 1) := by decide +kernel
theorem dX4_init_37 : decode cX4_init 37 = .ok (.bipush 9, 2) := by decide +kernel
theorem dX4_init_39 : decode cX4_init 39 = .ok (.newarray .int, 2) := by decide +kernel
theorem dX4_init_41 : decode cX4_init 41 = .ok (.putfield 28, 3) := by decide +kernel
theorem dX4_init_44 : decode cX4_init 44 = .ok (.aload_n 0, 1) := by decide +kernel
theorem dX4_init_45 : decode cX4_init 45 = .ok (.bipush 9, 2) := by decide +kernel
theorem dX4_init_47 : decode cX4_init 47 = .ok (.newarray .int, 2) := by decide +kernel
theorem dX4_init_49 : decode cX4_init 49 = .ok (.putfield 31, 3) := by decide +kernel
theorem dX4_init_52 : decode cX4_init 52 = .ok (.aload_n 0, 1) := by decide +kernel
theorem dX4_init_53 : decode cX4_init 53 = .ok (.bipush 9, 2) := by decide +kernel
theorem dX4_init_55 : decode cX4_init 55 = .ok (.newarray .int, 2) := by decide +kernel
theorem dX4_init_57 : decode cX4_init 57 = .ok (.putfield 34, 3) := by decide +kernel
theorem dX4_init_60 : decode cX4_init 60 = .ok (.aload_n 0, 1) := by decide +kernel
theorem dX4_init_61 : decode cX4_init 61 = .ok (.bipush 12, 2) := by decide +kernel
theorem dX4_init_63 : decode cX4_init 63 = .ok (.newarray .int, 2) := by decide +kernel
theorem dX4_init_65 : decode cX4_init 65 = .ok (.putfield 37, 3) := by decide +kernel
theorem dX4_init_68 : decode cX4_init 68 = .ok (.aload_n 0, 1) := by decide +kernel
theorem dX4_init_69 : decode cX4_init 69 = .ok (.bipush 20, 2) := by decide +kernel
theorem dX4_init_71 : decode cX4_init 71 = .ok (.newarray .int, 2) := by decide +kernel
theorem dX4_init_73 : decode cX4_init 73 = .ok (.putfield 40, 3) := by decide +kernel
theorem dX4_init_76 : decode cX4_init 76 = .ok (.aload_n 0, 1) := by decide +kernel
theorem dX4_init_77 : decode cX4_init 77 = .ok (.bipush 20, 2) := by decide +kernel
theorem dX4_init_79 : decode cX4_init 79 = .ok (.newarray .int, 2) := by decide +kernel
theorem dX4_init_81 : decode cX4_init 81 = .ok (.putfield 43, 3) := by decide +kernel
theorem dX4_init_84 : decode cX4_init 84 = .ok (.aload_n 0, 1) := by decide +kernel
theorem dX4_init_85 : decode cX4_init 85 = .ok (.sipush 365, 3) := by decide +kernel
theorem dX4_init_88 : decode cX4_init 88 = .ok (.newarray .int, 2) := by decide +kernel
theorem dX4_init_90 : decode cX4_init 90 = .ok (.putfield 46, 3) := by decide +kernel
theorem dX4_init_93 : decode cX4_init 93 = .ok (.aload_n 0, 1) := by decide +kernel
theorem dX4_init_94 : decode cX4_init 94 = .ok (.bipush 20, 2) := by decide +kernel
theorem dX4_init_96 : decode cX4_init 96 = .ok (.newarray .int, 2) := by decide +kernel
theorem dX4_init_98 : decode cX4_init 98 = .ok (.putfield 49, 3) := by decide +kernel
theorem dX4_init_101 : decode cX4_init 101 = .ok (.return_, 1) := by decide +kernel
theorem dX4_clear_0 : decode cX4_clear 0 = .ok (.aload_n 0, 1) := by decide +kernel
theorem dX4_clear_1 : decode cX4_clear 1 = .ok (.iconst 0, 1) := by decide +kernel
theorem dX4_clear_2 : decode cX4_clear 2 = .ok (.putfield 9, 3) := by decide +kernel
theorem dX4_clear_5 : decode cX4_clear 5 = .ok (.aload_n 0, 1) := by decide +kernel
theorem dX4_clear_6 : decode cX4_clear 6 = .ok (.bipush 120, 2) := by decide +kernel
theorem dX4_clear_8 : decode cX4_clear 8 = .ok (.putfield 15, 3) := by decide +kernel
theorem dX4_clear_11 : decode cX4_clear 11 = .ok (.aload_n 0, 1) := by decide +kernel
theorem dX4_clear_12 : decode cX4_clear 12 = .ok (.iconst 0, 1) := by decide +kernel
theorem dX4_clear_13 : decode cX4_clear 13 = .ok (.putfield 18, 3) := by decide +kernel
theorem dX4_clear_16 : decode cX4_clear 16 = .ok (.aload_n 0, 1) := by decide +kernel
theorem dX4_clear_17 : decode cX4_clear 17 = .ok (.getfield 37, 3) := by decide +kernel
theorem dX4_clear_20 : decode cX4_clear 20 = .ok (.iconst 0, 1) := by decide +kernel
theorem dX4_clear_21 : decode cX4_clear 21 = .ok (.invokestatic 52, 3) := by decide +kernel
theorem dX4_clear_24 : decode cX4_clear 24 = .ok (.aload_n 0, 1) := by decide +kernel
theorem dX4_clear_25 : decode cX4_clear 25 = .ok (.getfield 46, 3) := by decide +kernel
theorem dX4_clear_28 : decode cX4_clear 28 = .ok (.iconst 0, 1) := by decide +kernel
theorem dX4_clear_29 : decode cX4_clear 29 = .ok (.invokestatic 52, 3) := by decide +kernel
theorem dX4_clear_32 : decode cX4_clear 32 = .ok (.return_, 1) := by decide +kernel
theorem dX4_addCloud_0 : decode cX4_addCloud 0 = .ok (.aload_n 0, 1) := by decide +kernel
theorem dX4_addCloud_1 : decode cX4_addCloud 1 = .ok (.getfield 18, 3) := by decide +kernel
theorem dX4_addCloud_4 : decode cX4_addCloud 4 = .ok (.bipush 20, 2) := by decide +kernel
theorem dX4_addCloud_6 : decode cX4_addCloud 6 = .ok (.if_icmp .lt 4, 3) := by decide +kernel
theorem dX4_addCloud_9 : decode cX4_addCloud 9 = .ok (.return_, 1) := by decide +kernel
theorem dX4_addCloud_10 : decode cX4_addCloud 10 = .ok (.aload_n 0, 1) := by decide +kernel
theorem dX4_addCloud_11 : decode cX4_addCloud 11 = .ok (.getfield 40, 3) := by decide +kernel
theorem dX4_addCloud_14 : decode cX4_addCloud 14 = .ok (.aload_n 0, 1) := by decide +kernel
theorem dX4_addCloud_15 : decode cX4_addCloud 15 = .ok (.getfield 18, 3) := by decide +kernel
theorem dX4_addCloud_18 : decode cX4_addCloud 18 = .ok (.iload_n 2, 1) := by decide +kernel
theorem dX4_addCloud_19 : decode cX4_addCloud 19 = .ok (.iastore, 1) := by decide +kernel
theorem dX4_addCloud_20 : decode cX4_addCloud 20 = .ok (.aload_n 0, 1) := by decide +kernel
theorem dX4_addCloud_21 : decode cX4_addCloud 21 = .ok (.getfield 43, 3) := by decide +kernel
theorem dX4_addCloud_24 : decode cX4_addCloud 24 = .ok (.aload_n 0, 1) := by decide +kernel
theorem dX4_addCloud_25 : decode cX4_addCloud 25 = .ok (.getfield 18, 3) := by decide +kernel
theorem dX4_addCloud_28 : decode cX4_addCloud 28 = .ok (.iload_n 3, 1) := by decide +kernel
theorem dX4_addCloud_29 : decode cX4_addCloud 29 = .ok (.iastore, 1) := by decide +kernel
theorem dX4_addCloud_30 : decode cX4_addCloud 30 = .ok (.aload_n 0, 1) := by decide +kernel
theorem dX4_addCloud_31 : decode cX4_addCloud 31 = .ok (.getfield 49, 3) := by decide +kernel
theorem dX4_addCloud_34 : decode cX4_addCloud 34 = .ok (.aload_n 0, 1) := by decide +kernel
theorem dX4_addCloud_35 : decode cX4_addCloud 35 = .ok (.getfield 18, 3) := by decide +kernel
theorem dX4_addCloud_38 : decode cX4_addCloud 38 = .ok (.aload_n 0, 1) := by decide +kernel
theorem dX4_addCloud_39 : decode cX4_addCloud 39 = .ok (.getfield 46, 3) := by decide +kernel
theorem dX4_addCloud_42 : decode cX4_addCloud 42 = .ok (.iload_n 1, 1) := by decide +kernel
theorem dX4_addCloud_43 : decode cX4_addCloud 43 = .ok (.iaload, 1) := by decide +kernel
theorem dX4_addCloud_44 : decode cX4_addCloud 44 = .ok (.iastore, 1) := by decide +kernel
theorem dX4_addCloud_45 : decode cX4_addCloud 45 = .ok (.aload_n 0, 1) := by decide +kernel
theorem dX4_addCloud_46 : decode cX4_addCloud 46 = .ok (.dup, 1) := by decide +kernel
theorem dX4_addCloud_47 : decode cX4_addCloud 47 = .ok (.getfield 18, 3) := by decide +kernel
theorem dX4_addCloud_50 : decode cX4_addCloud 50 = .ok (.iconst 1, 1) := by decide +kernel
theorem dX4_addCloud_51 : decode cX4_addCloud 51 = .ok (.iadd, 1) := by decide +kernel
theorem dX4_addCloud_52 : decode cX4_addCloud 52 = .ok (.putfield 18, 3) := by decide +kernel
theorem dX4_addCloud_55 : decode cX4_addCloud 55 = .ok (.aload_n 0, 1) := by decide +kernel
theorem dX4_addCloud_56 : decode cX4_addCloud 56 = .ok (.getfield 46, 3) := by decide +kernel
theorem dX4_addCloud_59 : decode cX4_addCloud 59 = .ok (.iload_n 1, 1) := by decide +kernel
theorem dX4_addCloud_60 : decode cX4_addCloud 60 = .ok (.aload_n 0, 1) := by decide +kernel
theorem dX4_addCloud_61 : decode cX4_addCloud 61 = .ok (.getfield 18, 3) := by decide +kernel
theorem dX4_addCloud_64 : decode cX4_addCloud 64 = .ok (.iastore, 1) := by decide +kernel
theorem dX4_addCloud_65 : decode cX4_addCloud 65 = .ok (.return_, 1) := by decide +kernel
theorem dX4_noonOf_0 : decode cX4_noonOf 0 = .ok (.sipush 720, 3) := by decide +kernel
theorem dX4_noonOf_3 : decode cX4_noonOf 3 = .ok (.aload_n 0, 1) := by decide +kernel
theorem dX4_noonOf_4 : decode cX4_noonOf 4 = .ok (.getfield 37, 3) := by decide +kernel
theorem dX4_noonOf_7 : decode cX4_noonOf 7 = .ok (.iload_n 1, 1) := by decide +kernel
theorem dX4_noonOf_8 : decode cX4_noonOf 8 = .ok (.bipush 31, 2) := by decide +kernel
theorem dX4_noonOf_10 : decode cX4_noonOf 10 = .ok (.idiv, 1) := by decide +kernel
theorem dX4_noonOf_11 : decode cX4_noonOf 11 = .ok (.iaload, 1) := by decide +kernel
theorem dX4_noonOf_12 : decode cX4_noonOf 12 = .ok (.iadd, 1) := by decide +kernel
theorem dX4_noonOf_13 : decode cX4_noonOf 13 = .ok (.ireturn, 1) := by decide +kernel
theorem dX4_halfOf_0 : decode cX4_halfOf 0 = .ok (.iload_n 1, 1) := by decide +kernel
theorem dX4_halfOf_1 : decode cX4_halfOf 1 = .ok (.sipush 172, 3) := by decide +kernel
theorem dX4_halfOf_4 : decode cX4_halfOf 4 = .ok (.isub, 1) := by decide +kernel
theorem dX4_halfOf_5 : decode cX4_halfOf 5 = .ok (.invokestatic 58, 3) := by decide +kernel
theorem dX4_halfOf_8 : decode cX4_halfOf 8 = .ok (.istore_n 2, 1) := by decide +kernel
theorem dX4_halfOf_9 : decode cX4_halfOf 9 = .ok (.iload_n 2, 1) := by decide +kernel
theorem dX4_halfOf_10 : decode cX4_halfOf 10 = .ok (.sipush 182, 3) := by decide +kernel
theorem dX4_halfOf_13 : decode cX4_halfOf 13 = .ok (.if_icmp .le 9, 3) := by decide +kernel
theorem dX4_halfOf_16 : decode cX4_halfOf 16 = .ok (.sipush 365, 3) := by decide +kernel
theorem dX4_halfOf_19 : decode cX4_halfOf 19 = .ok (.iload_n 2, 1) := by decide +kernel
theorem dX4_halfOf_20 : decode cX4_halfOf 20 = .ok (.isub, 1) := by decide +kernel
theorem dX4_halfOf_21 : decode cX4_halfOf 21 = .ok (.istore_n 2, 1) := by decide +kernel
theorem dX4_halfOf_22 : decode cX4_halfOf 22 = .ok (.sipush 360, 3) := by decide +kernel
theorem dX4_halfOf_25 : decode cX4_halfOf 25 = .ok (.aload_n 0, 1) := by decide +kernel
theorem dX4_halfOf_26 : decode cX4_halfOf 26 = .ok (.getfield 15, 3) := by decide +kernel
theorem dX4_halfOf_29 : decode cX4_halfOf 29 = .ok (.bipush 91, 2) := by decide +kernel
theorem dX4_halfOf_31 : decode cX4_halfOf 31 = .ok (.iload_n 2, 1) := by decide +kernel
theorem dX4_halfOf_32 : decode cX4_halfOf 32 = .ok (.isub, 1) := by decide +kernel
theorem dX4_halfOf_33 : decode cX4_halfOf 33 = .ok (.imul, 1) := by decide +kernel
theorem dX4_halfOf_34 : decode cX4_halfOf 34 = .ok (.bipush 91, 2) := by decide +kernel
theorem dX4_halfOf_36 : decode cX4_halfOf 36 = .ok (.idiv, 1) := by decide +kernel
theorem dX4_halfOf_37 : decode cX4_halfOf 37 = .ok (.iadd, 1) := by decide +kernel
theorem dX4_halfOf_38 : decode cX4_halfOf 38 = .ok (.ireturn, 1) := by decide +kernel
theorem dX4_isClouded_0 : decode cX4_isClouded 0 = .ok (.aload_n 0, 1) := by decide +kernel
theorem dX4_isClouded_1 : decode cX4_isClouded 1 = .ok (.getfield 46, 3) := by decide +kernel
theorem dX4_isClouded_4 : decode cX4_isClouded 4 = .ok (.iload_n 1, 1) := by decide +kernel
theorem dX4_isClouded_5 : decode cX4_isClouded 5 = .ok (.iaload, 1) := by decide +kernel
theorem dX4_isClouded_6 : decode cX4_isClouded 6 = .ok (.istore_n 3, 1) := by decide +kernel
theorem dX4_isClouded_7 : decode cX4_isClouded 7 = .ok (.iconst 0, 1) := by decide +kernel
theorem dX4_isClouded_8 : decode cX4_isClouded 8 = .ok (.istore 4, 2) := by decide +kernel
theorem dX4_isClouded_10 : decode cX4_isClouded 10 = .ok (.iload 4, 2) := by decide +kernel
theorem dX4_isClouded_12 : decode cX4_isClouded 12 = .ok (.bipush 20, 2) := by decide +kernel
theorem dX4_isClouded_14 : decode cX4_isClouded 14 = .ok (.if_icmp .ge 56, 3) := by decide +kernel
theorem dX4_isClouded_17 : decode cX4_isClouded 17 = .ok (.iload_n 3, 1) := by decide +kernel
theorem dX4_isClouded_18 : decode cX4_isClouded 18 = .ok (.ifCond .le 52, 3) := by decide +kernel
theorem dX4_isClouded_21 : decode cX4_isClouded 21 = .ok (.iload_n 3, 1) := by decide +kernel
theorem dX4_isClouded_22 : decode cX4_isClouded 22 = .ok (.aload_n 0, 1) := by decide +kernel
theorem dX4_isClouded_23 : decode cX4_isClouded 23 = .ok (.getfield 18, 3) := by decide +kernel
theorem dX4_isClouded_26 : decode cX4_isClouded 26 = .ok (.if_icmp .gt 44, 3) := by decide +kernel
theorem dX4_isClouded_29 : decode cX4_isClouded 29 = .ok (.aload_n 0, 1) := by decide +kernel
theorem dX4_isClouded_30 : decode cX4_isClouded 30 = .ok (.getfield 40, 3) := by decide +kernel
theorem dX4_isClouded_33 : decode cX4_isClouded 33 = .ok (.iload_n 3, 1) := by decide +kernel
theorem dX4_isClouded_34 : decode cX4_isClouded 34 = .ok (.iconst 1, 1) := by decide +kernel
theorem dX4_isClouded_35 : decode cX4_isClouded 35 = .ok (.isub, 1) := by decide +kernel
theorem dX4_isClouded_36 : decode cX4_isClouded 36 = .ok (.iaload, 1) := by decide +kernel
theorem dX4_isClouded_37 : decode cX4_isClouded 37 = .ok (.iload_n 2, 1) := by decide +kernel
theorem dX4_isClouded_38 : decode cX4_isClouded 38 = .ok (.if_icmp .gt 17, 3) := by decide +kernel
theorem dX4_isClouded_41 : decode cX4_isClouded 41 = .ok (.iload_n 2, 1) := by decide +kernel
theorem dX4_isClouded_42 : decode cX4_isClouded 42 = .ok (.aload_n 0, 1) := by decide +kernel
theorem dX4_isClouded_43 : decode cX4_isClouded 43 = .ok (.getfield 43, 3) := by decide +kernel
theorem dX4_isClouded_46 : decode cX4_isClouded 46 = .ok (.iload_n 3, 1) := by decide +kernel
theorem dX4_isClouded_47 : decode cX4_isClouded 47 = .ok (.iconst 1, 1) := by decide +kernel
theorem dX4_isClouded_48 : decode cX4_isClouded 48 = .ok (.isub, 1) := by decide +kernel
theorem dX4_isClouded_49 : decode cX4_isClouded 49 = .ok (.iaload, 1) := by decide +kernel
theorem dX4_isClouded_50 : decode cX4_isClouded 50 = .ok (.if_icmp .gt 5, 3) := by decide +kernel
theorem dX4_isClouded_53 : decode cX4_isClouded 53 = .ok (.iconst 1, 1) := by decide +kernel
theorem dX4_isClouded_54 : decode cX4_isClouded 54 = .ok (.ireturn, 1) := by decide +kernel
theorem dX4_isClouded_55 : decode cX4_isClouded 55 = .ok (.aload_n 0, 1) := by decide +kernel
theorem dX4_isClouded_56 : decode cX4_isClouded 56 = .ok (.getfield 49, 3) := by decide +kernel
theorem dX4_isClouded_59 : decode cX4_isClouded 59 = .ok (.iload_n 3, 1) := by decide +kernel
theorem dX4_isClouded_60 : decode cX4_isClouded 60 = .ok (.iconst 1, 1) := by decide +kernel
theorem dX4_isClouded_61 : decode cX4_isClouded 61 = .ok (.isub, 1) := by decide +kernel
theorem dX4_isClouded_62 : decode cX4_isClouded 62 = .ok (.iaload, 1) := by decide +kernel
theorem dX4_isClouded_63 : decode cX4_isClouded 63 = .ok (.istore_n 3, 1) := by decide +kernel
theorem dX4_isClouded_64 : decode cX4_isClouded 64 = .ok (.iinc 4 1, 3) := by decide +kernel
theorem dX4_isClouded_67 : decode cX4_isClouded 67 = .ok (.goto (-57), 3) := by decide +kernel
theorem dX4_isClouded_70 : decode cX4_isClouded 70 = .ok (.iconst 0, 1) := by decide +kernel
theorem dX4_isClouded_71 : decode cX4_isClouded 71 = .ok (.ireturn, 1) := by decide +kernel
theorem dX4_isGrown_0 : decode cX4_isGrown 0 = .ok (.aload_n 0, 1) := by decide +kernel
theorem dX4_isGrown_1 : decode cX4_isGrown 1 = .ok (.getfield 34, 3) := by decide +kernel
theorem dX4_isGrown_4 : decode cX4_isGrown 4 = .ok (.iload_n 1, 1) := by decide +kernel
theorem dX4_isGrown_5 : decode cX4_isGrown 5 = .ok (.iaload, 1) := by decide +kernel
theorem dX4_isGrown_6 : decode cX4_isGrown 6 = .ok (.iconst (-1), 1) := by decide +kernel
theorem dX4_isGrown_7 : decode cX4_isGrown 7 = .ok (.if_icmp .eq 27, 3) := by decide +kernel
theorem dX4_isGrown_10 : decode cX4_isGrown 10 = .ok (.iload_n 2, 1) := by decide +kernel
theorem dX4_isGrown_11 : decode cX4_isGrown 11 = .ok (.aload_n 0, 1) := by decide +kernel
theorem dX4_isGrown_12 : decode cX4_isGrown 12 = .ok (.getfield 34, 3) := by decide +kernel
theorem dX4_isGrown_15 : decode cX4_isGrown 15 = .ok (.iload_n 1, 1) := by decide +kernel
theorem dX4_isGrown_16 : decode cX4_isGrown 16 = .ok (.iaload, 1) := by decide +kernel
theorem dX4_isGrown_17 : decode cX4_isGrown 17 = .ok (.if_icmp .lt 17, 3) := by decide +kernel
theorem dX4_isGrown_20 : decode cX4_isGrown 20 = .ok (.aload_n 0, 1) := by decide +kernel
theorem dX4_isGrown_21 : decode cX4_isGrown 21 = .ok (.getfield 21, 3) := by decide +kernel
theorem dX4_isGrown_24 : decode cX4_isGrown 24 = .ok (.iload_n 1, 1) := by decide +kernel
theorem dX4_isGrown_25 : decode cX4_isGrown 25 = .ok (.iaload, 1) := by decide +kernel
theorem dX4_isGrown_26 : decode cX4_isGrown 26 = .ok (.iconst 5, 1) := by decide +kernel
theorem dX4_isGrown_27 : decode cX4_isGrown 27 = .ok (.if_icmp .eq 7, 3) := by decide +kernel
theorem dX4_isGrown_30 : decode cX4_isGrown 30 = .ok (.iconst 1, 1) := by decide +kernel
theorem dX4_isGrown_31 : decode cX4_isGrown 31 = .ok (.goto 4, 3) := by decide +kernel
theorem dX4_isGrown_34 : decode cX4_isGrown 34 = .ok (.iconst 0, 1) := by decide +kernel
theorem dX4_isGrown_35 : decode cX4_isGrown 35 = .ok (.ireturn, 1) := by decide +kernel
theorem dX4_hasMoon_0 : decode cX4_hasMoon 0 = .ok (.iload_n 0, 1) := by decide +kernel
theorem dX4_hasMoon_1 : decode cX4_hasMoon 1 = .ok (.bipush 30, 2) := by decide +kernel
theorem dX4_hasMoon_3 : decode cX4_hasMoon 3 = .ok (.irem, 1) := by decide +kernel
theorem dX4_hasMoon_4 : decode cX4_hasMoon 4 = .ok (.istore_n 1, 1) := by decide +kernel
theorem dX4_hasMoon_5 : decode cX4_hasMoon 5 = .ok (.iload_n 1, 1) := by decide +kernel
theorem dX4_hasMoon_6 : decode cX4_hasMoon 6 = .ok (.bipush 8, 2) := by decide +kernel
theorem dX4_hasMoon_8 : decode cX4_hasMoon 8 = .ok (.if_icmp .lt 13, 3) := by decide +kernel
theorem dX4_hasMoon_11 : decode cX4_hasMoon 11 = .ok (.iload_n 1, 1) := by decide +kernel
theorem dX4_hasMoon_12 : decode cX4_hasMoon 12 = .ok (.bipush 22, 2) := by decide +kernel
theorem dX4_hasMoon_14 : decode cX4_hasMoon 14 = .ok (.if_icmp .gt 7, 3) := by decide +kernel
theorem dX4_hasMoon_17 : decode cX4_hasMoon 17 = .ok (.iconst 1, 1) := by decide +kernel
theorem dX4_hasMoon_18 : decode cX4_hasMoon 18 = .ok (.goto 4, 3) := by decide +kernel
theorem dX4_hasMoon_21 : decode cX4_hasMoon 21 = .ok (.iconst 0, 1) := by decide +kernel
theorem dX4_hasMoon_22 : decode cX4_hasMoon 22 = .ok (.ireturn, 1) := by decide +kernel
theorem dX4_toldBy_0 : decode cX4_toldBy 0 = .ok (.aload_n 0, 1) := by decide +kernel
theorem dX4_toldBy_1 : decode cX4_toldBy 1 = .ok (.iload_n 1, 1) := by decide +kernel
theorem dX4_toldBy_2 : decode cX4_toldBy 2 = .ok (.iload_n 2, 1) := by decide +kernel
theorem dX4_toldBy_3 : decode cX4_toldBy 3 = .ok (.iload_n 3, 1) := by decide +kernel
theorem dX4_toldBy_4 : decode cX4_toldBy 4 = .ok (.iload 5, 2) := by decide +kernel
theorem dX4_toldBy_6 : decode cX4_toldBy 6 = .ok (.invokevirtual 64, 3) := by decide +kernel
theorem dX4_toldBy_9 : decode cX4_toldBy 9 = .ok (.istore 6, 2) := by decide +kernel
theorem dX4_toldBy_11 : decode cX4_toldBy 11 = .ok (.iload 6, 2) := by decide +kernel
theorem dX4_toldBy_13 : decode cX4_toldBy 13 = .ok (.iconst (-1), 1) := by decide +kernel
theorem dX4_toldBy_14 : decode cX4_toldBy 14 = .ok (.if_icmp .ne 5, 3) := by decide +kernel
theorem dX4_toldBy_17 : decode cX4_toldBy 17 = .ok (.iconst (-1), 1) := by decide +kernel
theorem dX4_toldBy_18 : decode cX4_toldBy 18 = .ok (.ireturn, 1) := by decide +kernel
theorem dX4_toldBy_19 : decode cX4_toldBy 19 = .ok (.iload 6, 2) := by decide +kernel
theorem dX4_toldBy_21 : decode cX4_toldBy 21 = .ok (.iload 4, 2) := by decide +kernel
theorem dX4_toldBy_23 : decode cX4_toldBy 23 = .ok (.iadd, 1) := by decide +kernel
theorem dX4_toldBy_24 : decode cX4_toldBy 24 = .ok (.sipush 1440, 3) := by decide +kernel
theorem dX4_toldBy_27 : decode cX4_toldBy 27 = .ok (.invokestatic 68, 3) := by decide +kernel
theorem dX4_toldBy_30 : decode cX4_toldBy 30 = .ok (.istore 7, 2) := by decide +kernel
theorem dX4_toldBy_32 : decode cX4_toldBy 32 = .ok (.aload_n 0, 1) := by decide +kernel
theorem dX4_toldBy_33 : decode cX4_toldBy 33 = .ok (.getfield 21, 3) := by decide +kernel
theorem dX4_toldBy_36 : decode cX4_toldBy 36 = .ok (.iload_n 1, 1) := by decide +kernel
theorem dX4_toldBy_37 : decode cX4_toldBy 37 = .ok (.iaload, 1) := by decide +kernel
theorem dX4_toldBy_38 : decode cX4_toldBy 38 = .ok (.iconst 4, 1) := by decide +kernel
theorem dX4_toldBy_39 : decode cX4_toldBy 39 = .ok (.if_icmp .ne 15, 3) := by decide +kernel
theorem dX4_toldBy_42 : decode cX4_toldBy 42 = .ok (.iload 7, 2) := by decide +kernel
theorem dX4_toldBy_44 : decode cX4_toldBy 44 = .ok (.sipush 720, 3) := by decide +kernel
theorem dX4_toldBy_47 : decode cX4_toldBy 47 = .ok (.if_icmp .eq 7, 3) := by decide +kernel
theorem dX4_toldBy_50 : decode cX4_toldBy 50 = .ok (.iconst (-1), 1) := by decide +kernel
theorem dX4_toldBy_51 : decode cX4_toldBy 51 = .ok (.goto 5, 3) := by decide +kernel
theorem dX4_toldBy_54 : decode cX4_toldBy 54 = .ok (.iload 7, 2) := by decide +kernel
theorem dX4_toldBy_56 : decode cX4_toldBy 56 = .ok (.ireturn, 1) := by decide +kernel
theorem dX4_plainlyTold_0 : decode cX4_plainlyTold 0 = .ok (.aload_n 0, 1) := by decide +kernel
theorem dX4_plainlyTold_1 : decode cX4_plainlyTold 1 = .ok (.iload_n 1, 1) := by decide +kernel
theorem dX4_plainlyTold_2 : decode cX4_plainlyTold 2 = .ok (.iload_n 2, 1) := by decide +kernel
theorem dX4_plainlyTold_3 : decode cX4_plainlyTold 3 = .ok (.invokevirtual 72, 3) := by decide +kernel
theorem dX4_plainlyTold_6 : decode cX4_plainlyTold 6 = .ok (.ifCond .eq 5, 3) := by decide +kernel
theorem dX4_plainlyTold_9 : decode cX4_plainlyTold 9 = .ok (.iconst (-1), 1) := by decide +kernel
theorem dX4_plainlyTold_10 : decode cX4_plainlyTold 10 = .ok (.ireturn, 1) := by decide +kernel
theorem dX4_plainlyTold_11 : decode cX4_plainlyTold 11 = .ok (.aload_n 0, 1) := by decide +kernel
theorem dX4_plainlyTold_12 : decode cX4_plainlyTold 12 = .ok (.getfield 21, 3) := by decide +kernel
theorem dX4_plainlyTold_15 : decode cX4_plainlyTold 15 = .ok (.iload_n 1, 1) := by decide +kernel
theorem dX4_plainlyTold_16 : decode cX4_plainlyTold 16 = .ok (.iaload, 1) := by decide +kernel
theorem dX4_plainlyTold_17 : decode cX4_plainlyTold 17 = .ok (.istore 5, 2) := by decide +kernel
theorem dX4_plainlyTold_19 : decode cX4_plainlyTold 19 = .ok (.iconst 0, 1) := by decide +kernel
theorem dX4_plainlyTold_20 : decode cX4_plainlyTold 20 = .ok (.istore 6, 2) := by decide +kernel
theorem dX4_plainlyTold_22 : decode cX4_plainlyTold 22 = .ok (.iload 5, 2) := by decide +kernel
theorem dX4_plainlyTold_24 : decode cX4_plainlyTold 24 = .ok (.iconst 3, 1) := by decide +kernel
theorem dX4_plainlyTold_25 : decode cX4_plainlyTold 25 = .ok (.if_icmp .ne 14, 3) := by decide +kernel
theorem dX4_plainlyTold_28 : decode cX4_plainlyTold 28 = .ok (.aload_n 0, 1) := by decide +kernel
theorem dX4_plainlyTold_29 : decode cX4_plainlyTold 29 = .ok (.iload_n 2, 1) := by decide +kernel
theorem dX4_plainlyTold_30 : decode cX4_plainlyTold 30 = .ok (.iload_n 3, 1) := by decide +kernel
theorem dX4_plainlyTold_31 : decode cX4_plainlyTold 31 = .ok (.invokevirtual 76, 3) := by decide +kernel
theorem dX4_plainlyTold_34 : decode cX4_plainlyTold 34 = .ok (.istore 6, 2) := by decide +kernel
theorem dX4_plainlyTold_36 : decode cX4_plainlyTold 36 = .ok (.goto 19, 3) := by decide +kernel
theorem dX4_plainlyTold_39 : decode cX4_plainlyTold 39 = .ok (.iload 5, 2) := by decide +kernel
theorem dX4_plainlyTold_41 : decode cX4_plainlyTold 41 = .ok (.iconst 5, 1) := by decide +kernel
theorem dX4_plainlyTold_42 : decode cX4_plainlyTold 42 = .ok (.if_icmp .eq 13, 3) := by decide +kernel
theorem dX4_plainlyTold_45 : decode cX4_plainlyTold 45 = .ok (.aload_n 0, 1) := by decide +kernel
theorem dX4_plainlyTold_46 : decode cX4_plainlyTold 46 = .ok (.iload 5, 2) := by decide +kernel
theorem dX4_plainlyTold_48 : decode cX4_plainlyTold 48 = .ok (.iload_n 2, 1) := by decide +kernel
theorem dX4_plainlyTold_49 : decode cX4_plainlyTold 49 = .ok (.iload_n 3, 1) := by decide +kernel
theorem dX4_plainlyTold_50 : decode cX4_plainlyTold 50 = .ok (.invokevirtual 79, 3) := by decide +kernel
theorem dX4_plainlyTold_53 : decode cX4_plainlyTold 53 = .ok (.istore 6, 2) := by decide +kernel
theorem dX4_plainlyTold_55 : decode cX4_plainlyTold 55 = .ok (.iload 6, 2) := by decide +kernel
theorem dX4_plainlyTold_57 : decode cX4_plainlyTold 57 = .ok (.ldc 83, 2) := by decide +kernel
theorem dX4_plainlyTold_59 : decode cX4_plainlyTold 59 = .ok (.if_icmp .ne 5, 3) := by decide +kernel
theorem dX4_plainlyTold_62 : decode cX4_plainlyTold 62 = .ok (.iconst (-1), 1) := by decide +kernel
theorem dX4_plainlyTold_63 : decode cX4_plainlyTold 63 = .ok (.ireturn, 1) := by decide +kernel
theorem dX4_plainlyTold_64 : decode cX4_plainlyTold 64 = .ok (.iload 5, 2) := by decide +kernel
theorem dX4_plainlyTold_66 : decode cX4_plainlyTold 66 = .ok (.invokestatic 84, 3) := by decide +kernel
theorem dX4_plainlyTold_69 : decode cX4_plainlyTold 69 = .ok (.ifCond .eq 17, 3) := by decide +kernel
theorem dX4_plainlyTold_72 : decode cX4_plainlyTold 72 = .ok (.iload 6, 2) := by decide +kernel
theorem dX4_plainlyTold_74 : decode cX4_plainlyTold 74 = .ok (.bipush 100, 2) := by decide +kernel
theorem dX4_plainlyTold_76 : decode cX4_plainlyTold 76 = .ok (.iload 4, 2) := by decide +kernel
theorem dX4_plainlyTold_78 : decode cX4_plainlyTold 78 = .ok (.iadd, 1) := by decide +kernel
theorem dX4_plainlyTold_79 : decode cX4_plainlyTold 79 = .ok (.imul, 1) := by decide +kernel
theorem dX4_plainlyTold_80 : decode cX4_plainlyTold 80 = .ok (.bipush 100, 2) := by decide +kernel
theorem dX4_plainlyTold_82 : decode cX4_plainlyTold 82 = .ok (.idiv, 1) := by decide +kernel
theorem dX4_plainlyTold_83 : decode cX4_plainlyTold 83 = .ok (.goto 5, 3) := by decide +kernel
theorem dX4_plainlyTold_86 : decode cX4_plainlyTold 86 = .ok (.iload 6, 2) := by decide +kernel
theorem dX4_plainlyTold_88 : decode cX4_plainlyTold 88 = .ok (.istore 7, 2) := by decide +kernel
theorem dX4_plainlyTold_90 : decode cX4_plainlyTold 90 = .ok (.sipush 720, 3) := by decide +kernel
theorem dX4_plainlyTold_93 : decode cX4_plainlyTold 93 = .ok (.iload 7, 2) := by decide +kernel
theorem dX4_plainlyTold_95 : decode cX4_plainlyTold 95 = .ok (.iadd, 1) := by decide +kernel
theorem dX4_plainlyTold_96 : decode cX4_plainlyTold 96 = .ok (.aload_n 0, 1) := by decide +kernel
theorem dX4_plainlyTold_97 : decode cX4_plainlyTold 97 = .ok (.getfield 31, 3) := by decide +kernel
theorem dX4_plainlyTold_100 : decode cX4_plainlyTold 100 = .ok (.iload_n 1, 1) := by decide +kernel
theorem dX4_plainlyTold_101 : decode cX4_plainlyTold 101 = .ok (.iaload, 1) := by decide +kernel
theorem dX4_plainlyTold_102 : decode cX4_plainlyTold 102 = .ok (.iadd, 1) := by decide +kernel
theorem dX4_plainlyTold_103 : decode cX4_plainlyTold 103 = .ok (.sipush 1440, 3) := by decide +kernel
theorem dX4_plainlyTold_106 : decode cX4_plainlyTold 106 = .ok (.invokestatic 68, 3) := by decide +kernel
theorem dX4_plainlyTold_109 : decode cX4_plainlyTold 109 = .ok (.ireturn, 1) := by decide +kernel
theorem dX4_hasTilt_0 : decode cX4_hasTilt 0 = .ok (.iload_n 0, 1) := by decide +kernel
theorem dX4_hasTilt_1 : decode cX4_hasTilt 1 = .ok (.iconst 2, 1) := by decide +kernel
theorem dX4_hasTilt_2 : decode cX4_hasTilt 2 = .ok (.if_icmp .eq 12, 3) := by decide +kernel
theorem dX4_hasTilt_5 : decode cX4_hasTilt 5 = .ok (.iload_n 0, 1) := by decide +kernel
theorem dX4_hasTilt_6 : decode cX4_hasTilt 6 = .ok (.iconst 4, 1) := by decide +kernel
theorem dX4_hasTilt_7 : decode cX4_hasTilt 7 = .ok (.if_icmp .eq 7, 3) := by decide +kernel
theorem dX4_hasTilt_10 : decode cX4_hasTilt 10 = .ok (.iconst 1, 1) := by decide +kernel
theorem dX4_hasTilt_11 : decode cX4_hasTilt 11 = .ok (.goto 4, 3) := by decide +kernel
theorem dX4_hasTilt_14 : decode cX4_hasTilt 14 = .ok (.iconst 0, 1) := by decide +kernel
theorem dX4_hasTilt_15 : decode cX4_hasTilt 15 = .ok (.ireturn, 1) := by decide +kernel
theorem dX4_sunAngle_0 : decode cX4_sunAngle 0 = .ok (.iload_n 3, 1) := by decide +kernel
theorem dX4_sunAngle_1 : decode cX4_sunAngle 1 = .ok (.aload_n 0, 1) := by decide +kernel
theorem dX4_sunAngle_2 : decode cX4_sunAngle 2 = .ok (.iload_n 2, 1) := by decide +kernel
theorem dX4_sunAngle_3 : decode cX4_sunAngle 3 = .ok (.invokevirtual 88, 3) := by decide +kernel
theorem dX4_sunAngle_6 : decode cX4_sunAngle 6 = .ok (.isub, 1) := by decide +kernel
theorem dX4_sunAngle_7 : decode cX4_sunAngle 7 = .ok (.istore 4, 2) := by decide +kernel
theorem dX4_sunAngle_9 : decode cX4_sunAngle 9 = .ok (.iload 4, 2) := by decide +kernel
theorem dX4_sunAngle_11 : decode cX4_sunAngle 11 = .ok (.invokestatic 58, 3) := by decide +kernel
theorem dX4_sunAngle_14 : decode cX4_sunAngle 14 = .ok (.aload_n 0, 1) := by decide +kernel
theorem dX4_sunAngle_15 : decode cX4_sunAngle 15 = .ok (.iload_n 2, 1) := by decide +kernel
theorem dX4_sunAngle_16 : decode cX4_sunAngle 16 = .ok (.invokevirtual 91, 3) := by decide +kernel
theorem dX4_sunAngle_19 : decode cX4_sunAngle 19 = .ok (.if_icmp .gt 12, 3) := by decide +kernel
theorem dX4_sunAngle_22 : decode cX4_sunAngle 22 = .ok (.aload_n 0, 1) := by decide +kernel
theorem dX4_sunAngle_23 : decode cX4_sunAngle 23 = .ok (.iload_n 2, 1) := by decide +kernel
theorem dX4_sunAngle_24 : decode cX4_sunAngle 24 = .ok (.iload_n 3, 1) := by decide +kernel
theorem dX4_sunAngle_25 : decode cX4_sunAngle 25 = .ok (.invokevirtual 94, 3) := by decide +kernel
theorem dX4_sunAngle_28 : decode cX4_sunAngle 28 = .ok (.ifCond .eq 6, 3) := by decide +kernel
theorem dX4_sunAngle_31 : decode cX4_sunAngle 31 = .ok (.ldc 83, 2) := by decide +kernel
theorem dX4_sunAngle_33 : decode cX4_sunAngle 33 = .ok (.ireturn, 1) := by decide +kernel
theorem dX4_sunAngle_34 : decode cX4_sunAngle 34 = .ok (.iload_n 1, 1) := by decide +kernel
theorem dX4_sunAngle_35 : decode cX4_sunAngle 35 = .ok (.ifCond .ne 8, 3) := by decide +kernel
theorem dX4_sunAngle_38 : decode cX4_sunAngle 38 = .ok (.iload 4, 2) := by decide +kernel
theorem dX4_sunAngle_40 : decode cX4_sunAngle 40 = .ok (.ifCond .gt 13, 3) := by decide +kernel
theorem dX4_sunAngle_43 : decode cX4_sunAngle 43 = .ok (.iload_n 1, 1) := by decide +kernel
theorem dX4_sunAngle_44 : decode cX4_sunAngle 44 = .ok (.iconst 1, 1) := by decide +kernel
theorem dX4_sunAngle_45 : decode cX4_sunAngle 45 = .ok (.if_icmp .ne 11, 3) := by decide +kernel
theorem dX4_sunAngle_48 : decode cX4_sunAngle 48 = .ok (.iload 4, 2) := by decide +kernel
theorem dX4_sunAngle_50 : decode cX4_sunAngle 50 = .ok (.ifCond .ge 6, 3) := by decide +kernel
theorem dX4_sunAngle_53 : decode cX4_sunAngle 53 = .ok (.ldc 83, 2) := by decide +kernel
theorem dX4_sunAngle_55 : decode cX4_sunAngle 55 = .ok (.ireturn, 1) := by decide +kernel
theorem dX4_sunAngle_56 : decode cX4_sunAngle 56 = .ok (.iload 4, 2) := by decide +kernel
theorem dX4_sunAngle_58 : decode cX4_sunAngle 58 = .ok (.ireturn, 1) := by decide +kernel
theorem dX4_moonAngle_0 : decode cX4_moonAngle 0 = .ok (.iload_n 1, 1) := by decide +kernel
theorem dX4_moonAngle_1 : decode cX4_moonAngle 1 = .ok (.invokestatic 97, 3) := by decide +kernel
theorem dX4_moonAngle_4 : decode cX4_moonAngle 4 = .ok (.ifCond .eq 21, 3) := by decide +kernel
theorem dX4_moonAngle_7 : decode cX4_moonAngle 7 = .ok (.iload_n 2, 1) := by decide +kernel
theorem dX4_moonAngle_8 : decode cX4_moonAngle 8 = .ok (.aload_n 0, 1) := by decide +kernel
theorem dX4_moonAngle_9 : decode cX4_moonAngle 9 = .ok (.iload_n 1, 1) := by decide +kernel
theorem dX4_moonAngle_10 : decode cX4_moonAngle 10 = .ok (.invokevirtual 88, 3) := by decide +kernel
theorem dX4_moonAngle_13 : decode cX4_moonAngle 13 = .ok (.isub, 1) := by decide +kernel
theorem dX4_moonAngle_14 : decode cX4_moonAngle 14 = .ok (.invokestatic 58, 3) := by decide +kernel
theorem dX4_moonAngle_17 : decode cX4_moonAngle 17 = .ok (.aload_n 0, 1) := by decide +kernel
theorem dX4_moonAngle_18 : decode cX4_moonAngle 18 = .ok (.iload_n 1, 1) := by decide +kernel
theorem dX4_moonAngle_19 : decode cX4_moonAngle 19 = .ok (.invokevirtual 91, 3) := by decide +kernel
theorem dX4_moonAngle_22 : decode cX4_moonAngle 22 = .ok (.if_icmp .gt 6, 3) := by decide +kernel
theorem dX4_moonAngle_25 : decode cX4_moonAngle 25 = .ok (.ldc 83, 2) := by decide +kernel
theorem dX4_moonAngle_27 : decode cX4_moonAngle 27 = .ok (.ireturn, 1) := by decide +kernel
theorem dX4_moonAngle_28 : decode cX4_moonAngle 28 = .ok (.iload_n 2, 1) := by decide +kernel
theorem dX4_moonAngle_29 : decode cX4_moonAngle 29 = .ok (.iload_n 1, 1) := by decide +kernel
theorem dX4_moonAngle_30 : decode cX4_moonAngle 30 = .ok (.invokestatic 100, 3) := by decide +kernel
theorem dX4_moonAngle_33 : decode cX4_moonAngle 33 = .ok (.isub, 1) := by decide +kernel
theorem dX4_moonAngle_34 : decode cX4_moonAngle 34 = .ok (.invokestatic 103, 3) := by decide +kernel
theorem dX4_moonAngle_37 : decode cX4_moonAngle 37 = .ok (.istore_n 3, 1) := by decide +kernel
theorem dX4_moonAngle_38 : decode cX4_moonAngle 38 = .ok (.iload_n 3, 1) := by decide +kernel
theorem dX4_moonAngle_39 : decode cX4_moonAngle 39 = .ok (.invokestatic 58, 3) := by decide +kernel
theorem dX4_moonAngle_42 : decode cX4_moonAngle 42 = .ok (.sipush 360, 3) := by decide +kernel
theorem dX4_moonAngle_45 : decode cX4_moonAngle 45 = .ok (.if_icmp .le 8, 3) := by decide +kernel
theorem dX4_moonAngle_48 : decode cX4_moonAngle 48 = .ok (.ldc 83, 2) := by decide +kernel
theorem dX4_moonAngle_50 : decode cX4_moonAngle 50 = .ok (.goto 4, 3) := by decide +kernel
theorem dX4_moonAngle_53 : decode cX4_moonAngle 53 = .ok (.iload_n 3, 1) := by decide +kernel
theorem dX4_moonAngle_54 : decode cX4_moonAngle 54 = .ok (.ireturn, 1) := by decide +kernel
theorem dX4_moonNoonOf_0 : decode cX4_moonNoonOf 0 = .ok (.sipush 720, 3) := by decide +kernel
theorem dX4_moonNoonOf_3 : decode cX4_moonNoonOf 3 = .ok (.bipush 48, 2) := by decide +kernel
theorem dX4_moonNoonOf_5 : decode cX4_moonNoonOf 5 = .ok (.iload_n 0, 1) := by decide +kernel
theorem dX4_moonNoonOf_6 : decode cX4_moonNoonOf 6 = .ok (.bipush 30, 2) := by decide +kernel
theorem dX4_moonNoonOf_8 : decode cX4_moonNoonOf 8 = .ok (.irem, 1) := by decide +kernel
theorem dX4_moonNoonOf_9 : decode cX4_moonNoonOf 9 = .ok (.imul, 1) := by decide +kernel
theorem dX4_moonNoonOf_10 : decode cX4_moonNoonOf 10 = .ok (.iadd, 1) := by decide +kernel
theorem dX4_moonNoonOf_11 : decode cX4_moonNoonOf 11 = .ok (.ireturn, 1) := by decide +kernel
theorem dX4_findMoments_0 : decode cX4_findMoments 0 = .ok (.aload_n 0, 1) := by decide +kernel
theorem dX4_findMoments_1 : decode cX4_findMoments 1 = .ok (.getfield 21, 3) := by decide +kernel
theorem dX4_findMoments_4 : decode cX4_findMoments 4 = .ok (.iload_n 1, 1) := by decide +kernel
theorem dX4_findMoments_5 : decode cX4_findMoments 5 = .ok (.iaload, 1) := by decide +kernel
theorem dX4_findMoments_6 : decode cX4_findMoments 6 = .ok (.istore 6, 2) := by decide +kernel
theorem dX4_findMoments_8 : decode cX4_findMoments 8 = .ok (.iload 6, 2) := by decide +kernel
theorem dX4_findMoments_10 : decode cX4_findMoments 10 = .ok (.invokestatic 84, 3) := by decide +kernel
theorem dX4_findMoments_13 : decode cX4_findMoments 13 = .ok (.ifCond .eq 15, 3) := by decide +kernel
theorem dX4_findMoments_16 : decode cX4_findMoments 16 = .ok (.bipush 100, 2) := by decide +kernel
theorem dX4_findMoments_18 : decode cX4_findMoments 18 = .ok (.aload_n 0, 1) := by decide +kernel
theorem dX4_findMoments_19 : decode cX4_findMoments 19 = .ok (.getfield 28, 3) := by decide +kernel
theorem dX4_findMoments_22 : decode cX4_findMoments 22 = .ok (.iload_n 1, 1) := by decide +kernel
theorem dX4_findMoments_23 : decode cX4_findMoments 23 = .ok (.iaload, 1) := by decide +kernel
theorem dX4_findMoments_24 : decode cX4_findMoments 24 = .ok (.iadd, 1) := by decide +kernel
theorem dX4_findMoments_25 : decode cX4_findMoments 25 = .ok (.goto 5, 3) := by decide +kernel
theorem dX4_findMoments_28 : decode cX4_findMoments 28 = .ok (.bipush 100, 2) := by decide +kernel
theorem dX4_findMoments_30 : decode cX4_findMoments 30 = .ok (.istore 7, 2) := by decide +kernel
theorem dX4_findMoments_32 : decode cX4_findMoments 32 = .ok (.iload 7, 2) := by decide +kernel
theorem dX4_findMoments_34 : decode cX4_findMoments 34 = .ok (.ifCond .gt 5, 3) := by decide +kernel
theorem dX4_findMoments_37 : decode cX4_findMoments 37 = .ok (.iconst 0, 1) := by decide +kernel
theorem dX4_findMoments_38 : decode cX4_findMoments 38 = .ok (.ireturn, 1) := by decide +kernel
theorem dX4_findMoments_39 : decode cX4_findMoments 39 = .ok (.iconst 0, 1) := by decide +kernel
theorem dX4_findMoments_40 : decode cX4_findMoments 40 = .ok (.istore 8, 2) := by decide +kernel
theorem dX4_findMoments_42 : decode cX4_findMoments 42 = .ok (.iload_n 3, 1) := by decide +kernel
theorem dX4_findMoments_43 : decode cX4_findMoments 43 = .ok (.sipush 720, 3) := by decide +kernel
theorem dX4_findMoments_46 : decode cX4_findMoments 46 = .ok (.isub, 1) := by decide +kernel
theorem dX4_findMoments_47 : decode cX4_findMoments 47 = .ok (.iload 4, 2) := by decide +kernel
theorem dX4_findMoments_49 : decode cX4_findMoments 49 = .ok (.isub, 1) := by decide +kernel
theorem dX4_findMoments_50 : decode cX4_findMoments 50 = .ok (.aload_n 0, 1) := by decide +kernel
theorem dX4_findMoments_51 : decode cX4_findMoments 51 = .ok (.getfield 31, 3) := by decide +kernel
theorem dX4_findMoments_54 : decode cX4_findMoments 54 = .ok (.iload_n 1, 1) := by decide +kernel
theorem dX4_findMoments_55 : decode cX4_findMoments 55 = .ok (.iaload, 1) := by decide +kernel
theorem dX4_findMoments_56 : decode cX4_findMoments 56 = .ok (.isub, 1) := by decide +kernel
theorem dX4_findMoments_57 : decode cX4_findMoments 57 = .ok (.sipush 1440, 3) := by decide +kernel
theorem dX4_findMoments_60 : decode cX4_findMoments 60 = .ok (.invokestatic 68, 3) := by decide +kernel
theorem dX4_findMoments_63 : decode cX4_findMoments 63 = .ok (.istore 9, 2) := by decide +kernel
theorem dX4_findMoments_65 : decode cX4_findMoments 65 = .ok (.iconst 0, 1) := by decide +kernel
theorem dX4_findMoments_66 : decode cX4_findMoments 66 = .ok (.istore 10, 2) := by decide +kernel
theorem dX4_findMoments_68 : decode cX4_findMoments 68 = .ok (.iload 10, 2) := by decide +kernel
theorem dX4_findMoments_70 : decode cX4_findMoments 70 = .ok (.iconst 2, 1) := by decide +kernel
theorem dX4_findMoments_71 : decode cX4_findMoments 71 = .ok (.if_icmp .ge 102, 3) := by decide +kernel
theorem dX4_findMoments_74 : decode cX4_findMoments 74 = .ok (.iload 9, 2) := by decide +kernel
theorem dX4_findMoments_76 : decode cX4_findMoments 76 = .ok (.iload 10, 2) := by decide +kernel
theorem dX4_findMoments_78 : decode cX4_findMoments 78 = .ok (.sipush 1440, 3) := by decide +kernel
theorem dX4_findMoments_81 : decode cX4_findMoments 81 = .ok (.imul, 1) := by decide +kernel
theorem dX4_findMoments_82 : decode cX4_findMoments 82 = .ok (.isub, 1) := by decide +kernel
theorem dX4_findMoments_83 : decode cX4_findMoments 83 = .ok (.bipush 100, 2) := by decide +kernel
theorem dX4_findMoments_85 : decode cX4_findMoments 85 = .ok (.imul, 1) := by decide +kernel
theorem dX4_findMoments_86 : decode cX4_findMoments 86 = .ok (.iload 7, 2) := by decide +kernel
theorem dX4_findMoments_88 : decode cX4_findMoments 88 = .ok (.idiv, 1) := by decide +kernel
theorem dX4_findMoments_89 : decode cX4_findMoments 89 = .ok (.istore 11, 2) := by decide +kernel
theorem dX4_findMoments_91 : decode cX4_findMoments 91 = .ok (.iload 11, 2) := by decide +kernel
theorem dX4_findMoments_93 : decode cX4_findMoments 93 = .ok (.iconst 3, 1) := by decide +kernel
theorem dX4_findMoments_94 : decode cX4_findMoments 94 = .ok (.isub, 1) := by decide +kernel
theorem dX4_findMoments_95 : decode cX4_findMoments 95 = .ok (.istore 12, 2) := by decide +kernel
theorem dX4_findMoments_97 : decode cX4_findMoments 97 = .ok (.iload 12, 2) := by decide +kernel
theorem dX4_findMoments_99 : decode cX4_findMoments 99 = .ok (.iload 11, 2) := by decide +kernel
theorem dX4_findMoments_101 : decode cX4_findMoments 101 = .ok (.iconst 3, 1) := by decide +kernel
theorem dX4_findMoments_102 : decode cX4_findMoments 102 = .ok (.iadd, 1) := by decide +kernel
theorem dX4_findMoments_103 : decode cX4_findMoments 103 = .ok (.if_icmp .gt 64, 3) := by decide +kernel
theorem dX4_findMoments_106 : decode cX4_findMoments 106 = .ok (.aload_n 0, 1) := by decide +kernel
theorem dX4_findMoments_107 : decode cX4_findMoments 107 = .ok (.iload 6, 2) := by decide +kernel
theorem dX4_findMoments_109 : decode cX4_findMoments 109 = .ok (.iload_n 2, 1) := by decide +kernel
theorem dX4_findMoments_110 : decode cX4_findMoments 110 = .ok (.iload 12, 2) := by decide +kernel
theorem dX4_findMoments_112 : decode cX4_findMoments 112 = .ok (.invokevirtual 106, 3) := by decide +kernel
theorem dX4_findMoments_115 : decode cX4_findMoments 115 = .ok (.istore 13, 2) := by decide +kernel
theorem dX4_findMoments_117 : decode cX4_findMoments 117 = .ok (.iload 13, 2) := by decide +kernel
theorem dX4_findMoments_119 : decode cX4_findMoments 119 = .ok (.iconst (-1), 1) := by decide +kernel
theorem dX4_findMoments_120 : decode cX4_findMoments 120 = .ok (.if_icmp .eq 41, 3) := by decide +kernel
theorem dX4_findMoments_123 : decode cX4_findMoments 123 = .ok (.iload 8, 2) := by decide +kernel
theorem dX4_findMoments_125 : decode cX4_findMoments 125 = .ok (.aload 5, 2) := by decide +kernel
theorem dX4_findMoments_127 : decode cX4_findMoments 127 = .ok (.arraylength, 1) := by decide +kernel
theorem dX4_findMoments_128 : decode cX4_findMoments 128 = .ok (.if_icmp .ge 33, 3) := by decide +kernel
theorem dX4_findMoments_131 : decode cX4_findMoments 131 = .ok (.aload_n 0, 1) := by decide +kernel
theorem dX4_findMoments_132 : decode cX4_findMoments 132 = .ok (.iload_n 1, 1) := by decide +kernel
theorem dX4_findMoments_133 : decode cX4_findMoments 133 = .ok (.iload_n 2, 1) := by decide +kernel
theorem dX4_findMoments_134 : decode cX4_findMoments 134 = .ok (.iload 13, 2) := by decide +kernel
theorem dX4_findMoments_136 : decode cX4_findMoments 136 = .ok (.iload 4, 2) := by decide +kernel
theorem dX4_findMoments_138 : decode cX4_findMoments 138 = .ok (.aload_n 0, 1) := by decide +kernel
theorem dX4_findMoments_139 : decode cX4_findMoments 139 = .ok (.getfield 28, 3) := by decide +kernel
theorem dX4_findMoments_142 : decode cX4_findMoments 142 = .ok (.iload_n 1, 1) := by decide +kernel
theorem dX4_findMoments_143 : decode cX4_findMoments 143 = .ok (.iaload, 1) := by decide +kernel
theorem dX4_findMoments_144 : decode cX4_findMoments 144 = .ok (.invokevirtual 109, 3) := by decide +kernel
theorem dX4_findMoments_147 : decode cX4_findMoments 147 = .ok (.iload_n 3, 1) := by decide +kernel
theorem dX4_findMoments_148 : decode cX4_findMoments 148 = .ok (.if_icmp .ne 13, 3) := by decide +kernel
theorem dX4_findMoments_151 : decode cX4_findMoments 151 = .ok (.aload 5, 2) := by decide +kernel
theorem dX4_findMoments_153 : decode cX4_findMoments 153 = .ok (.iload 8, 2) := by decide +kernel
theorem dX4_findMoments_155 : decode cX4_findMoments 155 = .ok (.iload 13, 2) := by decide +kernel
theorem dX4_findMoments_157 : decode cX4_findMoments 157 = .ok (.iastore, 1) := by decide +kernel
theorem dX4_findMoments_158 : decode cX4_findMoments 158 = .ok (.iinc 8 1, 3) := by decide +kernel
theorem dX4_findMoments_161 : decode cX4_findMoments 161 = .ok (.iinc 12 1, 3) := by decide +kernel
theorem dX4_findMoments_164 : decode cX4_findMoments 164 = .ok (.goto (-67), 3) := by decide +kernel
theorem dX4_findMoments_167 : decode cX4_findMoments 167 = .ok (.iinc 10 1, 3) := by decide +kernel
theorem dX4_findMoments_170 : decode cX4_findMoments 170 = .ok (.goto (-102), 3) := by decide +kernel
theorem dX4_findMoments_173 : decode cX4_findMoments 173 = .ok (.iload 8, 2) := by decide +kernel
theorem dX4_findMoments_175 : decode cX4_findMoments 175 = .ok (.ireturn, 1) := by decide +kernel
theorem dX4_minuteAt_0 : decode cX4_minuteAt 0 = .ok (.iload_n 1, 1) := by decide +kernel
theorem dX4_minuteAt_1 : decode cX4_minuteAt 1 = .ok (.iconst 3, 1) := by decide +kernel
theorem dX4_minuteAt_2 : decode cX4_minuteAt 2 = .ok (.if_icmp .ne 30, 3) := by decide +kernel
theorem dX4_minuteAt_5 : decode cX4_minuteAt 5 = .ok (.iload_n 3, 1) := by decide +kernel
theorem dX4_minuteAt_6 : decode cX4_minuteAt 6 = .ok (.invokestatic 58, 3) := by decide +kernel
theorem dX4_minuteAt_9 : decode cX4_minuteAt 9 = .ok (.sipush 360, 3) := by decide +kernel
theorem dX4_minuteAt_12 : decode cX4_minuteAt 12 = .ok (.if_icmp .le 7, 3) := by decide +kernel
theorem dX4_minuteAt_15 : decode cX4_minuteAt 15 = .ok (.iconst (-1), 1) := by decide +kernel
theorem dX4_minuteAt_16 : decode cX4_minuteAt 16 = .ok (.goto 15, 3) := by decide +kernel
theorem dX4_minuteAt_19 : decode cX4_minuteAt 19 = .ok (.iload_n 2, 1) := by decide +kernel
theorem dX4_minuteAt_20 : decode cX4_minuteAt 20 = .ok (.invokestatic 100, 3) := by decide +kernel
theorem dX4_minuteAt_23 : decode cX4_minuteAt 23 = .ok (.iload_n 3, 1) := by decide +kernel
theorem dX4_minuteAt_24 : decode cX4_minuteAt 24 = .ok (.iadd, 1) := by decide +kernel
theorem dX4_minuteAt_25 : decode cX4_minuteAt 25 = .ok (.sipush 1440, 3) := by decide +kernel
theorem dX4_minuteAt_28 : decode cX4_minuteAt 28 = .ok (.invokestatic 68, 3) := by decide +kernel
theorem dX4_minuteAt_31 : decode cX4_minuteAt 31 = .ok (.ireturn, 1) := by decide +kernel
theorem dX4_minuteAt_32 : decode cX4_minuteAt 32 = .ok (.iload_n 3, 1) := by decide +kernel
theorem dX4_minuteAt_33 : decode cX4_minuteAt 33 = .ok (.invokestatic 58, 3) := by decide +kernel
theorem dX4_minuteAt_36 : decode cX4_minuteAt 36 = .ok (.aload_n 0, 1) := by decide +kernel
theorem dX4_minuteAt_37 : decode cX4_minuteAt 37 = .ok (.iload_n 2, 1) := by decide +kernel
theorem dX4_minuteAt_38 : decode cX4_minuteAt 38 = .ok (.invokevirtual 91, 3) := by decide +kernel
theorem dX4_minuteAt_41 : decode cX4_minuteAt 41 = .ok (.if_icmp .le 7, 3) := by decide +kernel
theorem dX4_minuteAt_44 : decode cX4_minuteAt 44 = .ok (.iconst (-1), 1) := by decide +kernel
theorem dX4_minuteAt_45 : decode cX4_minuteAt 45 = .ok (.goto 10, 3) := by decide +kernel
theorem dX4_minuteAt_48 : decode cX4_minuteAt 48 = .ok (.aload_n 0, 1) := by decide +kernel
theorem dX4_minuteAt_49 : decode cX4_minuteAt 49 = .ok (.iload_n 2, 1) := by decide +kernel
theorem dX4_minuteAt_50 : decode cX4_minuteAt 50 = .ok (.invokevirtual 88, 3) := by decide +kernel
theorem dX4_minuteAt_53 : decode cX4_minuteAt 53 = .ok (.iload_n 3, 1) := by decide +kernel
theorem dX4_minuteAt_54 : decode cX4_minuteAt 54 = .ok (.iadd, 1) := by decide +kernel
theorem dX4_minuteAt_55 : decode cX4_minuteAt 55 = .ok (.ireturn, 1) := by decide +kernel
theorem dX4_litMinutes_0 : decode cX4_litMinutes 0 = .ok (.aload_n 0, 1) := by decide +kernel
theorem dX4_litMinutes_1 : decode cX4_litMinutes 1 = .ok (.getfield 21, 3) := by decide +kernel
theorem dX4_litMinutes_4 : decode cX4_litMinutes 4 = .ok (.iload_n 1, 1) := by decide +kernel
theorem dX4_litMinutes_5 : decode cX4_litMinutes 5 = .ok (.iaload, 1) := by decide +kernel
theorem dX4_litMinutes_6 : decode cX4_litMinutes 6 = .ok (.iconst 5, 1) := by decide +kernel
theorem dX4_litMinutes_7 : decode cX4_litMinutes 7 = .ok (.if_icmp .eq 12, 3) := by decide +kernel
theorem dX4_litMinutes_10 : decode cX4_litMinutes 10 = .ok (.aload_n 0, 1) := by decide +kernel
theorem dX4_litMinutes_11 : decode cX4_litMinutes 11 = .ok (.iload_n 1, 1) := by decide +kernel
theorem dX4_litMinutes_12 : decode cX4_litMinutes 12 = .ok (.iload_n 2, 1) := by decide +kernel
theorem dX4_litMinutes_13 : decode cX4_litMinutes 13 = .ok (.invokevirtual 72, 3) := by decide +kernel
theorem dX4_litMinutes_16 : decode cX4_litMinutes 16 = .ok (.ifCond .eq 5, 3) := by decide +kernel
theorem dX4_litMinutes_19 : decode cX4_litMinutes 19 = .ok (.iconst 0, 1) := by decide +kernel
theorem dX4_litMinutes_20 : decode cX4_litMinutes 20 = .ok (.ireturn, 1) := by decide +kernel
theorem dX4_litMinutes_21 : decode cX4_litMinutes 21 = .ok (.aload_n 0, 1) := by decide +kernel
theorem dX4_litMinutes_22 : decode cX4_litMinutes 22 = .ok (.getfield 21, 3) := by decide +kernel
theorem dX4_litMinutes_25 : decode cX4_litMinutes 25 = .ok (.iload_n 1, 1) := by decide +kernel
theorem dX4_litMinutes_26 : decode cX4_litMinutes 26 = .ok (.iaload, 1) := by decide +kernel
theorem dX4_litMinutes_27 : decode cX4_litMinutes 27 = .ok (.iconst 3, 1) := by decide +kernel
theorem dX4_litMinutes_28 : decode cX4_litMinutes 28 = .ok (.if_icmp .ne 11, 3) := by decide +kernel
theorem dX4_litMinutes_31 : decode cX4_litMinutes 31 = .ok (.aload_n 0, 1) := by decide +kernel
theorem dX4_litMinutes_32 : decode cX4_litMinutes 32 = .ok (.iload_n 2, 1) := by decide +kernel
theorem dX4_litMinutes_33 : decode cX4_litMinutes 33 = .ok (.invokevirtual 113, 3) := by decide +kernel
theorem dX4_litMinutes_36 : decode cX4_litMinutes 36 = .ok (.goto 14, 3) := by decide +kernel
theorem dX4_litMinutes_39 : decode cX4_litMinutes 39 = .ok (.aload_n 0, 1) := by decide +kernel
theorem dX4_litMinutes_40 : decode cX4_litMinutes 40 = .ok (.aload_n 0, 1) := by decide +kernel
theorem dX4_litMinutes_41 : decode cX4_litMinutes 41 = .ok (.getfield 21, 3) := by decide +kernel
theorem dX4_litMinutes_44 : decode cX4_litMinutes 44 = .ok (.iload_n 1, 1) := by decide +kernel
theorem dX4_litMinutes_45 : decode cX4_litMinutes 45 = .ok (.iaload, 1) := by decide +kernel
theorem dX4_litMinutes_46 : decode cX4_litMinutes 46 = .ok (.iload_n 2, 1) := by decide +kernel
theorem dX4_litMinutes_47 : decode cX4_litMinutes 47 = .ok (.invokevirtual 116, 3) := by decide +kernel
theorem dX4_litMinutes_50 : decode cX4_litMinutes 50 = .ok (.ireturn, 1) := by decide +kernel
theorem dX4_sunMinutes_0 : decode cX4_sunMinutes 0 = .ok (.aload_n 0, 1) := by decide +kernel
theorem dX4_sunMinutes_1 : decode cX4_sunMinutes 1 = .ok (.iload_n 2, 1) := by decide +kernel
theorem dX4_sunMinutes_2 : decode cX4_sunMinutes 2 = .ok (.invokevirtual 88, 3) := by decide +kernel
theorem dX4_sunMinutes_5 : decode cX4_sunMinutes 5 = .ok (.istore_n 3, 1) := by decide +kernel
theorem dX4_sunMinutes_6 : decode cX4_sunMinutes 6 = .ok (.aload_n 0, 1) := by decide +kernel
theorem dX4_sunMinutes_7 : decode cX4_sunMinutes 7 = .ok (.iload_n 2, 1) := by decide +kernel
theorem dX4_sunMinutes_8 : decode cX4_sunMinutes 8 = .ok (.invokevirtual 91, 3) := by decide +kernel
theorem dX4_sunMinutes_11 : decode cX4_sunMinutes 11 = .ok (.istore 4, 2) := by decide +kernel
theorem dX4_sunMinutes_13 : decode cX4_sunMinutes 13 = .ok (.iload_n 1, 1) := by decide +kernel
theorem dX4_sunMinutes_14 : decode cX4_sunMinutes 14 = .ok (.iconst 1, 1) := by decide +kernel
theorem dX4_sunMinutes_15 : decode cX4_sunMinutes 15 = .ok (.if_icmp .ne 7, 3) := by decide +kernel
theorem dX4_sunMinutes_18 : decode cX4_sunMinutes 18 = .ok (.iload_n 3, 1) := by decide +kernel
theorem dX4_sunMinutes_19 : decode cX4_sunMinutes 19 = .ok (.goto 7, 3) := by decide +kernel
theorem dX4_sunMinutes_22 : decode cX4_sunMinutes 22 = .ok (.iload_n 3, 1) := by decide +kernel
theorem dX4_sunMinutes_23 : decode cX4_sunMinutes 23 = .ok (.iload 4, 2) := by decide +kernel
theorem dX4_sunMinutes_25 : decode cX4_sunMinutes 25 = .ok (.isub, 1) := by decide +kernel
theorem dX4_sunMinutes_26 : decode cX4_sunMinutes 26 = .ok (.istore 5, 2) := by decide +kernel
theorem dX4_sunMinutes_28 : decode cX4_sunMinutes 28 = .ok (.iload_n 1, 1) := by decide +kernel
theorem dX4_sunMinutes_29 : decode cX4_sunMinutes 29 = .ok (.ifCond .ne 7, 3) := by decide +kernel
theorem dX4_sunMinutes_32 : decode cX4_sunMinutes 32 = .ok (.iload_n 3, 1) := by decide +kernel
theorem dX4_sunMinutes_33 : decode cX4_sunMinutes 33 = .ok (.goto 7, 3) := by decide +kernel
theorem dX4_sunMinutes_36 : decode cX4_sunMinutes 36 = .ok (.iload_n 3, 1) := by decide +kernel
theorem dX4_sunMinutes_37 : decode cX4_sunMinutes 37 = .ok (.iload 4, 2) := by decide +kernel
theorem dX4_sunMinutes_39 : decode cX4_sunMinutes 39 = .ok (.iadd, 1) := by decide +kernel
theorem dX4_sunMinutes_40 : decode cX4_sunMinutes 40 = .ok (.istore 6, 2) := by decide +kernel
theorem dX4_sunMinutes_42 : decode cX4_sunMinutes 42 = .ok (.aload_n 0, 1) := by decide +kernel
theorem dX4_sunMinutes_43 : decode cX4_sunMinutes 43 = .ok (.getfield 46, 3) := by decide +kernel
theorem dX4_sunMinutes_46 : decode cX4_sunMinutes 46 = .ok (.iload_n 2, 1) := by decide +kernel
theorem dX4_sunMinutes_47 : decode cX4_sunMinutes 47 = .ok (.iaload, 1) := by decide +kernel
theorem dX4_sunMinutes_48 : decode cX4_sunMinutes 48 = .ok (.ifCond .ne 11, 3) := by decide +kernel
theorem dX4_sunMinutes_51 : decode cX4_sunMinutes 51 = .ok (.iload 6, 2) := by decide +kernel
theorem dX4_sunMinutes_53 : decode cX4_sunMinutes 53 = .ok (.iload 5, 2) := by decide +kernel
theorem dX4_sunMinutes_55 : decode cX4_sunMinutes 55 = .ok (.isub, 1) := by decide +kernel
theorem dX4_sunMinutes_56 : decode cX4_sunMinutes 56 = .ok (.iconst 1, 1) := by decide +kernel
theorem dX4_sunMinutes_57 : decode cX4_sunMinutes 57 = .ok (.iadd, 1) := by decide +kernel
theorem dX4_sunMinutes_58 : decode cX4_sunMinutes 58 = .ok (.ireturn, 1) := by decide +kernel
theorem dX4_sunMinutes_59 : decode cX4_sunMinutes 59 = .ok (.iconst 0, 1) := by decide +kernel
theorem dX4_sunMinutes_60 : decode cX4_sunMinutes 60 = .ok (.istore 7, 2) := by decide +kernel
theorem dX4_sunMinutes_62 : decode cX4_sunMinutes 62 = .ok (.iload 5, 2) := by decide +kernel
theorem dX4_sunMinutes_64 : decode cX4_sunMinutes 64 = .ok (.istore 8, 2) := by decide +kernel
theorem dX4_sunMinutes_66 : decode cX4_sunMinutes 66 = .ok (.iload 8, 2) := by decide +kernel
theorem dX4_sunMinutes_68 : decode cX4_sunMinutes 68 = .ok (.iload 6, 2) := by decide +kernel
theorem dX4_sunMinutes_70 : decode cX4_sunMinutes 70 = .ok (.if_icmp .gt 22, 3) := by decide +kernel
theorem dX4_sunMinutes_73 : decode cX4_sunMinutes 73 = .ok (.aload_n 0, 1) := by decide +kernel
theorem dX4_sunMinutes_74 : decode cX4_sunMinutes 74 = .ok (.iload_n 2, 1) := by decide +kernel
theorem dX4_sunMinutes_75 : decode cX4_sunMinutes 75 = .ok (.iload 8, 2) := by decide +kernel
theorem dX4_sunMinutes_77 : decode cX4_sunMinutes 77 = .ok (.invokevirtual 94, 3) := by decide +kernel
theorem dX4_sunMinutes_80 : decode cX4_sunMinutes 80 = .ok (.ifCond .ne 6, 3) := by decide +kernel
theorem dX4_sunMinutes_83 : decode cX4_sunMinutes 83 = .ok (.iinc 7 1, 3) := by decide +kernel
theorem dX4_sunMinutes_86 : decode cX4_sunMinutes 86 = .ok (.iinc 8 1, 3) := by decide +kernel
theorem dX4_sunMinutes_89 : decode cX4_sunMinutes 89 = .ok (.goto (-23), 3) := by decide +kernel
theorem dX4_sunMinutes_92 : decode cX4_sunMinutes 92 = .ok (.iload 7, 2) := by decide +kernel
theorem dX4_sunMinutes_94 : decode cX4_sunMinutes 94 = .ok (.ireturn, 1) := by decide +kernel
theorem dX4_moonMinutes_0 : decode cX4_moonMinutes 0 = .ok (.iload_n 1, 1) := by decide +kernel
theorem dX4_moonMinutes_1 : decode cX4_moonMinutes 1 = .ok (.invokestatic 97, 3) := by decide +kernel
theorem dX4_moonMinutes_4 : decode cX4_moonMinutes 4 = .ok (.ifCond .ne 5, 3) := by decide +kernel
theorem dX4_moonMinutes_7 : decode cX4_moonMinutes 7 = .ok (.iconst 0, 1) := by decide +kernel
theorem dX4_moonMinutes_8 : decode cX4_moonMinutes 8 = .ok (.ireturn, 1) := by decide +kernel
theorem dX4_moonMinutes_9 : decode cX4_moonMinutes 9 = .ok (.iload_n 1, 1) := by decide +kernel
theorem dX4_moonMinutes_10 : decode cX4_moonMinutes 10 = .ok (.invokestatic 100, 3) := by decide +kernel
theorem dX4_moonMinutes_13 : decode cX4_moonMinutes 13 = .ok (.sipush 360, 3) := by decide +kernel
theorem dX4_moonMinutes_16 : decode cX4_moonMinutes 16 = .ok (.isub, 1) := by decide +kernel
theorem dX4_moonMinutes_17 : decode cX4_moonMinutes 17 = .ok (.istore_n 2, 1) := by decide +kernel
theorem dX4_moonMinutes_18 : decode cX4_moonMinutes 18 = .ok (.iload_n 1, 1) := by decide +kernel
theorem dX4_moonMinutes_19 : decode cX4_moonMinutes 19 = .ok (.invokestatic 100, 3) := by decide +kernel
theorem dX4_moonMinutes_22 : decode cX4_moonMinutes 22 = .ok (.sipush 360, 3) := by decide +kernel
theorem dX4_moonMinutes_25 : decode cX4_moonMinutes 25 = .ok (.iadd, 1) := by decide +kernel
theorem dX4_moonMinutes_26 : decode cX4_moonMinutes 26 = .ok (.istore_n 3, 1) := by decide +kernel
theorem dX4_moonMinutes_27 : decode cX4_moonMinutes 27 = .ok (.aload_n 0, 1) := by decide +kernel
theorem dX4_moonMinutes_28 : decode cX4_moonMinutes 28 = .ok (.iload_n 1, 1) := by decide +kernel
theorem dX4_moonMinutes_29 : decode cX4_moonMinutes 29 = .ok (.invokevirtual 88, 3) := by decide +kernel
theorem dX4_moonMinutes_32 : decode cX4_moonMinutes 32 = .ok (.aload_n 0, 1) := by decide +kernel
theorem dX4_moonMinutes_33 : decode cX4_moonMinutes 33 = .ok (.iload_n 1, 1) := by decide +kernel
theorem dX4_moonMinutes_34 : decode cX4_moonMinutes 34 = .ok (.invokevirtual 91, 3) := by decide +kernel
theorem dX4_moonMinutes_37 : decode cX4_moonMinutes 37 = .ok (.isub, 1) := by decide +kernel
theorem dX4_moonMinutes_38 : decode cX4_moonMinutes 38 = .ok (.istore 4, 2) := by decide +kernel
theorem dX4_moonMinutes_40 : decode cX4_moonMinutes 40 = .ok (.aload_n 0, 1) := by decide +kernel
theorem dX4_moonMinutes_41 : decode cX4_moonMinutes 41 = .ok (.iload_n 1, 1) := by decide +kernel
theorem dX4_moonMinutes_42 : decode cX4_moonMinutes 42 = .ok (.invokevirtual 88, 3) := by decide +kernel
theorem dX4_moonMinutes_45 : decode cX4_moonMinutes 45 = .ok (.aload_n 0, 1) := by decide +kernel
theorem dX4_moonMinutes_46 : decode cX4_moonMinutes 46 = .ok (.iload_n 1, 1) := by decide +kernel
theorem dX4_moonMinutes_47 : decode cX4_moonMinutes 47 = .ok (.invokevirtual 91, 3) := by decide +kernel
theorem dX4_moonMinutes_50 : decode cX4_moonMinutes 50 = .ok (.iadd, 1) := by decide +kernel
theorem dX4_moonMinutes_51 : decode cX4_moonMinutes 51 = .ok (.istore 5, 2) := by decide +kernel
theorem dX4_moonMinutes_53 : decode cX4_moonMinutes 53 = .ok (.iload_n 3, 1) := by decide +kernel
theorem dX4_moonMinutes_54 : decode cX4_moonMinutes 54 = .ok (.iload_n 2, 1) := by decide +kernel
theorem dX4_moonMinutes_55 : decode cX4_moonMinutes 55 = .ok (.isub, 1) := by decide +kernel
theorem dX4_moonMinutes_56 : decode cX4_moonMinutes 56 = .ok (.iconst 1, 1) := by decide +kernel
theorem dX4_moonMinutes_57 : decode cX4_moonMinutes 57 = .ok (.iadd, 1) := by decide +kernel
theorem dX4_moonMinutes_58 : decode cX4_moonMinutes 58 = .ok (.iload_n 2, 1) := by decide +kernel
theorem dX4_moonMinutes_59 : decode cX4_moonMinutes 59 = .ok (.iload_n 3, 1) := by decide +kernel
theorem dX4_moonMinutes_60 : decode cX4_moonMinutes 60 = .ok (.iload 4, 2) := by decide +kernel
theorem dX4_moonMinutes_62 : decode cX4_moonMinutes 62 = .ok (.iload 5, 2) := by decide +kernel
theorem dX4_moonMinutes_64 : decode cX4_moonMinutes 64 = .ok (.invokestatic 119, 3) := by decide +kernel
theorem dX4_moonMinutes_67 : decode cX4_moonMinutes 67 = .ok (.isub, 1) := by decide +kernel
theorem dX4_moonMinutes_68 : decode cX4_moonMinutes 68 = .ok (.iload_n 2, 1) := by decide +kernel
theorem dX4_moonMinutes_69 : decode cX4_moonMinutes 69 = .ok (.iload_n 3, 1) := by decide +kernel
theorem dX4_moonMinutes_70 : decode cX4_moonMinutes 70 = .ok (.iload 4, 2) := by decide +kernel
theorem dX4_moonMinutes_72 : decode cX4_moonMinutes 72 = .ok (.sipush 1440, 3) := by decide +kernel
theorem dX4_moonMinutes_75 : decode cX4_moonMinutes 75 = .ok (.iadd, 1) := by decide +kernel
theorem dX4_moonMinutes_76 : decode cX4_moonMinutes 76 = .ok (.iload 5, 2) := by decide +kernel
theorem dX4_moonMinutes_78 : decode cX4_moonMinutes 78 = .ok (.sipush 1440, 3) := by decide +kernel
theorem dX4_moonMinutes_81 : decode cX4_moonMinutes 81 = .ok (.iadd, 1) := by decide +kernel
theorem dX4_moonMinutes_82 : decode cX4_moonMinutes 82 = .ok (.invokestatic 119, 3) := by decide +kernel
theorem dX4_moonMinutes_85 : decode cX4_moonMinutes 85 = .ok (.isub, 1) := by decide +kernel
theorem dX4_moonMinutes_86 : decode cX4_moonMinutes 86 = .ok (.ireturn, 1) := by decide +kernel
theorem dX4_shared_0 : decode cX4_shared 0 = .ok (.iconst 0, 1) := by decide +kernel
theorem dX4_shared_1 : decode cX4_shared 1 = .ok (.iload_n 1, 1) := by decide +kernel
theorem dX4_shared_2 : decode cX4_shared 2 = .ok (.iload_n 3, 1) := by decide +kernel
theorem dX4_shared_3 : decode cX4_shared 3 = .ok (.invokestatic 122, 3) := by decide +kernel
theorem dX4_shared_6 : decode cX4_shared 6 = .ok (.iload_n 0, 1) := by decide +kernel
theorem dX4_shared_7 : decode cX4_shared 7 = .ok (.iload_n 2, 1) := by decide +kernel
theorem dX4_shared_8 : decode cX4_shared 8 = .ok (.invokestatic 125, 3) := by decide +kernel
theorem dX4_shared_11 : decode cX4_shared 11 = .ok (.isub, 1) := by decide +kernel
theorem dX4_shared_12 : decode cX4_shared 12 = .ok (.iconst 1, 1) := by decide +kernel
theorem dX4_shared_13 : decode cX4_shared 13 = .ok (.iadd, 1) := by decide +kernel
theorem dX4_shared_14 : decode cX4_shared 14 = .ok (.invokestatic 125, 3) := by decide +kernel
theorem dX4_shared_17 : decode cX4_shared 17 = .ok (.ireturn, 1) := by decide +kernel
theorem dX5_init_0 : decode cX5_init 0 = .ok (.aload_n 0, 1) := by decide +kernel
theorem dX5_init_1 : decode cX5_init 1 = .ok (.invokespecial 3, 3) := by decide +kernel
theorem dX5_init_4 : decode cX5_init 4 = .ok (.aload_n 0, 1) := by decide +kernel
theorem dX5_init_5 : decode cX5_init 5 = .ok (.aconst_null, 1) := by decide +kernel
theorem dX5_init_6 : decode cX5_init 6 = .ok (.putfield 9, 3) := by decide +kernel
theorem dX5_init_9 : decode cX5_init 9 = .ok (.aload_n 0, 1) := by decide +kernel
theorem dX5_init_10 : decode cX5_init 10 = .ok (.aconst_null, 1) := by decide +kernel
theorem dX5_init_11 : decode cX5_init 11 = .ok (.putfield 15, 3) := by decide +kernel
theorem dX5_init_14 : decode cX5_init 14 = .ok (.aload_n 0, 1) := by decide +kernel
theorem dX5_init_15 : decode cX5_init 15 = .ok (.iconst 0, 1) := by decide +kernel
theorem dX5_init_16 : decode cX5_init 16 = .ok (.putfield 19, 3) := by decide +kernel
theorem dX5_init_19 : decode cX5_init 19 = .ok (.aload_n 0, 1) := by decide +kernel
theorem dX5_init_20 : decode cX5_init 20 = .ok (.iconst 0, 1) := by decide +kernel
theorem dX5_init_21 : decode cX5_init 21 = .ok (.putfield 23, 3) := by decide +kernel
theorem dX5_init_24 : decode cX5_init 24 = .ok (.return_, 1) := by decide +kernel
theorem dX5_readInto_0 : decode cX5_readInto 0 = .ok (.aload_n 1, 1) := by decide +kernel
theorem dX5_readInto_1 : decode cX5_readInto 1 = .ok (.ifnull 7, 3) := by decide +kernel
theorem dX5_readInto_4 : decode cX5_readInto 4 = .ok (.aload_n 2, 1) := by decide +kernel
theorem dX5_readInto_5 : decode cX5_readInto 5 = .ok (.ifnonnull 5, 3) := by decide +kernel
theorem dX5_readInto_8 : decode cX5_readInto 8 = .ok (.iconst 0, 1) := by decide +kernel
theorem dX5_readInto_9 : decode cX5_readInto 9 = .ok (.ireturn, 1) := by decide +kernel
theorem dX5_readInto_10 : decode cX5_readInto 10 = .ok (.aload_n 0, 1) := by decide +kernel
theorem dX5_readInto_11 : decode cX5_readInto 11 = .ok (.aload_n 1, 1) := by decide +kernel
theorem dX5_readInto_12 : decode cX5_readInto 12 = .ok (.putfield 15, 3) := by decide +kernel
theorem dX5_readInto_15 : decode cX5_readInto 15 = .ok (.aload_n 0, 1) := by decide +kernel
theorem dX5_readInto_16 : decode cX5_readInto 16 = .ok (.aload_n 2, 1) := by decide +kernel
theorem dX5_readInto_17 : decode cX5_readInto 17 = .ok (.putfield 9, 3) := by decide +kernel
theorem dX5_readInto_20 : decode cX5_readInto 20 = .ok (.aload_n 0, 1) := by decide +kernel
theorem dX5_readInto_21 : decode cX5_readInto 21 = .ok (.iconst 0, 1) := by decide +kernel
theorem dX5_readInto_22 : decode cX5_readInto 22 = .ok (.putfield 19, 3) := by decide +kernel
theorem dX5_readInto_25 : decode cX5_readInto 25 = .ok (.aload_n 0, 1) := by decide +kernel
theorem dX5_readInto_26 : decode cX5_readInto 26 = .ok (.iconst 0, 1) := by decide +kernel
theorem dX5_readInto_27 : decode cX5_readInto 27 = .ok (.putfield 23, 3) := by decide +kernel
theorem dX5_readInto_30 : decode cX5_readInto 30 = .ok (.aload_n 0, 1) := by decide +kernel
theorem dX5_readInto_31 : decode cX5_readInto 31 = .ok (.getfield 15, 3) := by decide +kernel
theorem dX5_readInto_34 : decode cX5_readInto 34 = .ok (.invokevirtual 26, 3) := by decide +kernel
theorem dX5_readInto_37 : decode cX5_readInto 37 = .ok (.iconst 0, 1) := by decide +kernel
theorem dX5_readInto_38 : decode cX5_readInto 38 = .ok (.istore_n 3, 1) := by decide +kernel
theorem dX5_readInto_39 : decode cX5_readInto 39 = .ok (.iload_n 3, 1) := by decide +kernel
theorem dX5_readInto_40 : decode cX5_readInto 40 = .ok (.sipush 700, 3) := by decide +kernel
theorem dX5_readInto_43 : decode cX5_readInto 43 = .ok (.if_icmp .ge 40, 3) := by decide +kernel
theorem dX5_readInto_46 : decode cX5_readInto 46 = .ok (.aload_n 0, 1) := by decide +kernel
theorem dX5_readInto_47 : decode cX5_readInto 47 = .ok (.getfield 9, 3) := by decide +kernel
theorem dX5_readInto_50 : decode cX5_readInto 50 = .ok (.invokevirtual 31, 3) := by decide +kernel
theorem dX5_readInto_53 : decode cX5_readInto 53 = .ok (.ifCond .ne 30, 3) := by decide +kernel
theorem dX5_readInto_56 : decode cX5_readInto 56 = .ok (.aload_n 0, 1) := by decide +kernel
theorem dX5_readInto_57 : decode cX5_readInto 57 = .ok (.invokevirtual 37, 3) := by decide +kernel
theorem dX5_readInto_60 : decode cX5_readInto 60 = .ok (.ifCond .eq 15, 3) := by decide +kernel
theorem dX5_readInto_63 : decode cX5_readInto 63 = .ok (.aload_n 0, 1) := by decide +kernel
theorem dX5_readInto_64 : decode cX5_readInto 64 = .ok (.getfield 9, 3) := by decide +kernel
theorem dX5_readInto_67 : decode cX5_readInto 67 = .ok (.bipush 59, 2) := by decide +kernel
theorem dX5_readInto_69 : decode cX5_readInto 69 = .ok (.invokevirtual 40, 3) := by decide +kernel
theorem dX5_readInto_72 : decode cX5_readInto 72 = .ok (.ifCond .ne 5, 3) := by decide +kernel
theorem dX5_readInto_75 : decode cX5_readInto 75 = .ok (.iconst 0, 1) := by decide +kernel
theorem dX5_readInto_76 : decode cX5_readInto 76 = .ok (.ireturn, 1) := by decide +kernel
theorem dX5_readInto_77 : decode cX5_readInto 77 = .ok (.iinc 3 1, 3) := by decide +kernel
theorem dX5_readInto_80 : decode cX5_readInto 80 = .ok (.goto (-41), 3) := by decide +kernel
theorem dX5_readInto_83 : decode cX5_readInto 83 = .ok (.iconst 1, 1) := by decide +kernel
theorem dX5_readInto_84 : decode cX5_readInto 84 = .ok (.ireturn, 1) := by decide +kernel
theorem dX5_readLine_0 : decode cX5_readLine 0 = .ok (.aload_n 0, 1) := by decide +kernel
theorem dX5_readLine_1 : decode cX5_readLine 1 = .ok (.getfield 9, 3) := by decide +kernel
theorem dX5_readLine_4 : decode cX5_readLine 4 = .ok (.ldc 44, 2) := by decide +kernel
theorem dX5_readLine_6 : decode cX5_readLine 6 = .ok (.invokevirtual 46, 3) := by decide +kernel
theorem dX5_readLine_9 : decode cX5_readLine 9 = .ok (.ifCond .eq 8, 3) := by decide +kernel
theorem dX5_readLine_12 : decode cX5_readLine 12 = .ok (.aload_n 0, 1) := by decide +kernel
theorem dX5_readLine_13 : decode cX5_readLine 13 = .ok (.invokevirtual 50, 3) := by decide +kernel
theorem dX5_readLine_16 : decode cX5_readLine 16 = .ok (.ireturn, 1) := by decide +kernel
theorem dX5_readLine_17 : decode cX5_readLine 17 = .ok (.aload_n 0, 1) := by decide +kernel
theorem dX5_readLine_18 : decode cX5_readLine 18 = .ok (.getfield 9, 3) := by decide +kernel
theorem dX5_readLine_21 : decode cX5_readLine 21 = .ok (.ldc 53, 2) := by decide +kernel
theorem dX5_readLine_23 : decode cX5_readLine 23 = .ok (.invokevirtual 46, 3) := by decide +kernel
theorem dX5_readLine_26 : decode cX5_readLine 26 = .ok (.ifCond .eq 8, 3) := by decide +kernel
theorem dX5_readLine_29 : decode cX5_readLine 29 = .ok (.aload_n 0, 1) := by decide +kernel
theorem dX5_readLine_30 : decode cX5_readLine 30 = .ok (.invokevirtual 55, 3) := by decide +kernel
theorem dX5_readLine_33 : decode cX5_readLine 33 = .ok (.ireturn, 1) := by decide +kernel
theorem dX5_readLine_34 : decode cX5_readLine 34 = .ok (.aload_n 0, 1) := by decide +kernel
theorem dX5_readLine_35 : decode cX5_readLine 35 = .ok (.getfield 9, 3) := by decide +kernel
theorem dX5_readLine_38 : decode cX5_readLine 38 = .ok (.ldc 58, 2) := by decide +kernel
theorem dX5_readLine_40 : decode cX5_readLine 40 = .ok (.invokevirtual 46, 3) := by decide +kernel
theorem dX5_readLine_43 : decode cX5_readLine 43 = .ok (.ifCond .eq 8, 3) := by decide +kernel
theorem dX5_readLine_46 : decode cX5_readLine 46 = .ok (.aload_n 0, 1) := by decide +kernel
theorem dX5_readLine_47 : decode cX5_readLine 47 = .ok (.invokevirtual 60, 3) := by decide +kernel
theorem dX5_readLine_50 : decode cX5_readLine 50 = .ok (.ireturn, 1) := by decide +kernel
theorem dX5_readLine_51 : decode cX5_readLine 51 = .ok (.aload_n 0, 1) := by decide +kernel
theorem dX5_readLine_52 : decode cX5_readLine 52 = .ok (.getfield 9, 3) := by decide +kernel
theorem dX5_readLine_55 : decode cX5_readLine 55 = .ok (.ldc 63, 2) := by decide +kernel
theorem dX5_readLine_57 : decode cX5_readLine 57 = .ok (.invokevirtual 46, 3) := by decide +kernel
theorem dX5_readLine_60 : decode cX5_readLine 60 = .ok (.ifCond .eq 8, 3) := by decide +kernel
theorem dX5_readLine_63 : decode cX5_readLine 63 = .ok (.aload_n 0, 1) := by decide +kernel
theorem dX5_readLine_64 : decode cX5_readLine 64 = .ok (.invokevirtual 65, 3) := by decide +kernel
theorem dX5_readLine_67 : decode cX5_readLine 67 = .ok (.ireturn, 1) := by decide +kernel
theorem dX5_readLine_68 : decode cX5_readLine 68 = .ok (.aload_n 0, 1) := by decide +kernel
theorem dX5_readLine_69 : decode cX5_readLine 69 = .ok (.getfield 9, 3) := by decide +kernel
theorem dX5_readLine_72 : decode cX5_readLine 72 = .ok (.iconst 1, 1) := by decide +kernel
theorem dX5_readLine_73 : decode cX5_readLine 73 = .ok (.invokevirtual 68, 3) := by decide +kernel
theorem dX5_readLine_76 : decode cX5_readLine 76 = .ok (.ireturn, 1) := by decide +kernel
theorem dX5_readDial_0 : decode cX5_readDial 0 = .ok (.aload_n 0, 1) := by decide +kernel
theorem dX5_readDial_1 : decode cX5_readDial 1 = .ok (.getfield 15, 3) := by decide +kernel
theorem dX5_readDial_4 : decode cX5_readDial 4 = .ok (.getfield 72, 3) := by decide +kernel
theorem dX5_readDial_7 : decode cX5_readDial 7 = .ok (.istore_n 1, 1) := by decide +kernel
theorem dX5_readDial_8 : decode cX5_readDial 8 = .ok (.iload_n 1, 1) := by decide +kernel
theorem dX5_readDial_9 : decode cX5_readDial 9 = .ok (.bipush 9, 2) := by decide +kernel
theorem dX5_readDial_11 : decode cX5_readDial 11 = .ok (.if_icmp .lt 12, 3) := by decide +kernel
theorem dX5_readDial_14 : decode cX5_readDial 14 = .ok (.aload_n 0, 1) := by decide +kernel
theorem dX5_readDial_15 : decode cX5_readDial 15 = .ok (.getfield 9, 3) := by decide +kernel
theorem dX5_readDial_18 : decode cX5_readDial 18 = .ok (.iconst 2, 1) := by decide +kernel
theorem dX5_readDial_19 : decode cX5_readDial 19 = .ok (.invokevirtual 68, 3) := by decide +kernel
theorem dX5_readDial_22 : decode cX5_readDial 22 = .ok (.ireturn, 1) := by decide +kernel
theorem dX5_readDial_23 : decode cX5_readDial 23 = .ok (.aload_n 0, 1) := by decide +kernel
theorem dX5_readDial_24 : decode cX5_readDial 24 = .ok (.getfield 9, 3) := by decide +kernel
theorem dX5_readDial_27 : decode cX5_readDial 27 = .ok (.invokevirtual 76, 3) := by decide +kernel
theorem dX5_readDial_30 : decode cX5_readDial 30 = .ok (.aload_n 0, 1) := by decide +kernel
theorem dX5_readDial_31 : decode cX5_readDial 31 = .ok (.invokevirtual 79, 3) := by decide +kernel
theorem dX5_readDial_34 : decode cX5_readDial 34 = .ok (.istore_n 2, 1) := by decide +kernel
theorem dX5_readDial_35 : decode cX5_readDial 35 = .ok (.iload_n 2, 1) := by decide +kernel
theorem dX5_readDial_36 : decode cX5_readDial 36 = .ok (.iconst (-1), 1) := by decide +kernel
theorem dX5_readDial_37 : decode cX5_readDial 37 = .ok (.if_icmp .ne 12, 3) := by decide +kernel
theorem dX5_readDial_40 : decode cX5_readDial 40 = .ok (.aload_n 0, 1) := by decide +kernel
theorem dX5_readDial_41 : decode cX5_readDial 41 = .ok (.getfield 9, 3) := by decide +kernel
theorem dX5_readDial_44 : decode cX5_readDial 44 = .ok (.iconst 1, 1) := by decide +kernel
theorem dX5_readDial_45 : decode cX5_readDial 45 = .ok (.invokevirtual 68, 3) := by decide +kernel
theorem dX5_readDial_48 : decode cX5_readDial 48 = .ok (.ireturn, 1) := by decide +kernel
theorem dX5_readDial_49 : decode cX5_readDial 49 = .ok (.aload_n 0, 1) := by decide +kernel
theorem dX5_readDial_50 : decode cX5_readDial 50 = .ok (.getfield 9, 3) := by decide +kernel
theorem dX5_readDial_53 : decode cX5_readDial 53 = .ok (.invokevirtual 76, 3) := by decide +kernel
theorem dX5_readDial_56 : decode cX5_readDial 56 = .ok (.aload_n 0, 1) := by decide +kernel
theorem dX5_readDial_57 : decode cX5_readDial 57 = .ok (.getfield 15, 3) := by decide +kernel
theorem dX5_readDial_60 : decode cX5_readDial 60 = .ok (.getfield 83, 3) := by decide +kernel
theorem dX5_readDial_63 : decode cX5_readDial 63 = .ok (.iload_n 1, 1) := by decide +kernel
theorem dX5_readDial_64 : decode cX5_readDial 64 = .ok (.iload_n 2, 1) := by decide +kernel
theorem dX5_readDial_65 : decode cX5_readDial 65 = .ok (.iastore, 1) := by decide +kernel
theorem dX5_readDial_66 : decode cX5_readDial 66 = .ok (.aload_n 0, 1) := by decide +kernel
theorem dX5_readDial_67 : decode cX5_readDial 67 = .ok (.getfield 9, 3) := by decide +kernel
theorem dX5_readDial_70 : decode cX5_readDial 70 = .ok (.bipush 120, 2) := by decide +kernel
theorem dX5_readDial_72 : decode cX5_readDial 72 = .ok (.invokevirtual 87, 3) := by decide +kernel
theorem dX5_readDial_75 : decode cX5_readDial 75 = .ok (.ifCond .ne 5, 3) := by decide +kernel
theorem dX5_readDial_78 : decode cX5_readDial 78 = .ok (.iconst 0, 1) := by decide +kernel
theorem dX5_readDial_79 : decode cX5_readDial 79 = .ok (.ireturn, 1) := by decide +kernel
theorem dX5_readDial_80 : decode cX5_readDial 80 = .ok (.aload_n 0, 1) := by decide +kernel
theorem dX5_readDial_81 : decode cX5_readDial 81 = .ok (.getfield 15, 3) := by decide +kernel
theorem dX5_readDial_84 : decode cX5_readDial 84 = .ok (.getfield 90, 3) := by decide +kernel
theorem dX5_readDial_87 : decode cX5_readDial 87 = .ok (.iload_n 1, 1) := by decide +kernel
theorem dX5_readDial_88 : decode cX5_readDial 88 = .ok (.aload_n 0, 1) := by decide +kernel
theorem dX5_readDial_89 : decode cX5_readDial 89 = .ok (.getfield 9, 3) := by decide +kernel
theorem dX5_readDial_92 : decode cX5_readDial 92 = .ok (.getfield 93, 3) := by decide +kernel
theorem dX5_readDial_95 : decode cX5_readDial 95 = .ok (.iastore, 1) := by decide +kernel
theorem dX5_readDial_96 : decode cX5_readDial 96 = .ok (.aload_n 0, 1) := by decide +kernel
theorem dX5_readDial_97 : decode cX5_readDial 97 = .ok (.getfield 9, 3) := by decide +kernel
theorem dX5_readDial_100 : decode cX5_readDial 100 = .ok (.bipush 50, 2) := by decide +kernel
theorem dX5_readDial_102 : decode cX5_readDial 102 = .ok (.invokevirtual 87, 3) := by decide +kernel
theorem dX5_readDial_105 : decode cX5_readDial 105 = .ok (.ifCond .ne 5, 3) := by decide +kernel
theorem dX5_readDial_108 : decode cX5_readDial 108 = .ok (.iconst 0, 1) := by decide +kernel
theorem dX5_readDial_109 : decode cX5_readDial 109 = .ok (.ireturn, 1) := by decide +kernel
theorem dX5_readDial_110 : decode cX5_readDial 110 = .ok (.aload_n 0, 1) := by decide +kernel
theorem dX5_readDial_111 : decode cX5_readDial 111 = .ok (.getfield 15, 3) := by decide +kernel
theorem dX5_readDial_114 : decode cX5_readDial 114 = .ok (.getfield 96, 3) := by decide +kernel
theorem dX5_readDial_117 : decode cX5_readDial 117 = .ok (.iload_n 1, 1) := by decide +kernel
theorem dX5_readDial_118 : decode cX5_readDial 118 = .ok (.aload_n 0, 1) := by decide +kernel
theorem dX5_readDial_119 : decode cX5_readDial 119 = .ok (.getfield 9, 3) := by decide +kernel
theorem dX5_readDial_122 : decode cX5_readDial 122 = .ok (.getfield 93, 3) := by decide +kernel
theorem dX5_readDial_125 : decode cX5_readDial 125 = .ok (.iastore, 1) := by decide +kernel
theorem dX5_readDial_126 : decode cX5_readDial 126 = .ok (.aload_n 0, 1) := by decide +kernel
theorem dX5_readDial_127 : decode cX5_readDial 127 = .ok (.getfield 9, 3) := by decide +kernel
theorem dX5_readDial_130 : decode cX5_readDial 130 = .ok (.bipush 120, 2) := by decide +kernel
theorem dX5_readDial_132 : decode cX5_readDial 132 = .ok (.invokevirtual 87, 3) := by decide +kernel
theorem dX5_readDial_135 : decode cX5_readDial 135 = .ok (.ifCond .ne 5, 3) := by decide +kernel
theorem dX5_readDial_138 : decode cX5_readDial 138 = .ok (.iconst 0, 1) := by decide +kernel
theorem dX5_readDial_139 : decode cX5_readDial 139 = .ok (.ireturn, 1) := by decide +kernel
theorem dX5_readDial_140 : decode cX5_readDial 140 = .ok (.aload_n 0, 1) := by decide +kernel
theorem dX5_readDial_141 : decode cX5_readDial 141 = .ok (.getfield 15, 3) := by decide +kernel
theorem dX5_readDial_144 : decode cX5_readDial 144 = .ok (.getfield 99, 3) := by decide +kernel
theorem dX5_readDial_147 : decode cX5_readDial 147 = .ok (.iload_n 1, 1) := by decide +kernel
theorem dX5_readDial_148 : decode cX5_readDial 148 = .ok (.aload_n 0, 1) := by decide +kernel
theorem dX5_readDial_149 : decode cX5_readDial 149 = .ok (.getfield 9, 3) := by decide +kernel
theorem dX5_readDial_152 : decode cX5_readDial 152 = .ok (.getfield 93, 3) := by decide +kernel
theorem dX5_readDial_155 : decode cX5_readDial 155 = .ok (.iastore, 1) := by decide +kernel
theorem dX5_readDial_156 : decode cX5_readDial 156 = .ok (.aload_n 0, 1) := by decide +kernel
theorem dX5_readDial_157 : decode cX5_readDial 157 = .ok (.getfield 15, 3) := by decide +kernel
theorem dX5_readDial_160 : decode cX5_readDial 160 = .ok (.dup, 1) := by decide +kernel
theorem dX5_readDial_161 : decode cX5_readDial 161 = .ok (.getfield 72, 3) := by decide +kernel
theorem dX5_readDial_164 : decode cX5_readDial 164 = .ok (.iconst 1, 1) := by decide +kernel
theorem dX5_readDial_165 : decode cX5_readDial 165 = .ok (.iadd, 1) := by decide +kernel
theorem dX5_readDial_166 : decode cX5_readDial 166 = .ok (.putfield 72, 3) := by decide +kernel
theorem dX5_readDial_169 : decode cX5_readDial 169 = .ok (.aload_n 0, 1) := by decide +kernel
theorem dX5_readDial_170 : decode cX5_readDial 170 = .ok (.iload_n 1, 1) := by decide +kernel
theorem dX5_readDial_171 : decode cX5_readDial 171 = .ok (.invokevirtual 102, 3) := by decide +kernel
theorem dX5_readDial_174 : decode cX5_readDial 174 = .ok (.ireturn, 1) := by decide +kernel
theorem dX5_readGrown_0 : decode cX5_readGrown 0 = .ok (.aload_n 0, 1) := by decide +kernel
theorem dX5_readGrown_1 : decode cX5_readGrown 1 = .ok (.getfield 15, 3) := by decide +kernel
theorem dX5_readGrown_4 : decode cX5_readGrown 4 = .ok (.getfield 105, 3) := by decide +kernel
theorem dX5_readGrown_7 : decode cX5_readGrown 7 = .ok (.iload_n 1, 1) := by decide +kernel
theorem dX5_readGrown_8 : decode cX5_readGrown 8 = .ok (.iconst (-1), 1) := by decide +kernel
theorem dX5_readGrown_9 : decode cX5_readGrown 9 = .ok (.iastore, 1) := by decide +kernel
theorem dX5_readGrown_10 : decode cX5_readGrown 10 = .ok (.aload_n 0, 1) := by decide +kernel
theorem dX5_readGrown_11 : decode cX5_readGrown 11 = .ok (.getfield 9, 3) := by decide +kernel
theorem dX5_readGrown_14 : decode cX5_readGrown 14 = .ok (.ldc 108, 2) := by decide +kernel
theorem dX5_readGrown_16 : decode cX5_readGrown 16 = .ok (.invokevirtual 46, 3) := by decide +kernel
theorem dX5_readGrown_19 : decode cX5_readGrown 19 = .ok (.ifCond .ne 5, 3) := by decide +kernel
theorem dX5_readGrown_22 : decode cX5_readGrown 22 = .ok (.iconst 1, 1) := by decide +kernel
theorem dX5_readGrown_23 : decode cX5_readGrown 23 = .ok (.ireturn, 1) := by decide +kernel
theorem dX5_readGrown_24 : decode cX5_readGrown 24 = .ok (.aload_n 0, 1) := by decide +kernel
theorem dX5_readGrown_25 : decode cX5_readGrown 25 = .ok (.getfield 9, 3) := by decide +kernel
theorem dX5_readGrown_28 : decode cX5_readGrown 28 = .ok (.invokevirtual 76, 3) := by decide +kernel
theorem dX5_readGrown_31 : decode cX5_readGrown 31 = .ok (.aload_n 0, 1) := by decide +kernel
theorem dX5_readGrown_32 : decode cX5_readGrown 32 = .ok (.getfield 9, 3) := by decide +kernel
theorem dX5_readGrown_35 : decode cX5_readGrown 35 = .ok (.iconst 0, 1) := by decide +kernel
theorem dX5_readGrown_36 : decode cX5_readGrown 36 = .ok (.sipush 364, 3) := by decide +kernel
theorem dX5_readGrown_39 : decode cX5_readGrown 39 = .ok (.invokevirtual 109, 3) := by decide +kernel
theorem dX5_readGrown_42 : decode cX5_readGrown 42 = .ok (.ifCond .ne 5, 3) := by decide +kernel
theorem dX5_readGrown_45 : decode cX5_readGrown 45 = .ok (.iconst 0, 1) := by decide +kernel
theorem dX5_readGrown_46 : decode cX5_readGrown 46 = .ok (.ireturn, 1) := by decide +kernel
theorem dX5_readGrown_47 : decode cX5_readGrown 47 = .ok (.aload_n 0, 1) := by decide +kernel
theorem dX5_readGrown_48 : decode cX5_readGrown 48 = .ok (.getfield 15, 3) := by decide +kernel
theorem dX5_readGrown_51 : decode cX5_readGrown 51 = .ok (.getfield 105, 3) := by decide +kernel
theorem dX5_readGrown_54 : decode cX5_readGrown 54 = .ok (.iload_n 1, 1) := by decide +kernel
theorem dX5_readGrown_55 : decode cX5_readGrown 55 = .ok (.aload_n 0, 1) := by decide +kernel
theorem dX5_readGrown_56 : decode cX5_readGrown 56 = .ok (.getfield 9, 3) := by decide +kernel
theorem dX5_readGrown_59 : decode cX5_readGrown 59 = .ok (.getfield 93, 3) := by decide +kernel
theorem dX5_readGrown_62 : decode cX5_readGrown 62 = .ok (.iastore, 1) := by decide +kernel
theorem dX5_readGrown_63 : decode cX5_readGrown 63 = .ok (.iconst 1, 1) := by decide +kernel
theorem dX5_readGrown_64 : decode cX5_readGrown 64 = .ok (.ireturn, 1) := by decide +kernel
theorem dX5_kindHere_0 : decode cX5_kindHere 0 = .ok (.aload_n 0, 1) := by decide +kernel
theorem dX5_kindHere_1 : decode cX5_kindHere 1 = .ok (.getfield 9, 3) := by decide +kernel
theorem dX5_kindHere_4 : decode cX5_kindHere 4 = .ok (.ldc 113, 2) := by decide +kernel
theorem dX5_kindHere_6 : decode cX5_kindHere 6 = .ok (.invokevirtual 46, 3) := by decide +kernel
theorem dX5_kindHere_9 : decode cX5_kindHere 9 = .ok (.ifCond .eq 5, 3) := by decide +kernel
theorem dX5_kindHere_12 : decode cX5_kindHere 12 = .ok (.iconst 0, 1) := by decide +kernel
theorem dX5_kindHere_13 : decode cX5_kindHere 13 = .ok (.ireturn, 1) := by decide +kernel
theorem dX5_kindHere_14 : decode cX5_kindHere 14 = .ok (.aload_n 0, 1) := by decide +kernel
theorem dX5_kindHere_15 : decode cX5_kindHere 15 = .ok (.getfield 9, 3) := by decide +kernel
theorem dX5_kindHere_18 : decode cX5_kindHere 18 = .ok (.ldc 115, 2) := by decide +kernel
theorem dX5_kindHere_20 : decode cX5_kindHere 20 = .ok (.invokevirtual 46, 3) := by decide +kernel
theorem dX5_kindHere_23 : decode cX5_kindHere 23 = .ok (.ifCond .eq 5, 3) := by decide +kernel
theorem dX5_kindHere_26 : decode cX5_kindHere 26 = .ok (.iconst 1, 1) := by decide +kernel
theorem dX5_kindHere_27 : decode cX5_kindHere 27 = .ok (.ireturn, 1) := by decide +kernel
theorem dX5_kindHere_28 : decode cX5_kindHere 28 = .ok (.aload_n 0, 1) := by decide +kernel
theorem dX5_kindHere_29 : decode cX5_kindHere 29 = .ok (.getfield 9, 3) := by decide +kernel
theorem dX5_kindHere_32 : decode cX5_kindHere 32 = .ok (.ldc 117, 2) := by decide +kernel
theorem dX5_kindHere_34 : decode cX5_kindHere 34 = .ok (.invokevirtual 46, 3) := by decide +kernel
theorem dX5_kindHere_37 : decode cX5_kindHere 37 = .ok (.ifCond .eq 5, 3) := by decide +kernel
theorem dX5_kindHere_40 : decode cX5_kindHere 40 = .ok (.iconst 2, 1) := by decide +kernel
theorem dX5_kindHere_41 : decode cX5_kindHere 41 = .ok (.ireturn, 1) := by decide +kernel
theorem dX5_kindHere_42 : decode cX5_kindHere 42 = .ok (.aload_n 0, 1) := by decide +kernel
theorem dX5_kindHere_43 : decode cX5_kindHere 43 = .ok (.getfield 9, 3) := by decide +kernel
theorem dX5_kindHere_46 : decode cX5_kindHere 46 = .ok (.ldc 119, 2) := by decide +kernel
theorem dX5_kindHere_48 : decode cX5_kindHere 48 = .ok (.invokevirtual 46, 3) := by decide +kernel
theorem dX5_kindHere_51 : decode cX5_kindHere 51 = .ok (.ifCond .eq 5, 3) := by decide +kernel
theorem dX5_kindHere_54 : decode cX5_kindHere 54 = .ok (.iconst 3, 1) := by decide +kernel
theorem dX5_kindHere_55 : decode cX5_kindHere 55 = .ok (.ireturn, 1) := by decide +kernel
theorem dX5_kindHere_56 : decode cX5_kindHere 56 = .ok (.aload_n 0, 1) := by decide +kernel
theorem dX5_kindHere_57 : decode cX5_kindHere 57 = .ok (.getfield 9, 3) := by decide +kernel
theorem dX5_kindHere_60 : decode cX5_kindHere 60 = .ok (.ldc 121, 2) := by decide +kernel
theorem dX5_kindHere_62 : decode cX5_kindHere 62 = .ok (.invokevirtual 46, 3) := by decide +kernel
theorem dX5_kindHere_65 : decode cX5_kindHere 65 = .ok (.ifCond .eq 5, 3) := by decide +kernel
theorem dX5_kindHere_68 : decode cX5_kindHere 68 = .ok (.iconst 4, 1) := by decide +kernel
theorem dX5_kindHere_69 : decode cX5_kindHere 69 = .ok (.ireturn, 1) := by decide +kernel
theorem dX5_kindHere_70 : decode cX5_kindHere 70 = .ok (.aload_n 0, 1) := by decide +kernel
theorem dX5_kindHere_71 : decode cX5_kindHere 71 = .ok (.getfield 9, 3) := by decide +kernel
theorem dX5_kindHere_74 : decode cX5_kindHere 74 = .ok (.ldc 123, 2) := by decide +kernel
theorem dX5_kindHere_76 : decode cX5_kindHere 76 = .ok (.invokevirtual 46, 3) := by decide +kernel
theorem dX5_kindHere_79 : decode cX5_kindHere 79 = .ok (.ifCond .eq 7, 3) := by decide +kernel
theorem dX5_kindHere_82 : decode cX5_kindHere 82 = .ok (.iconst 5, 1) := by decide +kernel
theorem dX5_kindHere_83 : decode cX5_kindHere 83 = .ok (.goto 4, 3) := by decide +kernel
theorem dX5_kindHere_86 : decode cX5_kindHere 86 = .ok (.iconst (-1), 1) := by decide +kernel
theorem dX5_kindHere_87 : decode cX5_kindHere 87 = .ok (.ireturn, 1) := by decide +kernel
theorem dX5_readLimps_0 : decode cX5_readLimps 0 = .ok (.aload_n 0, 1) := by decide +kernel
theorem dX5_readLimps_1 : decode cX5_readLimps 1 = .ok (.getfield 19, 3) := by decide +kernel
theorem dX5_readLimps_4 : decode cX5_readLimps 4 = .ok (.ifCond .eq 12, 3) := by decide +kernel
theorem dX5_readLimps_7 : decode cX5_readLimps 7 = .ok (.aload_n 0, 1) := by decide +kernel
theorem dX5_readLimps_8 : decode cX5_readLimps 8 = .ok (.getfield 9, 3) := by decide +kernel
theorem dX5_readLimps_11 : decode cX5_readLimps 11 = .ok (.iconst 3, 1) := by decide +kernel
theorem dX5_readLimps_12 : decode cX5_readLimps 12 = .ok (.invokevirtual 68, 3) := by decide +kernel
theorem dX5_readLimps_15 : decode cX5_readLimps 15 = .ok (.ireturn, 1) := by decide +kernel
theorem dX5_readLimps_16 : decode cX5_readLimps 16 = .ok (.aload_n 0, 1) := by decide +kernel
theorem dX5_readLimps_17 : decode cX5_readLimps 17 = .ok (.iconst 1, 1) := by decide +kernel
theorem dX5_readLimps_18 : decode cX5_readLimps 18 = .ok (.putfield 19, 3) := by decide +kernel
theorem dX5_readLimps_21 : decode cX5_readLimps 21 = .ok (.aload_n 0, 1) := by decide +kernel
theorem dX5_readLimps_22 : decode cX5_readLimps 22 = .ok (.getfield 9, 3) := by decide +kernel
theorem dX5_readLimps_25 : decode cX5_readLimps 25 = .ok (.invokevirtual 76, 3) := by decide +kernel
theorem dX5_readLimps_28 : decode cX5_readLimps 28 = .ok (.iconst 0, 1) := by decide +kernel
theorem dX5_readLimps_29 : decode cX5_readLimps 29 = .ok (.istore_n 1, 1) := by decide +kernel
theorem dX5_readLimps_30 : decode cX5_readLimps 30 = .ok (.iload_n 1, 1) := by decide +kernel
theorem dX5_readLimps_31 : decode cX5_readLimps 31 = .ok (.bipush 12, 2) := by decide +kernel
theorem dX5_readLimps_33 : decode cX5_readLimps 33 = .ok (.if_icmp .ge 39, 3) := by decide +kernel
theorem dX5_readLimps_36 : decode cX5_readLimps 36 = .ok (.aload_n 0, 1) := by decide +kernel
theorem dX5_readLimps_37 : decode cX5_readLimps 37 = .ok (.getfield 9, 3) := by decide +kernel
theorem dX5_readLimps_40 : decode cX5_readLimps 40 = .ok (.bipush 30, 2) := by decide +kernel
theorem dX5_readLimps_42 : decode cX5_readLimps 42 = .ok (.invokevirtual 87, 3) := by decide +kernel
theorem dX5_readLimps_45 : decode cX5_readLimps 45 = .ok (.ifCond .ne 5, 3) := by decide +kernel
theorem dX5_readLimps_48 : decode cX5_readLimps 48 = .ok (.iconst 0, 1) := by decide +kernel
theorem dX5_readLimps_49 : decode cX5_readLimps 49 = .ok (.ireturn, 1) := by decide +kernel
theorem dX5_readLimps_50 : decode cX5_readLimps 50 = .ok (.aload_n 0, 1) := by decide +kernel
theorem dX5_readLimps_51 : decode cX5_readLimps 51 = .ok (.getfield 15, 3) := by decide +kernel
theorem dX5_readLimps_54 : decode cX5_readLimps 54 = .ok (.getfield 125, 3) := by decide +kernel
theorem dX5_readLimps_57 : decode cX5_readLimps 57 = .ok (.iload_n 1, 1) := by decide +kernel
theorem dX5_readLimps_58 : decode cX5_readLimps 58 = .ok (.aload_n 0, 1) := by decide +kernel
theorem dX5_readLimps_59 : decode cX5_readLimps 59 = .ok (.getfield 9, 3) := by decide +kernel
theorem dX5_readLimps_62 : decode cX5_readLimps 62 = .ok (.getfield 93, 3) := by decide +kernel
theorem dX5_readLimps_65 : decode cX5_readLimps 65 = .ok (.iastore, 1) := by decide +kernel
theorem dX5_readLimps_66 : decode cX5_readLimps 66 = .ok (.iinc 1 1, 3) := by decide +kernel
theorem dX5_readLimps_69 : decode cX5_readLimps 69 = .ok (.goto (-39), 3) := by decide +kernel
theorem dX5_readLimps_72 : decode cX5_readLimps 72 = .ok (.iconst 1, 1) := by decide +kernel
theorem dX5_readLimps_73 : decode cX5_readLimps 73 = .ok (.ireturn, 1) := by decide +kernel
theorem dX5_readSwing_0 : decode cX5_readSwing 0 = .ok (.aload_n 0, 1) := by decide +kernel
theorem dX5_readSwing_1 : decode cX5_readSwing 1 = .ok (.getfield 23, 3) := by decide +kernel
theorem dX5_readSwing_4 : decode cX5_readSwing 4 = .ok (.ifCond .eq 12, 3) := by decide +kernel
theorem dX5_readSwing_7 : decode cX5_readSwing 7 = .ok (.aload_n 0, 1) := by decide +kernel
theorem dX5_readSwing_8 : decode cX5_readSwing 8 = .ok (.getfield 9, 3) := by decide +kernel
theorem dX5_readSwing_11 : decode cX5_readSwing 11 = .ok (.iconst 3, 1) := by decide +kernel
theorem dX5_readSwing_12 : decode cX5_readSwing 12 = .ok (.invokevirtual 68, 3) := by decide +kernel
theorem dX5_readSwing_15 : decode cX5_readSwing 15 = .ok (.ireturn, 1) := by decide +kernel
theorem dX5_readSwing_16 : decode cX5_readSwing 16 = .ok (.aload_n 0, 1) := by decide +kernel
theorem dX5_readSwing_17 : decode cX5_readSwing 17 = .ok (.iconst 1, 1) := by decide +kernel
theorem dX5_readSwing_18 : decode cX5_readSwing 18 = .ok (.putfield 23, 3) := by decide +kernel
theorem dX5_readSwing_21 : decode cX5_readSwing 21 = .ok (.aload_n 0, 1) := by decide +kernel
theorem dX5_readSwing_22 : decode cX5_readSwing 22 = .ok (.getfield 9, 3) := by decide +kernel
theorem dX5_readSwing_25 : decode cX5_readSwing 25 = .ok (.invokevirtual 76, 3) := by decide +kernel
theorem dX5_readSwing_28 : decode cX5_readSwing 28 = .ok (.aload_n 0, 1) := by decide +kernel
theorem dX5_readSwing_29 : decode cX5_readSwing 29 = .ok (.getfield 9, 3) := by decide +kernel
theorem dX5_readSwing_32 : decode cX5_readSwing 32 = .ok (.iconst 0, 1) := by decide +kernel
theorem dX5_readSwing_33 : decode cX5_readSwing 33 = .ok (.sipush 240, 3) := by decide +kernel
theorem dX5_readSwing_36 : decode cX5_readSwing 36 = .ok (.invokevirtual 109, 3) := by decide +kernel
theorem dX5_readSwing_39 : decode cX5_readSwing 39 = .ok (.ifCond .ne 5, 3) := by decide +kernel
theorem dX5_readSwing_42 : decode cX5_readSwing 42 = .ok (.iconst 0, 1) := by decide +kernel
theorem dX5_readSwing_43 : decode cX5_readSwing 43 = .ok (.ireturn, 1) := by decide +kernel
theorem dX5_readSwing_44 : decode cX5_readSwing 44 = .ok (.aload_n 0, 1) := by decide +kernel
theorem dX5_readSwing_45 : decode cX5_readSwing 45 = .ok (.getfield 15, 3) := by decide +kernel
theorem dX5_readSwing_48 : decode cX5_readSwing 48 = .ok (.aload_n 0, 1) := by decide +kernel
theorem dX5_readSwing_49 : decode cX5_readSwing 49 = .ok (.getfield 9, 3) := by decide +kernel
theorem dX5_readSwing_52 : decode cX5_readSwing 52 = .ok (.getfield 93, 3) := by decide +kernel
theorem dX5_readSwing_55 : decode cX5_readSwing 55 = .ok (.putfield 127, 3) := by decide +kernel
theorem dX5_readSwing_58 : decode cX5_readSwing 58 = .ok (.iconst 1, 1) := by decide +kernel
theorem dX5_readSwing_59 : decode cX5_readSwing 59 = .ok (.ireturn, 1) := by decide +kernel
theorem dX5_readCloud_0 : decode cX5_readCloud 0 = .ok (.aload_n 0, 1) := by decide +kernel
theorem dX5_readCloud_1 : decode cX5_readCloud 1 = .ok (.getfield 15, 3) := by decide +kernel
theorem dX5_readCloud_4 : decode cX5_readCloud 4 = .ok (.getfield 129, 3) := by decide +kernel
theorem dX5_readCloud_7 : decode cX5_readCloud 7 = .ok (.bipush 20, 2) := by decide +kernel
theorem dX5_readCloud_9 : decode cX5_readCloud 9 = .ok (.if_icmp .lt 12, 3) := by decide +kernel
theorem dX5_readCloud_12 : decode cX5_readCloud 12 = .ok (.aload_n 0, 1) := by decide +kernel
theorem dX5_readCloud_13 : decode cX5_readCloud 13 = .ok (.getfield 9, 3) := by decide +kernel
theorem dX5_readCloud_16 : decode cX5_readCloud 16 = .ok (.iconst 2, 1) := by decide +kernel
theorem dX5_readCloud_17 : decode cX5_readCloud 17 = .ok (.invokevirtual 68, 3) := by decide +kernel
theorem dX5_readCloud_20 : decode cX5_readCloud 20 = .ok (.ireturn, 1) := by decide +kernel
theorem dX5_readCloud_21 : decode cX5_readCloud 21 = .ok (.aload_n 0, 1) := by decide +kernel
theorem dX5_readCloud_22 : decode cX5_readCloud 22 = .ok (.getfield 9, 3) := by decide +kernel
theorem dX5_readCloud_25 : decode cX5_readCloud 25 = .ok (.invokevirtual 76, 3) := by decide +kernel
theorem dX5_readCloud_28 : decode cX5_readCloud 28 = .ok (.aload_n 0, 1) := by decide +kernel
theorem dX5_readCloud_29 : decode cX5_readCloud 29 = .ok (.getfield 9, 3) := by decide +kernel
theorem dX5_readCloud_32 : decode cX5_readCloud 32 = .ok (.iconst 0, 1) := by decide +kernel
theorem dX5_readCloud_33 : decode cX5_readCloud 33 = .ok (.sipush 364, 3) := by decide +kernel
theorem dX5_readCloud_36 : decode cX5_readCloud 36 = .ok (.invokevirtual 109, 3) := by decide +kernel
theorem dX5_readCloud_39 : decode cX5_readCloud 39 = .ok (.ifCond .ne 5, 3) := by decide +kernel
theorem dX5_readCloud_42 : decode cX5_readCloud 42 = .ok (.iconst 0, 1) := by decide +kernel
theorem dX5_readCloud_43 : decode cX5_readCloud 43 = .ok (.ireturn, 1) := by decide +kernel
theorem dX5_readCloud_44 : decode cX5_readCloud 44 = .ok (.aload_n 0, 1) := by decide +kernel
theorem dX5_readCloud_45 : decode cX5_readCloud 45 = .ok (.getfield 9, 3) := by decide +kernel
theorem dX5_readCloud_48 : decode cX5_readCloud 48 = .ok (.getfield 93, 3) := by decide +kernel
theorem dX5_readCloud_51 : decode cX5_readCloud 51 = .ok (.istore_n 1, 1) := by decide +kernel
theorem dX5_readCloud_52 : decode cX5_readCloud 52 = .ok (.aload_n 0, 1) := by decide +kernel
theorem dX5_readCloud_53 : decode cX5_readCloud 53 = .ok (.getfield 9, 3) := by decide +kernel
theorem dX5_readCloud_56 : decode cX5_readCloud 56 = .ok (.iconst 0, 1) := by decide +kernel
theorem dX5_readCloud_57 : decode cX5_readCloud 57 = .ok (.sipush 1439, 3) := by decide +kernel
theorem dX5_readCloud_60 : decode cX5_readCloud 60 = .ok (.invokevirtual 109, 3) := by decide +kernel
theorem dX5_readCloud_63 : decode cX5_readCloud 63 = .ok (.ifCond .ne 5, 3) := by decide +kernel
theorem dX5_readCloud_66 : decode cX5_readCloud 66 = .ok (.iconst 0, 1) := by decide +kernel
theorem dX5_readCloud_67 : decode cX5_readCloud 67 = .ok (.ireturn, 1) := by decide +kernel
theorem dX5_readCloud_68 : decode cX5_readCloud 68 = .ok (.aload_n 0, 1) := by decide +kernel
theorem dX5_readCloud_69 : decode cX5_readCloud 69 = .ok (.getfield 9, 3) := by decide +kernel
theorem dX5_readCloud_72 : decode cX5_readCloud 72 = .ok (.getfield 93, 3) := by decide +kernel
theorem dX5_readCloud_75 : decode cX5_readCloud 75 = .ok (.istore_n 2, 1) := by decide +kernel
theorem dX5_readCloud_76 : decode cX5_readCloud 76 = .ok (.aload_n 0, 1) := by decide +kernel
theorem dX5_readCloud_77 : decode cX5_readCloud 77 = .ok (.getfield 9, 3) := by decide +kernel
theorem dX5_readCloud_80 : decode cX5_readCloud 80 = .ok (.iload_n 2, 1) := by decide +kernel
theorem dX5_readCloud_81 : decode cX5_readCloud 81 = .ok (.sipush 1439, 3) := by decide +kernel
theorem dX5_readCloud_84 : decode cX5_readCloud 84 = .ok (.invokevirtual 109, 3) := by decide +kernel
theorem dX5_readCloud_87 : decode cX5_readCloud 87 = .ok (.ifCond .ne 5, 3) := by decide +kernel
theorem dX5_readCloud_90 : decode cX5_readCloud 90 = .ok (.iconst 0, 1) := by decide +kernel
theorem dX5_readCloud_91 : decode cX5_readCloud 91 = .ok (.ireturn, 1) := by decide +kernel
theorem dX5_readCloud_92 : decode cX5_readCloud 92 = .ok (.aload_n 0, 1) := by decide +kernel
theorem dX5_readCloud_93 : decode cX5_readCloud 93 = .ok (.getfield 15, 3) := by decide +kernel
theorem dX5_readCloud_96 : decode cX5_readCloud 96 = .ok (.iload_n 1, 1) := by decide +kernel
theorem dX5_readCloud_97 : decode cX5_readCloud 97 = .ok (.iload_n 2, 1) := by decide +kernel
theorem dX5_readCloud_98 : decode cX5_readCloud 98 = .ok (.aload_n 0, 1) := by decide +kernel
theorem dX5_readCloud_99 : decode cX5_readCloud 99 = .ok (.getfield 9, 3) := by decide +kernel
theorem dX5_readCloud_102 : decode cX5_readCloud 102 = .ok (.getfield 93, 3) := by decide +kernel
theorem dX5_readCloud_105 : decode cX5_readCloud 105 = .ok (.invokevirtual 132, 3) := by decide +kernel
theorem dX5_readCloud_108 : decode cX5_readCloud 108 = .ok (.iconst 1, 1) := by decide +kernel
theorem dX5_readCloud_109 : decode cX5_readCloud 109 = .ok (.ireturn, 1) := by decide +kernel
theorem dX6_init_0 : decode cX6_init 0 = .ok (.aload_n 0, 1) := by decide +kernel
theorem dX6_init_1 : decode cX6_init 1 = .ok (.invokespecial 3, 3) := by decide +kernel
theorem dX6_init_4 : decode cX6_init 4 = .ok (.aload_n 0, 1) := by decide +kernel
theorem dX6_init_5 : decode cX6_init 5 = .ok (.iconst 0, 1) := by decide +kernel
theorem dX6_init_6 : decode cX6_init 6 = .ok (.putfield 9, 3) := by decide +kernel
theorem dX6_init_9 : decode cX6_init 9 = .ok (.aload_n 0, 1) := by decide +kernel
theorem dX6_init_10 : decode cX6_init 10 = .ok (.iconst (-1), 1) := by decide +kernel
theorem dX6_init_11 : decode cX6_init 11 = .ok (.putfield 15, 3) := by decide +kernel
theorem dX6_init_14 : decode cX6_init 14 = .ok (.aload_n 0, 1) := by decide +kernel
theorem dX6_init_15 : decode cX6_init 15 = .ok (.iconst 0, 1) := by decide +kernel
theorem dX6_init_16 : decode cX6_init 16 = .ok (.putfield 18, 3) := by decide +kernel
theorem dX6_init_19 : decode cX6_init 19 = .ok (.aload_n 0, 1) := by decide +kernel
theorem dX6_init_20 : decode cX6_init 20 = .ok (.aconst_null, 1) := by decide +kernel
theorem dX6_init_21 : decode cX6_init 21 = .ok (.putfield 21, 3) := by decide +kernel
theorem dX6_init_24 : decode cX6_init 24 = .ok (.aload_n 0, 1) := by decide +kernel
theorem dX6_init_25 : decode cX6_init 25 = .ok (.iconst 0, 1) := by decide +kernel
theorem dX6_init_26 : decode cX6_init 26 = .ok (.putfield 25, 3) := by decide +kernel
theorem dX6_init_29 : decode cX6_init 29 = .ok (.aload_n 0, 1) := by decide +kernel
theorem dX6_init_30 : decode cX6_init 30 = .ok (.iconst 0, 1) := by decide +kernel
theorem dX6_init_31 : decode cX6_init 31 = .ok (.putfield 28, 3) := by decide +kernel
theorem dX6_init_34 : decode cX6_init 34 = .ok (.aload_n 0, 1) := by decide +kernel
theorem dX6_init_35 : decode cX6_init 35 = .ok (.iconst 0, 1) := by decide +kernel
theorem dX6_init_36 : decode cX6_init 36 = .ok (.putfield 31, 3) := by decide +kernel
theorem dX6_init_39 : decode cX6_init 39 = .ok (.aload_n 0, 1) := by decide +kernel
theorem dX6_init_40 : decode cX6_init 40 = .ok (.iconst 0, 1) := by decide +kernel
theorem dX6_init_41 : decode cX6_init 41 = .ok (.putfield 34, 3) := by decide +kernel
theorem dX6_init_44 : decode cX6_init 44 = .ok (.return_, 1) := by decide +kernel
theorem dX6_begin_0 : decode cX6_begin 0 = .ok (.aload_n 0, 1) := by decide +kernel
theorem dX6_begin_1 : decode cX6_begin 1 = .ok (.aload_n 1, 1) := by decide +kernel
theorem dX6_begin_2 : decode cX6_begin 2 = .ok (.putfield 21, 3) := by decide +kernel
theorem dX6_begin_5 : decode cX6_begin 5 = .ok (.aload_n 0, 1) := by decide +kernel
theorem dX6_begin_6 : decode cX6_begin 6 = .ok (.aload_n 1, 1) := by decide +kernel
theorem dX6_begin_7 : decode cX6_begin 7 = .ok (.ifnonnull 7, 3) := by decide +kernel
theorem dX6_begin_10 : decode cX6_begin 10 = .ok (.iconst 0, 1) := by decide +kernel
theorem dX6_begin_11 : decode cX6_begin 11 = .ok (.goto 13, 3) := by decide +kernel
theorem dX6_begin_14 : decode cX6_begin 14 = .ok (.iconst 0, 1) := by decide +kernel
theorem dX6_begin_15 : decode cX6_begin 15 = .ok (.iload_n 2, 1) := by decide +kernel
theorem dX6_begin_16 : decode cX6_begin 16 = .ok (.aload_n 1, 1) := by decide +kernel
theorem dX6_begin_17 : decode cX6_begin 17 = .ok (.arraylength, 1) := by decide +kernel
theorem dX6_begin_18 : decode cX6_begin 18 = .ok (.invokestatic 37, 3) := by decide +kernel
theorem dX6_begin_21 : decode cX6_begin 21 = .ok (.invokestatic 43, 3) := by decide +kernel
theorem dX6_begin_24 : decode cX6_begin 24 = .ok (.putfield 25, 3) := by decide +kernel
theorem dX6_begin_27 : decode cX6_begin 27 = .ok (.aload_n 0, 1) := by decide +kernel
theorem dX6_begin_28 : decode cX6_begin 28 = .ok (.iconst 0, 1) := by decide +kernel
theorem dX6_begin_29 : decode cX6_begin 29 = .ok (.putfield 9, 3) := by decide +kernel
theorem dX6_begin_32 : decode cX6_begin 32 = .ok (.aload_n 0, 1) := by decide +kernel
theorem dX6_begin_33 : decode cX6_begin 33 = .ok (.iconst (-1), 1) := by decide +kernel
theorem dX6_begin_34 : decode cX6_begin 34 = .ok (.putfield 15, 3) := by decide +kernel
theorem dX6_begin_37 : decode cX6_begin 37 = .ok (.aload_n 0, 1) := by decide +kernel
theorem dX6_begin_38 : decode cX6_begin 38 = .ok (.iconst 0, 1) := by decide +kernel
theorem dX6_begin_39 : decode cX6_begin 39 = .ok (.putfield 34, 3) := by decide +kernel
theorem dX6_begin_42 : decode cX6_begin 42 = .ok (.aload_n 0, 1) := by decide +kernel
theorem dX6_begin_43 : decode cX6_begin 43 = .ok (.invokevirtual 46, 3) := by decide +kernel
theorem dX6_begin_46 : decode cX6_begin 46 = .ok (.return_, 1) := by decide +kernel
theorem dX6_advance_0 : decode cX6_advance 0 = .ok (.aload_n 0, 1) := by decide +kernel
theorem dX6_advance_1 : decode cX6_advance 1 = .ok (.aload_n 0, 1) := by decide +kernel
theorem dX6_advance_2 : decode cX6_advance 2 = .ok (.getfield 34, 3) := by decide +kernel
theorem dX6_advance_5 : decode cX6_advance 5 = .ok (.putfield 31, 3) := by decide +kernel
theorem dX6_advance_8 : decode cX6_advance 8 = .ok (.aload_n 0, 1) := by decide +kernel
theorem dX6_advance_9 : decode cX6_advance 9 = .ok (.getfield 31, 3) := by decide +kernel
theorem dX6_advance_12 : decode cX6_advance 12 = .ok (.aload_n 0, 1) := by decide +kernel
theorem dX6_advance_13 : decode cX6_advance 13 = .ok (.getfield 25, 3) := by decide +kernel
theorem dX6_advance_16 : decode cX6_advance 16 = .ok (.if_icmp .ge 44, 3) := by decide +kernel
theorem dX6_advance_19 : decode cX6_advance 19 = .ok (.aload_n 0, 1) := by decide +kernel
theorem dX6_advance_20 : decode cX6_advance 20 = .ok (.getfield 21, 3) := by decide +kernel
theorem dX6_advance_23 : decode cX6_advance 23 = .ok (.aload_n 0, 1) := by decide +kernel
theorem dX6_advance_24 : decode cX6_advance 24 = .ok (.getfield 31, 3) := by decide +kernel
theorem dX6_advance_27 : decode cX6_advance 27 = .ok (.baload, 1) := by decide +kernel
theorem dX6_advance_28 : decode cX6_advance 28 = .ok (.bipush 32, 2) := by decide +kernel
theorem dX6_advance_30 : decode cX6_advance 30 = .ok (.if_icmp .eq 17, 3) := by decide +kernel
theorem dX6_advance_33 : decode cX6_advance 33 = .ok (.aload_n 0, 1) := by decide +kernel
theorem dX6_advance_34 : decode cX6_advance 34 = .ok (.getfield 21, 3) := by decide +kernel
theorem dX6_advance_37 : decode cX6_advance 37 = .ok (.aload_n 0, 1) := by decide +kernel
theorem dX6_advance_38 : decode cX6_advance 38 = .ok (.getfield 31, 3) := by decide +kernel
theorem dX6_advance_41 : decode cX6_advance 41 = .ok (.baload, 1) := by decide +kernel
theorem dX6_advance_42 : decode cX6_advance 42 = .ok (.bipush 10, 2) := by decide +kernel
theorem dX6_advance_44 : decode cX6_advance 44 = .ok (.if_icmp .ne 16, 3) := by decide +kernel
theorem dX6_advance_47 : decode cX6_advance 47 = .ok (.aload_n 0, 1) := by decide +kernel
theorem dX6_advance_48 : decode cX6_advance 48 = .ok (.dup, 1) := by decide +kernel
theorem dX6_advance_49 : decode cX6_advance 49 = .ok (.getfield 31, 3) := by decide +kernel
theorem dX6_advance_52 : decode cX6_advance 52 = .ok (.iconst 1, 1) := by decide +kernel
theorem dX6_advance_53 : decode cX6_advance 53 = .ok (.iadd, 1) := by decide +kernel
theorem dX6_advance_54 : decode cX6_advance 54 = .ok (.putfield 31, 3) := by decide +kernel
theorem dX6_advance_57 : decode cX6_advance 57 = .ok (.goto (-49), 3) := by decide +kernel
theorem dX6_advance_60 : decode cX6_advance 60 = .ok (.aload_n 0, 1) := by decide +kernel
theorem dX6_advance_61 : decode cX6_advance 61 = .ok (.aload_n 0, 1) := by decide +kernel
theorem dX6_advance_62 : decode cX6_advance 62 = .ok (.getfield 31, 3) := by decide +kernel
theorem dX6_advance_65 : decode cX6_advance 65 = .ok (.putfield 34, 3) := by decide +kernel
theorem dX6_advance_68 : decode cX6_advance 68 = .ok (.aload_n 0, 1) := by decide +kernel
theorem dX6_advance_69 : decode cX6_advance 69 = .ok (.getfield 31, 3) := by decide +kernel
theorem dX6_advance_72 : decode cX6_advance 72 = .ok (.aload_n 0, 1) := by decide +kernel
theorem dX6_advance_73 : decode cX6_advance 73 = .ok (.getfield 25, 3) := by decide +kernel
theorem dX6_advance_76 : decode cX6_advance 76 = .ok (.if_icmp .lt 11, 3) := by decide +kernel
theorem dX6_advance_79 : decode cX6_advance 79 = .ok (.aload_n 0, 1) := by decide +kernel
theorem dX6_advance_80 : decode cX6_advance 80 = .ok (.iconst 0, 1) := by decide +kernel
theorem dX6_advance_81 : decode cX6_advance 81 = .ok (.putfield 28, 3) := by decide +kernel
theorem dX6_advance_84 : decode cX6_advance 84 = .ok (.goto 136, 3) := by decide +kernel
theorem dX6_advance_87 : decode cX6_advance 87 = .ok (.aload_n 0, 1) := by decide +kernel
theorem dX6_advance_88 : decode cX6_advance 88 = .ok (.getfield 21, 3) := by decide +kernel
theorem dX6_advance_91 : decode cX6_advance 91 = .ok (.aload_n 0, 1) := by decide +kernel
theorem dX6_advance_92 : decode cX6_advance 92 = .ok (.getfield 31, 3) := by decide +kernel
theorem dX6_advance_95 : decode cX6_advance 95 = .ok (.baload, 1) := by decide +kernel
theorem dX6_advance_96 : decode cX6_advance 96 = .ok (.invokestatic 49, 3) := by decide +kernel
theorem dX6_advance_99 : decode cX6_advance 99 = .ok (.ifCond .eq 47, 3) := by decide +kernel
theorem dX6_advance_102 : decode cX6_advance 102 = .ok (.aload_n 0, 1) := by decide +kernel
theorem dX6_advance_103 : decode cX6_advance 103 = .ok (.iconst 1, 1) := by decide +kernel
theorem dX6_advance_104 : decode cX6_advance 104 = .ok (.putfield 28, 3) := by decide +kernel
theorem dX6_advance_107 : decode cX6_advance 107 = .ok (.aload_n 0, 1) := by decide +kernel
theorem dX6_advance_108 : decode cX6_advance 108 = .ok (.getfield 34, 3) := by decide +kernel
theorem dX6_advance_111 : decode cX6_advance 111 = .ok (.aload_n 0, 1) := by decide +kernel
theorem dX6_advance_112 : decode cX6_advance 112 = .ok (.getfield 25, 3) := by decide +kernel
theorem dX6_advance_115 : decode cX6_advance 115 = .ok (.if_icmp .ge 105, 3) := by decide +kernel
theorem dX6_advance_118 : decode cX6_advance 118 = .ok (.aload_n 0, 1) := by decide +kernel
theorem dX6_advance_119 : decode cX6_advance 119 = .ok (.getfield 21, 3) := by decide +kernel
theorem dX6_advance_122 : decode cX6_advance 122 = .ok (.aload_n 0, 1) := by decide +kernel
theorem dX6_advance_123 : decode cX6_advance 123 = .ok (.getfield 34, 3) := by decide +kernel
theorem dX6_advance_126 : decode cX6_advance 126 = .ok (.baload, 1) := by decide +kernel
theorem dX6_advance_127 : decode cX6_advance 127 = .ok (.invokestatic 49, 3) := by decide +kernel
theorem dX6_advance_130 : decode cX6_advance 130 = .ok (.ifCond .eq 90, 3) := by decide +kernel
theorem dX6_advance_133 : decode cX6_advance 133 = .ok (.aload_n 0, 1) := by decide +kernel
theorem dX6_advance_134 : decode cX6_advance 134 = .ok (.dup, 1) := by decide +kernel
theorem dX6_advance_135 : decode cX6_advance 135 = .ok (.getfield 34, 3) := by decide +kernel
theorem dX6_advance_138 : decode cX6_advance 138 = .ok (.iconst 1, 1) := by decide +kernel
theorem dX6_advance_139 : decode cX6_advance 139 = .ok (.iadd, 1) := by decide +kernel
theorem dX6_advance_140 : decode cX6_advance 140 = .ok (.putfield 34, 3) := by decide +kernel
theorem dX6_advance_143 : decode cX6_advance 143 = .ok (.goto (-36), 3) := by decide +kernel
theorem dX6_advance_146 : decode cX6_advance 146 = .ok (.aload_n 0, 1) := by decide +kernel
theorem dX6_advance_147 : decode cX6_advance 147 = .ok (.getfield 21, 3) := by decide +kernel
theorem dX6_advance_150 : decode cX6_advance 150 = .ok (.aload_n 0, 1) := by decide +kernel
theorem dX6_advance_151 : decode cX6_advance 151 = .ok (.getfield 31, 3) := by decide +kernel
theorem dX6_advance_154 : decode cX6_advance 154 = .ok (.baload, 1) := by decide +kernel
theorem dX6_advance_155 : decode cX6_advance 155 = .ok (.invokestatic 53, 3) := by decide +kernel
theorem dX6_advance_158 : decode cX6_advance 158 = .ok (.ifCond .eq 47, 3) := by decide +kernel
theorem dX6_advance_161 : decode cX6_advance 161 = .ok (.aload_n 0, 1) := by decide +kernel
theorem dX6_advance_162 : decode cX6_advance 162 = .ok (.iconst 2, 1) := by decide +kernel
theorem dX6_advance_163 : decode cX6_advance 163 = .ok (.putfield 28, 3) := by decide +kernel
theorem dX6_advance_166 : decode cX6_advance 166 = .ok (.aload_n 0, 1) := by decide +kernel
theorem dX6_advance_167 : decode cX6_advance 167 = .ok (.getfield 34, 3) := by decide +kernel
theorem dX6_advance_170 : decode cX6_advance 170 = .ok (.aload_n 0, 1) := by decide +kernel
theorem dX6_advance_171 : decode cX6_advance 171 = .ok (.getfield 25, 3) := by decide +kernel
theorem dX6_advance_174 : decode cX6_advance 174 = .ok (.if_icmp .ge 46, 3) := by decide +kernel
theorem dX6_advance_177 : decode cX6_advance 177 = .ok (.aload_n 0, 1) := by decide +kernel
theorem dX6_advance_178 : decode cX6_advance 178 = .ok (.getfield 21, 3) := by decide +kernel
theorem dX6_advance_181 : decode cX6_advance 181 = .ok (.aload_n 0, 1) := by decide +kernel
theorem dX6_advance_182 : decode cX6_advance 182 = .ok (.getfield 34, 3) := by decide +kernel
theorem dX6_advance_185 : decode cX6_advance 185 = .ok (.baload, 1) := by decide +kernel
theorem dX6_advance_186 : decode cX6_advance 186 = .ok (.invokestatic 53, 3) := by decide +kernel
theorem dX6_advance_189 : decode cX6_advance 189 = .ok (.ifCond .eq 31, 3) := by decide +kernel
theorem dX6_advance_192 : decode cX6_advance 192 = .ok (.aload_n 0, 1) := by decide +kernel
theorem dX6_advance_193 : decode cX6_advance 193 = .ok (.dup, 1) := by decide +kernel
theorem dX6_advance_194 : decode cX6_advance 194 = .ok (.getfield 34, 3) := by decide +kernel
theorem dX6_advance_197 : decode cX6_advance 197 = .ok (.iconst 1, 1) := by decide +kernel
theorem dX6_advance_198 : decode cX6_advance 198 = .ok (.iadd, 1) := by decide +kernel
theorem dX6_advance_199 : decode cX6_advance 199 = .ok (.putfield 34, 3) := by decide +kernel
theorem dX6_advance_202 : decode cX6_advance 202 = .ok (.goto (-36), 3) := by decide +kernel
theorem dX6_advance_205 : decode cX6_advance 205 = .ok (.aload_n 0, 1) := by decide +kernel
theorem dX6_advance_206 : decode cX6_advance 206 = .ok (.iconst 3, 1) := by decide +kernel
theorem dX6_advance_207 : decode cX6_advance 207 = .ok (.putfield 28, 3) := by decide +kernel
theorem dX6_advance_210 : decode cX6_advance 210 = .ok (.aload_n 0, 1) := by decide +kernel
theorem dX6_advance_211 : decode cX6_advance 211 = .ok (.dup, 1) := by decide +kernel
theorem dX6_advance_212 : decode cX6_advance 212 = .ok (.getfield 34, 3) := by decide +kernel
theorem dX6_advance_215 : decode cX6_advance 215 = .ok (.iconst 1, 1) := by decide +kernel
theorem dX6_advance_216 : decode cX6_advance 216 = .ok (.iadd, 1) := by decide +kernel
theorem dX6_advance_217 : decode cX6_advance 217 = .ok (.putfield 34, 3) := by decide +kernel
theorem dX6_advance_220 : decode cX6_advance 220 = .ok (.return_, 1) := by decide +kernel
theorem dX6_isLetter_0 : decode cX6_isLetter 0 = .ok (.iload_n 0, 1) := by decide +kernel
theorem dX6_isLetter_1 : decode cX6_isLetter 1 = .ok (.bipush 97, 2) := by decide +kernel
theorem dX6_isLetter_3 : decode cX6_isLetter 3 = .ok (.if_icmp .lt 13, 3) := by decide +kernel
theorem dX6_isLetter_6 : decode cX6_isLetter 6 = .ok (.iload_n 0, 1) := by decide +kernel
theorem dX6_isLetter_7 : decode cX6_isLetter 7 = .ok (.bipush 122, 2) := by decide +kernel
theorem dX6_isLetter_9 : decode cX6_isLetter 9 = .ok (.if_icmp .gt 7, 3) := by decide +kernel
theorem dX6_isLetter_12 : decode cX6_isLetter 12 = .ok (.iconst 1, 1) := by decide +kernel
theorem dX6_isLetter_13 : decode cX6_isLetter 13 = .ok (.goto 4, 3) := by decide +kernel
theorem dX6_isLetter_16 : decode cX6_isLetter 16 = .ok (.iconst 0, 1) := by decide +kernel
theorem dX6_isLetter_17 : decode cX6_isLetter 17 = .ok (.ireturn, 1) := by decide +kernel
theorem dX6_isDigit_0 : decode cX6_isDigit 0 = .ok (.iload_n 0, 1) := by decide +kernel
theorem dX6_isDigit_1 : decode cX6_isDigit 1 = .ok (.bipush 48, 2) := by decide +kernel
theorem dX6_isDigit_3 : decode cX6_isDigit 3 = .ok (.if_icmp .lt 13, 3) := by decide +kernel
theorem dX6_isDigit_6 : decode cX6_isDigit 6 = .ok (.iload_n 0, 1) := by decide +kernel
theorem dX6_isDigit_7 : decode cX6_isDigit 7 = .ok (.bipush 57, 2) := by decide +kernel
theorem dX6_isDigit_9 : decode cX6_isDigit 9 = .ok (.if_icmp .gt 7, 3) := by decide +kernel
theorem dX6_isDigit_12 : decode cX6_isDigit 12 = .ok (.iconst 1, 1) := by decide +kernel
theorem dX6_isDigit_13 : decode cX6_isDigit 13 = .ok (.goto 4, 3) := by decide +kernel
theorem dX6_isDigit_16 : decode cX6_isDigit 16 = .ok (.iconst 0, 1) := by decide +kernel
theorem dX6_isDigit_17 : decode cX6_isDigit 17 = .ok (.ireturn, 1) := by decide +kernel
theorem dX6_isEnd_0 : decode cX6_isEnd 0 = .ok (.aload_n 0, 1) := by decide +kernel
theorem dX6_isEnd_1 : decode cX6_isEnd 1 = .ok (.getfield 28, 3) := by decide +kernel
theorem dX6_isEnd_4 : decode cX6_isEnd 4 = .ok (.ifCond .ne 7, 3) := by decide +kernel
theorem dX6_isEnd_7 : decode cX6_isEnd 7 = .ok (.iconst 1, 1) := by decide +kernel
theorem dX6_isEnd_8 : decode cX6_isEnd 8 = .ok (.goto 4, 3) := by decide +kernel
theorem dX6_isEnd_11 : decode cX6_isEnd 11 = .ok (.iconst 0, 1) := by decide +kernel
theorem dX6_isEnd_12 : decode cX6_isEnd 12 = .ok (.ireturn, 1) := by decide +kernel
theorem dX6_isAnyWord_0 : decode cX6_isAnyWord 0 = .ok (.aload_n 0, 1) := by decide +kernel
theorem dX6_isAnyWord_1 : decode cX6_isAnyWord 1 = .ok (.getfield 28, 3) := by decide +kernel
theorem dX6_isAnyWord_4 : decode cX6_isAnyWord 4 = .ok (.iconst 1, 1) := by decide +kernel
theorem dX6_isAnyWord_5 : decode cX6_isAnyWord 5 = .ok (.if_icmp .ne 7, 3) := by decide +kernel
theorem dX6_isAnyWord_8 : decode cX6_isAnyWord 8 = .ok (.iconst 1, 1) := by decide +kernel
theorem dX6_isAnyWord_9 : decode cX6_isAnyWord 9 = .ok (.goto 4, 3) := by decide +kernel
theorem dX6_isAnyWord_12 : decode cX6_isAnyWord 12 = .ok (.iconst 0, 1) := by decide +kernel
theorem dX6_isAnyWord_13 : decode cX6_isAnyWord 13 = .ok (.ireturn, 1) := by decide +kernel
theorem dX6_isWord_0 : decode cX6_isWord 0 = .ok (.aload_n 0, 1) := by decide +kernel
theorem dX6_isWord_1 : decode cX6_isWord 1 = .ok (.getfield 28, 3) := by decide +kernel
theorem dX6_isWord_4 : decode cX6_isWord 4 = .ok (.iconst 1, 1) := by decide +kernel
theorem dX6_isWord_5 : decode cX6_isWord 5 = .ok (.if_icmp .ne 19, 3) := by decide +kernel
theorem dX6_isWord_8 : decode cX6_isWord 8 = .ok (.aload_n 0, 1) := by decide +kernel
theorem dX6_isWord_9 : decode cX6_isWord 9 = .ok (.getfield 34, 3) := by decide +kernel
theorem dX6_isWord_12 : decode cX6_isWord 12 = .ok (.aload_n 0, 1) := by decide +kernel
theorem dX6_isWord_13 : decode cX6_isWord 13 = .ok (.getfield 31, 3) := by decide +kernel
theorem dX6_isWord_16 : decode cX6_isWord 16 = .ok (.isub, 1) := by decide +kernel
theorem dX6_isWord_17 : decode cX6_isWord 17 = .ok (.aload_n 1, 1) := by decide +kernel
theorem dX6_isWord_18 : decode cX6_isWord 18 = .ok (.invokevirtual 56, 3) := by decide +kernel
theorem dX6_isWord_21 : decode cX6_isWord 21 = .ok (.if_icmp .eq 5, 3) := by decide +kernel
theorem dX6_isWord_24 : decode cX6_isWord 24 = .ok (.iconst 0, 1) := by decide +kernel
theorem dX6_isWord_25 : decode cX6_isWord 25 = .ok (.ireturn, 1) := by decide +kernel
theorem dX6_isWord_26 : decode cX6_isWord 26 = .ok (.iconst 0, 1) := by decide +kernel
theorem dX6_isWord_27 : decode cX6_isWord 27 = .ok (.istore_n 2, 1) := by decide +kernel
theorem dX6_isWord_28 : decode cX6_isWord 28 = .ok (.iload_n 2, 1) := by decide +kernel
theorem dX6_isWord_29 : decode cX6_isWord 29 = .ok (.aload_n 1, 1) := by decide +kernel
theorem dX6_isWord_30 : decode cX6_isWord 30 = .ok (.invokevirtual 56, 3) := by decide +kernel
theorem dX6_isWord_33 : decode cX6_isWord 33 = .ok (.if_icmp .ge 30, 3) := by decide +kernel
theorem dX6_isWord_36 : decode cX6_isWord 36 = .ok (.aload_n 0, 1) := by decide +kernel
theorem dX6_isWord_37 : decode cX6_isWord 37 = .ok (.getfield 21, 3) := by decide +kernel
theorem dX6_isWord_40 : decode cX6_isWord 40 = .ok (.aload_n 0, 1) := by decide +kernel
theorem dX6_isWord_41 : decode cX6_isWord 41 = .ok (.getfield 31, 3) := by decide +kernel
theorem dX6_isWord_44 : decode cX6_isWord 44 = .ok (.iload_n 2, 1) := by decide +kernel
theorem dX6_isWord_45 : decode cX6_isWord 45 = .ok (.iadd, 1) := by decide +kernel
theorem dX6_isWord_46 : decode cX6_isWord 46 = .ok (.baload, 1) := by decide +kernel
theorem dX6_isWord_47 : decode cX6_isWord 47 = .ok (.aload_n 1, 1) := by decide +kernel
theorem dX6_isWord_48 : decode cX6_isWord 48 = .ok (.iload_n 2, 1) := by decide +kernel
theorem dX6_isWord_49 : decode cX6_isWord 49 = .ok (.invokevirtual 61, 3) := by decide +kernel
theorem dX6_isWord_52 : decode cX6_isWord 52 = .ok (.if_icmp .eq 5, 3) := by decide +kernel
theorem dX6_isWord_55 : decode cX6_isWord 55 = .ok (.iconst 0, 1) := by decide +kernel
theorem dX6_isWord_56 : decode cX6_isWord 56 = .ok (.ireturn, 1) := by decide +kernel
theorem dX6_isWord_57 : decode cX6_isWord 57 = .ok (.iinc 2 1, 3) := by decide +kernel
theorem dX6_isWord_60 : decode cX6_isWord 60 = .ok (.goto (-32), 3) := by decide +kernel
theorem dX6_isWord_63 : decode cX6_isWord 63 = .ok (.iconst 1, 1) := by decide +kernel
theorem dX6_isWord_64 : decode cX6_isWord 64 = .ok (.ireturn, 1) := by decide +kernel
theorem dX6_isSign_0 : decode cX6_isSign 0 = .ok (.aload_n 0, 1) := by decide +kernel
theorem dX6_isSign_1 : decode cX6_isSign 1 = .ok (.getfield 28, 3) := by decide +kernel
theorem dX6_isSign_4 : decode cX6_isSign 4 = .ok (.iconst 3, 1) := by decide +kernel
theorem dX6_isSign_5 : decode cX6_isSign 5 = .ok (.if_icmp .ne 20, 3) := by decide +kernel
theorem dX6_isSign_8 : decode cX6_isSign 8 = .ok (.aload_n 0, 1) := by decide +kernel
theorem dX6_isSign_9 : decode cX6_isSign 9 = .ok (.getfield 21, 3) := by decide +kernel
theorem dX6_isSign_12 : decode cX6_isSign 12 = .ok (.aload_n 0, 1) := by decide +kernel
theorem dX6_isSign_13 : decode cX6_isSign 13 = .ok (.getfield 31, 3) := by decide +kernel
theorem dX6_isSign_16 : decode cX6_isSign 16 = .ok (.baload, 1) := by decide +kernel
theorem dX6_isSign_17 : decode cX6_isSign 17 = .ok (.iload_n 1, 1) := by decide +kernel
theorem dX6_isSign_18 : decode cX6_isSign 18 = .ok (.if_icmp .ne 7, 3) := by decide +kernel
theorem dX6_isSign_21 : decode cX6_isSign 21 = .ok (.iconst 1, 1) := by decide +kernel
theorem dX6_isSign_22 : decode cX6_isSign 22 = .ok (.goto 4, 3) := by decide +kernel
theorem dX6_isSign_25 : decode cX6_isSign 25 = .ok (.iconst 0, 1) := by decide +kernel
theorem dX6_isSign_26 : decode cX6_isSign 26 = .ok (.ireturn, 1) := by decide +kernel
theorem dX6_refuse_0 : decode cX6_refuse 0 = .ok (.aload_n 0, 1) := by decide +kernel
theorem dX6_refuse_1 : decode cX6_refuse 1 = .ok (.iload_n 1, 1) := by decide +kernel
theorem dX6_refuse_2 : decode cX6_refuse 2 = .ok (.putfield 9, 3) := by decide +kernel
theorem dX6_refuse_5 : decode cX6_refuse 5 = .ok (.aload_n 0, 1) := by decide +kernel
theorem dX6_refuse_6 : decode cX6_refuse 6 = .ok (.aload_n 0, 1) := by decide +kernel
theorem dX6_refuse_7 : decode cX6_refuse 7 = .ok (.getfield 31, 3) := by decide +kernel
theorem dX6_refuse_10 : decode cX6_refuse 10 = .ok (.putfield 15, 3) := by decide +kernel
theorem dX6_refuse_13 : decode cX6_refuse 13 = .ok (.iconst 0, 1) := by decide +kernel
theorem dX6_refuse_14 : decode cX6_refuse 14 = .ok (.ireturn, 1) := by decide +kernel
theorem dX6_takeWord_0 : decode cX6_takeWord 0 = .ok (.aload_n 0, 1) := by decide +kernel
theorem dX6_takeWord_1 : decode cX6_takeWord 1 = .ok (.aload_n 1, 1) := by decide +kernel
theorem dX6_takeWord_2 : decode cX6_takeWord 2 = .ok (.invokevirtual 65, 3) := by decide +kernel
theorem dX6_takeWord_5 : decode cX6_takeWord 5 = .ok (.ifCond .ne 9, 3) := by decide +kernel
theorem dX6_takeWord_8 : decode cX6_takeWord 8 = .ok (.aload_n 0, 1) := by decide +kernel
theorem dX6_takeWord_9 : decode cX6_takeWord 9 = .ok (.iconst 1, 1) := by decide +kernel
theorem dX6_takeWord_10 : decode cX6_takeWord 10 = .ok (.invokevirtual 69, 3) := by decide +kernel
theorem dX6_takeWord_13 : decode cX6_takeWord 13 = .ok (.ireturn, 1) := by decide +kernel
theorem dX6_takeWord_14 : decode cX6_takeWord 14 = .ok (.aload_n 0, 1) := by decide +kernel
theorem dX6_takeWord_15 : decode cX6_takeWord 15 = .ok (.invokevirtual 46, 3) := by decide +kernel
theorem dX6_takeWord_18 : decode cX6_takeWord 18 = .ok (.iconst 1, 1) := by decide +kernel
theorem dX6_takeWord_19 : decode cX6_takeWord 19 = .ok (.ireturn, 1) := by decide +kernel
theorem dX6_takeSign_0 : decode cX6_takeSign 0 = .ok (.aload_n 0, 1) := by decide +kernel
theorem dX6_takeSign_1 : decode cX6_takeSign 1 = .ok (.iload_n 1, 1) := by decide +kernel
theorem dX6_takeSign_2 : decode cX6_takeSign 2 = .ok (.invokevirtual 73, 3) := by decide +kernel
theorem dX6_takeSign_5 : decode cX6_takeSign 5 = .ok (.ifCond .ne 9, 3) := by decide +kernel
theorem dX6_takeSign_8 : decode cX6_takeSign 8 = .ok (.aload_n 0, 1) := by decide +kernel
theorem dX6_takeSign_9 : decode cX6_takeSign 9 = .ok (.iconst 1, 1) := by decide +kernel
theorem dX6_takeSign_10 : decode cX6_takeSign 10 = .ok (.invokevirtual 69, 3) := by decide +kernel
theorem dX6_takeSign_13 : decode cX6_takeSign 13 = .ok (.ireturn, 1) := by decide +kernel
theorem dX6_takeSign_14 : decode cX6_takeSign 14 = .ok (.aload_n 0, 1) := by decide +kernel
theorem dX6_takeSign_15 : decode cX6_takeSign 15 = .ok (.invokevirtual 46, 3) := by decide +kernel
theorem dX6_takeSign_18 : decode cX6_takeSign 18 = .ok (.iconst 1, 1) := by decide +kernel
theorem dX6_takeSign_19 : decode cX6_takeSign 19 = .ok (.ireturn, 1) := by decide +kernel
theorem dX6_takeSigned_0 : decode cX6_takeSigned 0 = .ok (.aload_n 0, 1) := by decide +kernel
theorem dX6_takeSigned_1 : decode cX6_takeSigned 1 = .ok (.bipush 45, 2) := by decide +kernel
theorem dX6_takeSigned_3 : decode cX6_takeSigned 3 = .ok (.invokevirtual 73, 3) := by decide +kernel
theorem dX6_takeSigned_6 : decode cX6_takeSigned 6 = .ok (.istore_n 2, 1) := by decide +kernel
theorem dX6_takeSigned_7 : decode cX6_takeSigned 7 = .ok (.iload_n 2, 1) := by decide +kernel
theorem dX6_takeSigned_8 : decode cX6_takeSigned 8 = .ok (.ifCond .eq 7, 3) := by decide +kernel
theorem dX6_takeSigned_11 : decode cX6_takeSigned 11 = .ok (.aload_n 0, 1) := by decide +kernel
theorem dX6_takeSigned_12 : decode cX6_takeSigned 12 = .ok (.invokevirtual 46, 3) := by decide +kernel
theorem dX6_takeSigned_15 : decode cX6_takeSigned 15 = .ok (.aload_n 0, 1) := by decide +kernel
theorem dX6_takeSigned_16 : decode cX6_takeSigned 16 = .ok (.iconst 0, 1) := by decide +kernel
theorem dX6_takeSigned_17 : decode cX6_takeSigned 17 = .ok (.iload_n 1, 1) := by decide +kernel
theorem dX6_takeSigned_18 : decode cX6_takeSigned 18 = .ok (.invokevirtual 77, 3) := by decide +kernel
theorem dX6_takeSigned_21 : decode cX6_takeSigned 21 = .ok (.ifCond .ne 5, 3) := by decide +kernel
theorem dX6_takeSigned_24 : decode cX6_takeSigned 24 = .ok (.iconst 0, 1) := by decide +kernel
theorem dX6_takeSigned_25 : decode cX6_takeSigned 25 = .ok (.ireturn, 1) := by decide +kernel
theorem dX6_takeSigned_26 : decode cX6_takeSigned 26 = .ok (.aload_n 0, 1) := by decide +kernel
theorem dX6_takeSigned_27 : decode cX6_takeSigned 27 = .ok (.iload_n 2, 1) := by decide +kernel
theorem dX6_takeSigned_28 : decode cX6_takeSigned 28 = .ok (.ifCond .eq 11, 3) := by decide +kernel
theorem dX6_takeSigned_31 : decode cX6_takeSigned 31 = .ok (.aload_n 0, 1) := by decide +kernel
theorem dX6_takeSigned_32 : decode cX6_takeSigned 32 = .ok (.getfield 18, 3) := by decide +kernel
theorem dX6_takeSigned_35 : decode cX6_takeSigned 35 = .ok (.ineg, 1) := by decide +kernel
theorem dX6_takeSigned_36 : decode cX6_takeSigned 36 = .ok (.goto 7, 3) := by decide +kernel
theorem dX6_takeSigned_39 : decode cX6_takeSigned 39 = .ok (.aload_n 0, 1) := by decide +kernel
theorem dX6_takeSigned_40 : decode cX6_takeSigned 40 = .ok (.getfield 18, 3) := by decide +kernel
theorem dX6_takeSigned_43 : decode cX6_takeSigned 43 = .ok (.putfield 18, 3) := by decide +kernel
theorem dX6_takeSigned_46 : decode cX6_takeSigned 46 = .ok (.iconst 1, 1) := by decide +kernel
theorem dX6_takeSigned_47 : decode cX6_takeSigned 47 = .ok (.ireturn, 1) := by decide +kernel
theorem dX6_takeNumber_0 : decode cX6_takeNumber 0 = .ok (.aload_n 0, 1) := by decide +kernel
theorem dX6_takeNumber_1 : decode cX6_takeNumber 1 = .ok (.iload_n 1, 1) := by decide +kernel
theorem dX6_takeNumber_2 : decode cX6_takeNumber 2 = .ok (.iload_n 2, 1) := by decide +kernel
theorem dX6_takeNumber_3 : decode cX6_takeNumber 3 = .ok (.invokevirtual 81, 3) := by decide +kernel
theorem dX6_takeNumber_6 : decode cX6_takeNumber 6 = .ok (.ifCond .ne 5, 3) := by decide +kernel
theorem dX6_takeNumber_9 : decode cX6_takeNumber 9 = .ok (.iconst 0, 1) := by decide +kernel
theorem dX6_takeNumber_10 : decode cX6_takeNumber 10 = .ok (.ireturn, 1) := by decide +kernel
theorem dX6_takeNumber_11 : decode cX6_takeNumber 11 = .ok (.aload_n 0, 1) := by decide +kernel
theorem dX6_takeNumber_12 : decode cX6_takeNumber 12 = .ok (.invokevirtual 46, 3) := by decide +kernel
theorem dX6_takeNumber_15 : decode cX6_takeNumber 15 = .ok (.iconst 1, 1) := by decide +kernel
theorem dX6_takeNumber_16 : decode cX6_takeNumber 16 = .ok (.ireturn, 1) := by decide +kernel
theorem dX6_holdsNumber_0 : decode cX6_holdsNumber 0 = .ok (.aload_n 0, 1) := by decide +kernel
theorem dX6_holdsNumber_1 : decode cX6_holdsNumber 1 = .ok (.getfield 28, 3) := by decide +kernel
theorem dX6_holdsNumber_4 : decode cX6_holdsNumber 4 = .ok (.iconst 2, 1) := by decide +kernel
theorem dX6_holdsNumber_5 : decode cX6_holdsNumber 5 = .ok (.if_icmp .eq 9, 3) := by decide +kernel
theorem dX6_holdsNumber_8 : decode cX6_holdsNumber 8 = .ok (.aload_n 0, 1) := by decide +kernel
theorem dX6_holdsNumber_9 : decode cX6_holdsNumber 9 = .ok (.iconst 1, 1) := by decide +kernel
theorem dX6_holdsNumber_10 : decode cX6_holdsNumber 10 = .ok (.invokevirtual 69, 3) := by decide +kernel
theorem dX6_holdsNumber_13 : decode cX6_holdsNumber 13 = .ok (.ireturn, 1) := by decide +kernel
theorem dX6_holdsNumber_14 : decode cX6_holdsNumber 14 = .ok (.iconst 0, 1) := by decide +kernel
theorem dX6_holdsNumber_15 : decode cX6_holdsNumber 15 = .ok (.istore_n 3, 1) := by decide +kernel
theorem dX6_holdsNumber_16 : decode cX6_holdsNumber 16 = .ok (.aload_n 0, 1) := by decide +kernel
theorem dX6_holdsNumber_17 : decode cX6_holdsNumber 17 = .ok (.getfield 31, 3) := by decide +kernel
theorem dX6_holdsNumber_20 : decode cX6_holdsNumber 20 = .ok (.istore 4, 2) := by decide +kernel
theorem dX6_holdsNumber_22 : decode cX6_holdsNumber 22 = .ok (.iload 4, 2) := by decide +kernel
theorem dX6_holdsNumber_24 : decode cX6_holdsNumber 24 = .ok (.aload_n 0, 1) := by decide +kernel
theorem dX6_holdsNumber_25 : decode cX6_holdsNumber 25 = .ok (.getfield 34, 3) := by decide +kernel
theorem dX6_holdsNumber_28 : decode cX6_holdsNumber 28 = .ok (.if_icmp .ge 36, 3) := by decide +kernel
theorem dX6_holdsNumber_31 : decode cX6_holdsNumber 31 = .ok (.iload 4, 2) := by decide +kernel
theorem dX6_holdsNumber_33 : decode cX6_holdsNumber 33 = .ok (.aload_n 0, 1) := by decide +kernel
theorem dX6_holdsNumber_34 : decode cX6_holdsNumber 34 = .ok (.getfield 31, 3) := by decide +kernel
theorem dX6_holdsNumber_37 : decode cX6_holdsNumber 37 = .ok (.iconst 4, 1) := by decide +kernel
theorem dX6_holdsNumber_38 : decode cX6_holdsNumber 38 = .ok (.iadd, 1) := by decide +kernel
theorem dX6_holdsNumber_39 : decode cX6_holdsNumber 39 = .ok (.if_icmp .ge 25, 3) := by decide +kernel
theorem dX6_holdsNumber_42 : decode cX6_holdsNumber 42 = .ok (.bipush 10, 2) := by decide +kernel
theorem dX6_holdsNumber_44 : decode cX6_holdsNumber 44 = .ok (.iload_n 3, 1) := by decide +kernel
theorem dX6_holdsNumber_45 : decode cX6_holdsNumber 45 = .ok (.imul, 1) := by decide +kernel
theorem dX6_holdsNumber_46 : decode cX6_holdsNumber 46 = .ok (.aload_n 0, 1) := by decide +kernel
theorem dX6_holdsNumber_47 : decode cX6_holdsNumber 47 = .ok (.getfield 21, 3) := by decide +kernel
theorem dX6_holdsNumber_50 : decode cX6_holdsNumber 50 = .ok (.iload 4, 2) := by decide +kernel
theorem dX6_holdsNumber_52 : decode cX6_holdsNumber 52 = .ok (.baload, 1) := by decide +kernel
theorem dX6_holdsNumber_53 : decode cX6_holdsNumber 53 = .ok (.iadd, 1) := by decide +kernel
theorem dX6_holdsNumber_54 : decode cX6_holdsNumber 54 = .ok (.bipush 48, 2) := by decide +kernel
theorem dX6_holdsNumber_56 : decode cX6_holdsNumber 56 = .ok (.isub, 1) := by decide +kernel
theorem dX6_holdsNumber_57 : decode cX6_holdsNumber 57 = .ok (.istore_n 3, 1) := by decide +kernel
theorem dX6_holdsNumber_58 : decode cX6_holdsNumber 58 = .ok (.iinc 4 1, 3) := by decide +kernel
theorem dX6_holdsNumber_61 : decode cX6_holdsNumber 61 = .ok (.goto (-39), 3) := by decide +kernel
theorem dX6_holdsNumber_64 : decode cX6_holdsNumber 64 = .ok (.aload_n 0, 1) := by decide +kernel
theorem dX6_holdsNumber_65 : decode cX6_holdsNumber 65 = .ok (.getfield 34, 3) := by decide +kernel
theorem dX6_holdsNumber_68 : decode cX6_holdsNumber 68 = .ok (.aload_n 0, 1) := by decide +kernel
theorem dX6_holdsNumber_69 : decode cX6_holdsNumber 69 = .ok (.getfield 31, 3) := by decide +kernel
theorem dX6_holdsNumber_72 : decode cX6_holdsNumber 72 = .ok (.isub, 1) := by decide +kernel
theorem dX6_holdsNumber_73 : decode cX6_holdsNumber 73 = .ok (.iconst 4, 1) := by decide +kernel
theorem dX6_holdsNumber_74 : decode cX6_holdsNumber 74 = .ok (.if_icmp .gt 13, 3) := by decide +kernel
theorem dX6_holdsNumber_77 : decode cX6_holdsNumber 77 = .ok (.iload_n 3, 1) := by decide +kernel
theorem dX6_holdsNumber_78 : decode cX6_holdsNumber 78 = .ok (.iload_n 1, 1) := by decide +kernel
theorem dX6_holdsNumber_79 : decode cX6_holdsNumber 79 = .ok (.if_icmp .lt 8, 3) := by decide +kernel
theorem dX6_holdsNumber_82 : decode cX6_holdsNumber 82 = .ok (.iload_n 3, 1) := by decide +kernel
theorem dX6_holdsNumber_83 : decode cX6_holdsNumber 83 = .ok (.iload_n 2, 1) := by decide +kernel
theorem dX6_holdsNumber_84 : decode cX6_holdsNumber 84 = .ok (.if_icmp .le 9, 3) := by decide +kernel
theorem dX6_holdsNumber_87 : decode cX6_holdsNumber 87 = .ok (.aload_n 0, 1) := by decide +kernel
theorem dX6_holdsNumber_88 : decode cX6_holdsNumber 88 = .ok (.iconst 2, 1) := by decide +kernel
theorem dX6_holdsNumber_89 : decode cX6_holdsNumber 89 = .ok (.invokevirtual 69, 3) := by decide +kernel
theorem dX6_holdsNumber_92 : decode cX6_holdsNumber 92 = .ok (.ireturn, 1) := by decide +kernel
theorem dX6_holdsNumber_93 : decode cX6_holdsNumber 93 = .ok (.aload_n 0, 1) := by decide +kernel
theorem dX6_holdsNumber_94 : decode cX6_holdsNumber 94 = .ok (.iload_n 3, 1) := by decide +kernel
theorem dX6_holdsNumber_95 : decode cX6_holdsNumber 95 = .ok (.putfield 18, 3) := by decide +kernel
theorem dX6_holdsNumber_98 : decode cX6_holdsNumber 98 = .ok (.iconst 1, 1) := by decide +kernel
theorem dX6_holdsNumber_99 : decode cX6_holdsNumber 99 = .ok (.ireturn, 1) := by decide +kernel
theorem dX7_init_0 : decode cX7_init 0 = .ok (.aload_n 0, 1) := by decide +kernel
theorem dX7_init_1 : decode cX7_init 1 = .ok (.invokespecial 3, 3) := by decide +kernel
theorem dX7_init_4 : decode cX7_init 4 = .ok (.aload_n 0, 1) := by decide +kernel
theorem dX7_init_5 : decode cX7_init 5 = .ok (.iconst 0, 1) := by decide +kernel
theorem dX7_init_6 : decode cX7_init 6 = .ok (.putfield 9, 3) := by decide +kernel
theorem dX7_init_9 : decode cX7_init 9 = .ok (.aload_n 0, 1) := by decide +kernel
theorem dX7_init_10 : decode cX7_init 10 = .ok (.iconst 0, 1) := by decide +kernel
theorem dX7_init_11 : decode cX7_init 11 = .ok (.putfield 15, 3) := by decide +kernel
theorem dX7_init_14 : decode cX7_init 14 = .ok (.aload_n 0, 1) := by decide +kernel
theorem dX7_init_15 : decode cX7_init 15 = .ok (.iconst (-1), 1) := by decide +kernel
theorem dX7_init_16 : decode cX7_init 16 = .ok (.putfield 18, 3) := by decide +kernel
theorem dX7_init_19 : decode cX7_init 19 = .ok (.aload_n 0, 1) := by decide +kernel
theorem dX7_init_20 : decode cX7_init 20 = .ok (.iconst (-1), 1) := by decide +kernel
theorem dX7_init_21 : decode cX7_init 21 = .ok (.putfield 21, 3) := by decide +kernel
theorem dX7_init_24 : decode cX7_init 24 = .ok (.aload_n 0, 1) := by decide +kernel
theorem dX7_init_25 : decode cX7_init 25 = .ok (.iconst 0, 1) := by decide +kernel
theorem dX7_init_26 : decode cX7_init 26 = .ok (.putfield 24, 3) := by decide +kernel
theorem dX7_init_29 : decode cX7_init 29 = .ok (.aload_n 0, 1) := by decide +kernel
theorem dX7_init_30 : decode cX7_init 30 = .ok (.iconst (-1), 1) := by decide +kernel
theorem dX7_init_31 : decode cX7_init 31 = .ok (.putfield 27, 3) := by decide +kernel
theorem dX7_init_34 : decode cX7_init 34 = .ok (.aload_n 0, 1) := by decide +kernel
theorem dX7_init_35 : decode cX7_init 35 = .ok (.iconst (-1), 1) := by decide +kernel
theorem dX7_init_36 : decode cX7_init 36 = .ok (.putfield 30, 3) := by decide +kernel
theorem dX7_init_39 : decode cX7_init 39 = .ok (.aload_n 0, 1) := by decide +kernel
theorem dX7_init_40 : decode cX7_init 40 = .ok (.iconst 0, 1) := by decide +kernel
theorem dX7_init_41 : decode cX7_init 41 = .ok (.putfield 33, 3) := by decide +kernel
theorem dX7_init_44 : decode cX7_init 44 = .ok (.aload_n 0, 1) := by decide +kernel
theorem dX7_init_45 : decode cX7_init 45 = .ok (.sipush 242, 3) := by decide +kernel
theorem dX7_init_48 : decode cX7_init 48 = .ok (.newarray .int, 2) := by decide +kernel
theorem dX7_init_50 : decode cX7_init 50 = .ok (.putfield 36, 3) := by decide +kernel
theorem dX7_init_53 : decode cX7_init 53 = .ok (.aload_n 0, 1) := by decide +kernel
theorem dX7_init_54 : decode cX7_init 54 = .ok (.sipush 512, 3) := by decide +kernel
theorem dX7_init_57 : decode cX7_init 57 = .ok (.newarray .int, 2) := by decide +kernel
theorem dX7_init_59 : decode cX7_init 59 = .ok (.putfield 40, 3) := by decide +kernel
theorem dX7_init_62 : decode cX7_init 62 = .ok (.return_, 1) := by decide +kernel
theorem dX7_clear_0 : decode cX7_clear 0 = .ok (.aload_n 0, 1) := by decide +kernel
theorem dX7_clear_1 : decode cX7_clear 1 = .ok (.iconst 0, 1) := by decide +kernel
theorem dX7_clear_2 : decode cX7_clear 2 = .ok (.putfield 9, 3) := by decide +kernel
theorem dX7_clear_5 : decode cX7_clear 5 = .ok (.aload_n 0, 1) := by decide +kernel
theorem dX7_clear_6 : decode cX7_clear 6 = .ok (.iconst 0, 1) := by decide +kernel
theorem dX7_clear_7 : decode cX7_clear 7 = .ok (.putfield 15, 3) := by decide +kernel
theorem dX7_clear_10 : decode cX7_clear 10 = .ok (.aload_n 0, 1) := by decide +kernel
theorem dX7_clear_11 : decode cX7_clear 11 = .ok (.iconst (-1), 1) := by decide +kernel
theorem dX7_clear_12 : decode cX7_clear 12 = .ok (.putfield 18, 3) := by decide +kernel
theorem dX7_clear_15 : decode cX7_clear 15 = .ok (.aload_n 0, 1) := by decide +kernel
theorem dX7_clear_16 : decode cX7_clear 16 = .ok (.iconst (-1), 1) := by decide +kernel
theorem dX7_clear_17 : decode cX7_clear 17 = .ok (.putfield 21, 3) := by decide +kernel
theorem dX7_clear_20 : decode cX7_clear 20 = .ok (.aload_n 0, 1) := by decide +kernel
theorem dX7_clear_21 : decode cX7_clear 21 = .ok (.iconst 0, 1) := by decide +kernel
theorem dX7_clear_22 : decode cX7_clear 22 = .ok (.putfield 24, 3) := by decide +kernel
theorem dX7_clear_25 : decode cX7_clear 25 = .ok (.aload_n 0, 1) := by decide +kernel
theorem dX7_clear_26 : decode cX7_clear 26 = .ok (.iconst (-1), 1) := by decide +kernel
theorem dX7_clear_27 : decode cX7_clear 27 = .ok (.putfield 27, 3) := by decide +kernel
theorem dX7_clear_30 : decode cX7_clear 30 = .ok (.aload_n 0, 1) := by decide +kernel
theorem dX7_clear_31 : decode cX7_clear 31 = .ok (.iconst (-1), 1) := by decide +kernel
theorem dX7_clear_32 : decode cX7_clear 32 = .ok (.putfield 30, 3) := by decide +kernel
theorem dX7_clear_35 : decode cX7_clear 35 = .ok (.return_, 1) := by decide +kernel
theorem dX7_add_0 : decode cX7_add 0 = .ok (.iload_n 2, 1) := by decide +kernel
theorem dX7_add_1 : decode cX7_add 1 = .ok (.iconst (-1), 1) := by decide +kernel
theorem dX7_add_2 : decode cX7_add 2 = .ok (.if_icmp .ne 4, 3) := by decide +kernel
theorem dX7_add_5 : decode cX7_add 5 = .ok (.return_, 1) := by decide +kernel
theorem dX7_add_6 : decode cX7_add 6 = .ok (.iload_n 2, 1) := by decide +kernel
theorem dX7_add_7 : decode cX7_add 7 = .ok (.iload_n 3, 1) := by decide +kernel
theorem dX7_add_8 : decode cX7_add 8 = .ok (.invokestatic 43, 3) := by decide +kernel
theorem dX7_add_11 : decode cX7_add 11 = .ok (.istore 4, 2) := by decide +kernel
theorem dX7_add_13 : decode cX7_add 13 = .ok (.aload_n 0, 1) := by decide +kernel
theorem dX7_add_14 : decode cX7_add 14 = .ok (.dup, 1) := by decide +kernel
theorem dX7_add_15 : decode cX7_add 15 = .ok (.getfield 9, 3) := by decide +kernel
theorem dX7_add_18 : decode cX7_add 18 = .ok (.iconst 1, 1) := by decide +kernel
theorem dX7_add_19 : decode cX7_add 19 = .ok (.iadd, 1) := by decide +kernel
theorem dX7_add_20 : decode cX7_add 20 = .ok (.putfield 9, 3) := by decide +kernel
theorem dX7_add_23 : decode cX7_add 23 = .ok (.aload_n 0, 1) := by decide +kernel
theorem dX7_add_24 : decode cX7_add 24 = .ok (.dup, 1) := by decide +kernel
theorem dX7_add_25 : decode cX7_add 25 = .ok (.getfield 15, 3) := by decide +kernel
theorem dX7_add_28 : decode cX7_add 28 = .ok (.iload 4, 2) := by decide +kernel
theorem dX7_add_30 : decode cX7_add 30 = .ok (.iadd, 1) := by decide +kernel
theorem dX7_add_31 : decode cX7_add 31 = .ok (.putfield 15, 3) := by decide +kernel
theorem dX7_add_34 : decode cX7_add 34 = .ok (.iload 4, 2) := by decide +kernel
theorem dX7_add_36 : decode cX7_add 36 = .ok (.aload_n 0, 1) := by decide +kernel
theorem dX7_add_37 : decode cX7_add 37 = .ok (.getfield 21, 3) := by decide +kernel
theorem dX7_add_40 : decode cX7_add 40 = .ok (.if_icmp .le 14, 3) := by decide +kernel
theorem dX7_add_43 : decode cX7_add 43 = .ok (.aload_n 0, 1) := by decide +kernel
theorem dX7_add_44 : decode cX7_add 44 = .ok (.iload 4, 2) := by decide +kernel
theorem dX7_add_46 : decode cX7_add 46 = .ok (.putfield 21, 3) := by decide +kernel
theorem dX7_add_49 : decode cX7_add 49 = .ok (.aload_n 0, 1) := by decide +kernel
theorem dX7_add_50 : decode cX7_add 50 = .ok (.iload_n 1, 1) := by decide +kernel
theorem dX7_add_51 : decode cX7_add 51 = .ok (.putfield 18, 3) := by decide +kernel
theorem dX7_add_54 : decode cX7_add 54 = .ok (.return_, 1) := by decide +kernel
theorem dX7_addMinute_0 : decode cX7_addMinute 0 = .ok (.aload_n 0, 1) := by decide +kernel
theorem dX7_addMinute_1 : decode cX7_addMinute 1 = .ok (.dup, 1) := by decide +kernel
theorem dX7_addMinute_2 : decode cX7_addMinute 2 = .ok (.getfield 24, 3) := by decide +kernel
theorem dX7_addMinute_5 : decode cX7_addMinute 5 = .ok (.iconst 1, 1) := by decide +kernel
theorem dX7_addMinute_6 : decode cX7_addMinute 6 = .ok (.iadd, 1) := by decide +kernel
theorem dX7_addMinute_7 : decode cX7_addMinute 7 = .ok (.putfield 24, 3) := by decide +kernel
theorem dX7_addMinute_10 : decode cX7_addMinute 10 = .ok (.aload_n 0, 1) := by decide +kernel
theorem dX7_addMinute_11 : decode cX7_addMinute 11 = .ok (.aload_n 0, 1) := by decide +kernel
theorem dX7_addMinute_12 : decode cX7_addMinute 12 = .ok (.getfield 27, 3) := by decide +kernel
theorem dX7_addMinute_15 : decode cX7_addMinute 15 = .ok (.iconst (-1), 1) := by decide +kernel
theorem dX7_addMinute_16 : decode cX7_addMinute 16 = .ok (.if_icmp .ne 7, 3) := by decide +kernel
theorem dX7_addMinute_19 : decode cX7_addMinute 19 = .ok (.iload_n 1, 1) := by decide +kernel
theorem dX7_addMinute_20 : decode cX7_addMinute 20 = .ok (.goto 11, 3) := by decide +kernel
theorem dX7_addMinute_23 : decode cX7_addMinute 23 = .ok (.aload_n 0, 1) := by decide +kernel
theorem dX7_addMinute_24 : decode cX7_addMinute 24 = .ok (.getfield 27, 3) := by decide +kernel
theorem dX7_addMinute_27 : decode cX7_addMinute 27 = .ok (.iload_n 1, 1) := by decide +kernel
theorem dX7_addMinute_28 : decode cX7_addMinute 28 = .ok (.invokestatic 47, 3) := by decide +kernel
theorem dX7_addMinute_31 : decode cX7_addMinute 31 = .ok (.putfield 27, 3) := by decide +kernel
theorem dX7_addMinute_34 : decode cX7_addMinute 34 = .ok (.aload_n 0, 1) := by decide +kernel
theorem dX7_addMinute_35 : decode cX7_addMinute 35 = .ok (.aload_n 0, 1) := by decide +kernel
theorem dX7_addMinute_36 : decode cX7_addMinute 36 = .ok (.getfield 30, 3) := by decide +kernel
theorem dX7_addMinute_39 : decode cX7_addMinute 39 = .ok (.iload_n 1, 1) := by decide +kernel
theorem dX7_addMinute_40 : decode cX7_addMinute 40 = .ok (.invokestatic 52, 3) := by decide +kernel
theorem dX7_addMinute_43 : decode cX7_addMinute 43 = .ok (.putfield 30, 3) := by decide +kernel
theorem dX7_addMinute_46 : decode cX7_addMinute 46 = .ok (.return_, 1) := by decide +kernel
theorem dX7_addAllMinutes_0 : decode cX7_addAllMinutes 0 = .ok (.aload_n 0, 1) := by decide +kernel
theorem dX7_addAllMinutes_1 : decode cX7_addAllMinutes 1 = .ok (.sipush 1440, 3) := by decide +kernel
theorem dX7_addAllMinutes_4 : decode cX7_addAllMinutes 4 = .ok (.putfield 24, 3) := by decide +kernel
theorem dX7_addAllMinutes_7 : decode cX7_addAllMinutes 7 = .ok (.aload_n 0, 1) := by decide +kernel
theorem dX7_addAllMinutes_8 : decode cX7_addAllMinutes 8 = .ok (.iconst 0, 1) := by decide +kernel
theorem dX7_addAllMinutes_9 : decode cX7_addAllMinutes 9 = .ok (.putfield 27, 3) := by decide +kernel
theorem dX7_addAllMinutes_12 : decode cX7_addAllMinutes 12 = .ok (.aload_n 0, 1) := by decide +kernel
theorem dX7_addAllMinutes_13 : decode cX7_addAllMinutes 13 = .ok (.sipush 1439, 3) := by decide +kernel
theorem dX7_addAllMinutes_16 : decode cX7_addAllMinutes 16 = .ok (.putfield 30, 3) := by decide +kernel
theorem dX7_addAllMinutes_19 : decode cX7_addAllMinutes 19 = .ok (.return_, 1) := by decide +kernel
theorem dX7_clearTurns_0 : decode cX7_clearTurns 0 = .ok (.aload_n 0, 1) := by decide +kernel
theorem dX7_clearTurns_1 : decode cX7_clearTurns 1 = .ok (.iconst 0, 1) := by decide +kernel
theorem dX7_clearTurns_2 : decode cX7_clearTurns 2 = .ok (.putfield 33, 3) := by decide +kernel
theorem dX7_clearTurns_5 : decode cX7_clearTurns 5 = .ok (.aload_n 0, 1) := by decide +kernel
theorem dX7_clearTurns_6 : decode cX7_clearTurns 6 = .ok (.getfield 36, 3) := by decide +kernel
theorem dX7_clearTurns_9 : decode cX7_clearTurns 9 = .ok (.iconst 0, 1) := by decide +kernel
theorem dX7_clearTurns_10 : decode cX7_clearTurns 10 = .ok (.invokestatic 55, 3) := by decide +kernel
theorem dX7_clearTurns_13 : decode cX7_clearTurns 13 = .ok (.return_, 1) := by decide +kernel
theorem dX7_addTurns_0 : decode cX7_addTurns 0 = .ok (.iload_n 1, 1) := by decide +kernel
theorem dX7_addTurns_1 : decode cX7_addTurns 1 = .ok (.bipush (-120), 2) := by decide +kernel
theorem dX7_addTurns_3 : decode cX7_addTurns 3 = .ok (.invokestatic 52, 3) := by decide +kernel
theorem dX7_addTurns_6 : decode cX7_addTurns 6 = .ok (.istore_n 3, 1) := by decide +kernel
theorem dX7_addTurns_7 : decode cX7_addTurns 7 = .ok (.iload_n 2, 1) := by decide +kernel
theorem dX7_addTurns_8 : decode cX7_addTurns 8 = .ok (.bipush 120, 2) := by decide +kernel
theorem dX7_addTurns_10 : decode cX7_addTurns 10 = .ok (.invokestatic 47, 3) := by decide +kernel
theorem dX7_addTurns_13 : decode cX7_addTurns 13 = .ok (.istore 4, 2) := by decide +kernel
theorem dX7_addTurns_15 : decode cX7_addTurns 15 = .ok (.iload_n 3, 1) := by decide +kernel
theorem dX7_addTurns_16 : decode cX7_addTurns 16 = .ok (.iload 4, 2) := by decide +kernel
theorem dX7_addTurns_18 : decode cX7_addTurns 18 = .ok (.if_icmp .gt 32, 3) := by decide +kernel
theorem dX7_addTurns_21 : decode cX7_addTurns 21 = .ok (.aload_n 0, 1) := by decide +kernel
theorem dX7_addTurns_22 : decode cX7_addTurns 22 = .ok (.getfield 36, 3) := by decide +kernel
theorem dX7_addTurns_25 : decode cX7_addTurns 25 = .ok (.iload_n 3, 1) := by decide +kernel
theorem dX7_addTurns_26 : decode cX7_addTurns 26 = .ok (.bipush 120, 2) := by decide +kernel
theorem dX7_addTurns_28 : decode cX7_addTurns 28 = .ok (.iadd, 1) := by decide +kernel
theorem dX7_addTurns_29 : decode cX7_addTurns 29 = .ok (.dup2, 1) := by decide +kernel
theorem dX7_addTurns_30 : decode cX7_addTurns 30 = .ok (.iaload, 1) := by decide +kernel
theorem dX7_addTurns_31 : decode cX7_addTurns 31 = .ok (.iconst 1, 1) := by decide +kernel
theorem dX7_addTurns_32 : decode cX7_addTurns 32 = .ok (.iadd, 1) := by decide +kernel
theorem dX7_addTurns_33 : decode cX7_addTurns 33 = .ok (.iastore, 1) := by decide +kernel
theorem dX7_addTurns_34 : decode cX7_addTurns 34 = .ok (.aload_n 0, 1) := by decide +kernel
theorem dX7_addTurns_35 : decode cX7_addTurns 35 = .ok (.getfield 36, 3) := by decide +kernel
theorem dX7_addTurns_38 : decode cX7_addTurns 38 = .ok (.iload 4, 2) := by decide +kernel
theorem dX7_addTurns_40 : decode cX7_addTurns 40 = .ok (.bipush 120, 2) := by decide +kernel
theorem dX7_addTurns_42 : decode cX7_addTurns 42 = .ok (.iadd, 1) := by decide +kernel
theorem dX7_addTurns_43 : decode cX7_addTurns 43 = .ok (.iconst 1, 1) := by decide +kernel
theorem dX7_addTurns_44 : decode cX7_addTurns 44 = .ok (.iadd, 1) := by decide +kernel
theorem dX7_addTurns_45 : decode cX7_addTurns 45 = .ok (.dup2, 1) := by decide +kernel
theorem dX7_addTurns_46 : decode cX7_addTurns 46 = .ok (.iaload, 1) := by decide +kernel
theorem dX7_addTurns_47 : decode cX7_addTurns 47 = .ok (.iconst 1, 1) := by decide +kernel
theorem dX7_addTurns_48 : decode cX7_addTurns 48 = .ok (.isub, 1) := by decide +kernel
theorem dX7_addTurns_49 : decode cX7_addTurns 49 = .ok (.iastore, 1) := by decide +kernel
theorem dX7_addTurns_50 : decode cX7_addTurns 50 = .ok (.return_, 1) := by decide +kernel
theorem dX7_bestTurn_0 : decode cX7_bestTurn 0 = .ok (.iconst (-1), 1) := by decide +kernel
theorem dX7_bestTurn_1 : decode cX7_bestTurn 1 = .ok (.istore_n 2, 1) := by decide +kernel
theorem dX7_bestTurn_2 : decode cX7_bestTurn 2 = .ok (.iconst 0, 1) := by decide +kernel
theorem dX7_bestTurn_3 : decode cX7_bestTurn 3 = .ok (.istore_n 3, 1) := by decide +kernel
theorem dX7_bestTurn_4 : decode cX7_bestTurn 4 = .ok (.aload_n 0, 1) := by decide +kernel
theorem dX7_bestTurn_5 : decode cX7_bestTurn 5 = .ok (.iconst (-1), 1) := by decide +kernel
theorem dX7_bestTurn_6 : decode cX7_bestTurn 6 = .ok (.putfield 33, 3) := by decide +kernel
theorem dX7_bestTurn_9 : decode cX7_bestTurn 9 = .ok (.bipush (-120), 2) := by decide +kernel
theorem dX7_bestTurn_11 : decode cX7_bestTurn 11 = .ok (.istore 4, 2) := by decide +kernel
theorem dX7_bestTurn_13 : decode cX7_bestTurn 13 = .ok (.iload 4, 2) := by decide +kernel
theorem dX7_bestTurn_15 : decode cX7_bestTurn 15 = .ok (.bipush 120, 2) := by decide +kernel
theorem dX7_bestTurn_17 : decode cX7_bestTurn 17 = .ok (.if_icmp .gt 74, 3) := by decide +kernel
theorem dX7_bestTurn_20 : decode cX7_bestTurn 20 = .ok (.iload_n 3, 1) := by decide +kernel
theorem dX7_bestTurn_21 : decode cX7_bestTurn 21 = .ok (.aload_n 0, 1) := by decide +kernel
theorem dX7_bestTurn_22 : decode cX7_bestTurn 22 = .ok (.getfield 36, 3) := by decide +kernel
theorem dX7_bestTurn_25 : decode cX7_bestTurn 25 = .ok (.iload 4, 2) := by decide +kernel
theorem dX7_bestTurn_27 : decode cX7_bestTurn 27 = .ok (.bipush 120, 2) := by decide +kernel
theorem dX7_bestTurn_29 : decode cX7_bestTurn 29 = .ok (.iadd, 1) := by decide +kernel
theorem dX7_bestTurn_30 : decode cX7_bestTurn 30 = .ok (.iaload, 1) := by decide +kernel
theorem dX7_bestTurn_31 : decode cX7_bestTurn 31 = .ok (.iadd, 1) := by decide +kernel
theorem dX7_bestTurn_32 : decode cX7_bestTurn 32 = .ok (.istore_n 3, 1) := by decide +kernel
theorem dX7_bestTurn_33 : decode cX7_bestTurn 33 = .ok (.iload_n 3, 1) := by decide +kernel
theorem dX7_bestTurn_34 : decode cX7_bestTurn 34 = .ok (.aload_n 0, 1) := by decide +kernel
theorem dX7_bestTurn_35 : decode cX7_bestTurn 35 = .ok (.getfield 33, 3) := by decide +kernel
theorem dX7_bestTurn_38 : decode cX7_bestTurn 38 = .ok (.if_icmp .ne 23, 3) := by decide +kernel
theorem dX7_bestTurn_41 : decode cX7_bestTurn 41 = .ok (.iload 4, 2) := by decide +kernel
theorem dX7_bestTurn_43 : decode cX7_bestTurn 43 = .ok (.iload_n 1, 1) := by decide +kernel
theorem dX7_bestTurn_44 : decode cX7_bestTurn 44 = .ok (.isub, 1) := by decide +kernel
theorem dX7_bestTurn_45 : decode cX7_bestTurn 45 = .ok (.invokestatic 61, 3) := by decide +kernel
theorem dX7_bestTurn_48 : decode cX7_bestTurn 48 = .ok (.iload_n 2, 1) := by decide +kernel
theorem dX7_bestTurn_49 : decode cX7_bestTurn 49 = .ok (.iload_n 1, 1) := by decide +kernel
theorem dX7_bestTurn_50 : decode cX7_bestTurn 50 = .ok (.isub, 1) := by decide +kernel
theorem dX7_bestTurn_51 : decode cX7_bestTurn 51 = .ok (.invokestatic 61, 3) := by decide +kernel
theorem dX7_bestTurn_54 : decode cX7_bestTurn 54 = .ok (.if_icmp .ge 7, 3) := by decide +kernel
theorem dX7_bestTurn_57 : decode cX7_bestTurn 57 = .ok (.iconst 1, 1) := by decide +kernel
theorem dX7_bestTurn_58 : decode cX7_bestTurn 58 = .ok (.goto 4, 3) := by decide +kernel
theorem dX7_bestTurn_61 : decode cX7_bestTurn 61 = .ok (.iconst 0, 1) := by decide +kernel
theorem dX7_bestTurn_62 : decode cX7_bestTurn 62 = .ok (.istore 5, 2) := by decide +kernel
theorem dX7_bestTurn_64 : decode cX7_bestTurn 64 = .ok (.iload_n 3, 1) := by decide +kernel
theorem dX7_bestTurn_65 : decode cX7_bestTurn 65 = .ok (.aload_n 0, 1) := by decide +kernel
theorem dX7_bestTurn_66 : decode cX7_bestTurn 66 = .ok (.getfield 33, 3) := by decide +kernel
theorem dX7_bestTurn_69 : decode cX7_bestTurn 69 = .ok (.if_icmp .gt 8, 3) := by decide +kernel
theorem dX7_bestTurn_72 : decode cX7_bestTurn 72 = .ok (.iload 5, 2) := by decide +kernel
theorem dX7_bestTurn_74 : decode cX7_bestTurn 74 = .ok (.ifCond .eq 11, 3) := by decide +kernel
theorem dX7_bestTurn_77 : decode cX7_bestTurn 77 = .ok (.aload_n 0, 1) := by decide +kernel
theorem dX7_bestTurn_78 : decode cX7_bestTurn 78 = .ok (.iload_n 3, 1) := by decide +kernel
theorem dX7_bestTurn_79 : decode cX7_bestTurn 79 = .ok (.putfield 33, 3) := by decide +kernel
theorem dX7_bestTurn_82 : decode cX7_bestTurn 82 = .ok (.iload 4, 2) := by decide +kernel
theorem dX7_bestTurn_84 : decode cX7_bestTurn 84 = .ok (.istore_n 2, 1) := by decide +kernel
theorem dX7_bestTurn_85 : decode cX7_bestTurn 85 = .ok (.iinc 4 1, 3) := by decide +kernel
theorem dX7_bestTurn_88 : decode cX7_bestTurn 88 = .ok (.goto (-75), 3) := by decide +kernel
theorem dX7_bestTurn_91 : decode cX7_bestTurn 91 = .ok (.iload_n 2, 1) := by decide +kernel
theorem dX7_bestTurn_92 : decode cX7_bestTurn 92 = .ok (.ireturn, 1) := by decide +kernel
theorem dX7_clearGroups_0 : decode cX7_clearGroups 0 = .ok (.aload_n 0, 1) := by decide +kernel
theorem dX7_clearGroups_1 : decode cX7_clearGroups 1 = .ok (.getfield 40, 3) := by decide +kernel
theorem dX7_clearGroups_4 : decode cX7_clearGroups 4 = .ok (.iconst 0, 1) := by decide +kernel
theorem dX7_clearGroups_5 : decode cX7_clearGroups 5 = .ok (.invokestatic 55, 3) := by decide +kernel
theorem dX7_clearGroups_8 : decode cX7_clearGroups 8 = .ok (.return_, 1) := by decide +kernel
theorem dX7_addGroup_0 : decode cX7_addGroup 0 = .ok (.iload_n 1, 1) := by decide +kernel
theorem dX7_addGroup_1 : decode cX7_addGroup 1 = .ok (.ifCond .lt 22, 3) := by decide +kernel
theorem dX7_addGroup_4 : decode cX7_addGroup 4 = .ok (.iload_n 1, 1) := by decide +kernel
theorem dX7_addGroup_5 : decode cX7_addGroup 5 = .ok (.aload_n 0, 1) := by decide +kernel
theorem dX7_addGroup_6 : decode cX7_addGroup 6 = .ok (.getfield 40, 3) := by decide +kernel
theorem dX7_addGroup_9 : decode cX7_addGroup 9 = .ok (.arraylength, 1) := by decide +kernel
theorem dX7_addGroup_10 : decode cX7_addGroup 10 = .ok (.if_icmp .ge 13, 3) := by decide +kernel
theorem dX7_addGroup_13 : decode cX7_addGroup 13 = .ok (.aload_n 0, 1) := by decide +kernel
theorem dX7_addGroup_14 : decode cX7_addGroup 14 = .ok (.getfield 40, 3) := by decide +kernel
theorem dX7_addGroup_17 : decode cX7_addGroup 17 = .ok (.iload_n 1, 1) := by decide +kernel
theorem dX7_addGroup_18 : decode cX7_addGroup 18 = .ok (.dup2, 1) := by decide +kernel
theorem dX7_addGroup_19 : decode cX7_addGroup 19 = .ok (.iaload, 1) := by decide +kernel
theorem dX7_addGroup_20 : decode cX7_addGroup 20 = .ok (.iconst 1, 1) := by decide +kernel
theorem dX7_addGroup_21 : decode cX7_addGroup 21 = .ok (.iadd, 1) := by decide +kernel
theorem dX7_addGroup_22 : decode cX7_addGroup 22 = .ok (.iastore, 1) := by decide +kernel
theorem dX7_addGroup_23 : decode cX7_addGroup 23 = .ok (.return_, 1) := by decide +kernel
theorem dX7_minutesOfBoth_0 : decode cX7_minutesOfBoth 0 = .ok (.iconst 1, 1) := by decide +kernel
theorem dX7_minutesOfBoth_1 : decode cX7_minutesOfBoth 1 = .ok (.iload_n 1, 1) := by decide +kernel
theorem dX7_minutesOfBoth_2 : decode cX7_minutesOfBoth 2 = .ok (.ishl, 1) := by decide +kernel
theorem dX7_minutesOfBoth_3 : decode cX7_minutesOfBoth 3 = .ok (.iconst 1, 1) := by decide +kernel
theorem dX7_minutesOfBoth_4 : decode cX7_minutesOfBoth 4 = .ok (.iload_n 2, 1) := by decide +kernel
theorem dX7_minutesOfBoth_5 : decode cX7_minutesOfBoth 5 = .ok (.ishl, 1) := by decide +kernel
theorem dX7_minutesOfBoth_6 : decode cX7_minutesOfBoth 6 = .ok (.ior, 1) := by decide +kernel
theorem dX7_minutesOfBoth_7 : decode cX7_minutesOfBoth 7 = .ok (.istore_n 3, 1) := by decide +kernel
theorem dX7_minutesOfBoth_8 : decode cX7_minutesOfBoth 8 = .ok (.iconst 0, 1) := by decide +kernel
theorem dX7_minutesOfBoth_9 : decode cX7_minutesOfBoth 9 = .ok (.istore 4, 2) := by decide +kernel
theorem dX7_minutesOfBoth_11 : decode cX7_minutesOfBoth 11 = .ok (.iconst 0, 1) := by decide +kernel
theorem dX7_minutesOfBoth_12 : decode cX7_minutesOfBoth 12 = .ok (.istore 5, 2) := by decide +kernel
theorem dX7_minutesOfBoth_14 : decode cX7_minutesOfBoth 14 = .ok (.iload 5, 2) := by decide +kernel
theorem dX7_minutesOfBoth_16 : decode cX7_minutesOfBoth 16 = .ok (.aload_n 0, 1) := by decide +kernel
theorem dX7_minutesOfBoth_17 : decode cX7_minutesOfBoth 17 = .ok (.getfield 40, 3) := by decide +kernel
theorem dX7_minutesOfBoth_20 : decode cX7_minutesOfBoth 20 = .ok (.arraylength, 1) := by decide +kernel
theorem dX7_minutesOfBoth_21 : decode cX7_minutesOfBoth 21 = .ok (.if_icmp .ge 29, 3) := by decide +kernel
theorem dX7_minutesOfBoth_24 : decode cX7_minutesOfBoth 24 = .ok (.iload 5, 2) := by decide +kernel
theorem dX7_minutesOfBoth_26 : decode cX7_minutesOfBoth 26 = .ok (.iload_n 3, 1) := by decide +kernel
theorem dX7_minutesOfBoth_27 : decode cX7_minutesOfBoth 27 = .ok (.iand, 1) := by decide +kernel
theorem dX7_minutesOfBoth_28 : decode cX7_minutesOfBoth 28 = .ok (.iload_n 3, 1) := by decide +kernel
theorem dX7_minutesOfBoth_29 : decode cX7_minutesOfBoth 29 = .ok (.if_icmp .ne 15, 3) := by decide +kernel
theorem dX7_minutesOfBoth_32 : decode cX7_minutesOfBoth 32 = .ok (.iload 4, 2) := by decide +kernel
theorem dX7_minutesOfBoth_34 : decode cX7_minutesOfBoth 34 = .ok (.aload_n 0, 1) := by decide +kernel
theorem dX7_minutesOfBoth_35 : decode cX7_minutesOfBoth 35 = .ok (.getfield 40, 3) := by decide +kernel
theorem dX7_minutesOfBoth_38 : decode cX7_minutesOfBoth 38 = .ok (.iload 5, 2) := by decide +kernel
theorem dX7_minutesOfBoth_40 : decode cX7_minutesOfBoth 40 = .ok (.iaload, 1) := by decide +kernel
theorem dX7_minutesOfBoth_41 : decode cX7_minutesOfBoth 41 = .ok (.iadd, 1) := by decide +kernel
theorem dX7_minutesOfBoth_42 : decode cX7_minutesOfBoth 42 = .ok (.istore 4, 2) := by decide +kernel
theorem dX7_minutesOfBoth_44 : decode cX7_minutesOfBoth 44 = .ok (.iinc 5 1, 3) := by decide +kernel
theorem dX7_minutesOfBoth_47 : decode cX7_minutesOfBoth 47 = .ok (.goto (-33), 3) := by decide +kernel
theorem dX7_minutesOfBoth_50 : decode cX7_minutesOfBoth 50 = .ok (.iload 4, 2) := by decide +kernel
theorem dX7_minutesOfBoth_52 : decode cX7_minutesOfBoth 52 = .ok (.ireturn, 1) := by decide +kernel
theorem dJ9_floorMod_7cf53_0 : decode cJ9_floorMod_7cf53 0 = .ok (.iload_n 0, 1) := by decide +kernel
theorem dJ9_floorMod_7cf53_1 : decode cJ9_floorMod_7cf53 1 = .ok (.iload_n 1, 1) := by decide +kernel
theorem dJ9_floorMod_7cf53_2 : decode cJ9_floorMod_7cf53 2 = .ok (.irem, 1) := by decide +kernel
theorem dJ9_floorMod_7cf53_3 : decode cJ9_floorMod_7cf53 3 = .ok (.istore_n 2, 1) := by decide +kernel
theorem dJ9_floorMod_7cf53_4 : decode cJ9_floorMod_7cf53 4 = .ok (.iload_n 0, 1) := by decide +kernel
theorem dJ9_floorMod_7cf53_5 : decode cJ9_floorMod_7cf53 5 = .ok (.iload_n 1, 1) := by decide +kernel
theorem dJ9_floorMod_7cf53_6 : decode cJ9_floorMod_7cf53 6 = .ok (.ixor, 1) := by decide +kernel
theorem dJ9_floorMod_7cf53_7 : decode cJ9_floorMod_7cf53 7 = .ok (.ifCond .ge 11, 3) := by decide +kernel
theorem dJ9_floorMod_7cf53_10 : decode cJ9_floorMod_7cf53 10 = .ok (.iload_n 2, 1) := by decide +kernel
theorem dJ9_floorMod_7cf53_11 : decode cJ9_floorMod_7cf53 11 = .ok (.ifCond .eq 7, 3) := by decide +kernel
theorem dJ9_floorMod_7cf53_14 : decode cJ9_floorMod_7cf53 14 = .ok (.iload_n 2, 1) := by decide +kernel
theorem dJ9_floorMod_7cf53_15 : decode cJ9_floorMod_7cf53 15 = .ok (.iload_n 1, 1) := by decide +kernel
theorem dJ9_floorMod_7cf53_16 : decode cJ9_floorMod_7cf53 16 = .ok (.iadd, 1) := by decide +kernel
theorem dJ9_floorMod_7cf53_17 : decode cJ9_floorMod_7cf53 17 = .ok (.ireturn, 1) := by decide +kernel
theorem dJ9_floorMod_7cf53_18 : decode cJ9_floorMod_7cf53 18 = .ok (.iload_n 2, 1) := by decide +kernel
theorem dJ9_floorMod_7cf53_19 : decode cJ9_floorMod_7cf53 19 = .ok (.ireturn, 1) := by decide +kernel
theorem dJ9_abs_0f7a4_0 : decode cJ9_abs_0f7a4 0 = .ok (.iload_n 0, 1) := by decide +kernel
theorem dJ9_abs_0f7a4_1 : decode cJ9_abs_0f7a4 1 = .ok (.ifCond .ge 8, 3) := by decide +kernel
theorem dJ9_abs_0f7a4_4 : decode cJ9_abs_0f7a4 4 = .ok (.iload_n 0, 1) := by decide +kernel
theorem dJ9_abs_0f7a4_5 : decode cJ9_abs_0f7a4 5 = .ok (.ineg, 1) := by decide +kernel
theorem dJ9_abs_0f7a4_6 : decode cJ9_abs_0f7a4 6 = .ok (.goto 4, 3) := by decide +kernel
theorem dJ9_abs_0f7a4_9 : decode cJ9_abs_0f7a4 9 = .ok (.iload_n 0, 1) := by decide +kernel
theorem dJ9_abs_0f7a4_10 : decode cJ9_abs_0f7a4 10 = .ok (.ireturn, 1) := by decide +kernel
theorem dJ9_max_7cf53_0 : decode cJ9_max_7cf53 0 = .ok (.iload_n 0, 1) := by decide +kernel
theorem dJ9_max_7cf53_1 : decode cJ9_max_7cf53 1 = .ok (.iload_n 1, 1) := by decide +kernel
theorem dJ9_max_7cf53_2 : decode cJ9_max_7cf53 2 = .ok (.if_icmp .lt 7, 3) := by decide +kernel
theorem dJ9_max_7cf53_5 : decode cJ9_max_7cf53 5 = .ok (.iload_n 0, 1) := by decide +kernel
theorem dJ9_max_7cf53_6 : decode cJ9_max_7cf53 6 = .ok (.goto 4, 3) := by decide +kernel
theorem dJ9_max_7cf53_9 : decode cJ9_max_7cf53 9 = .ok (.iload_n 1, 1) := by decide +kernel
theorem dJ9_max_7cf53_10 : decode cJ9_max_7cf53 10 = .ok (.ireturn, 1) := by decide +kernel
theorem dJ9_min_7cf53_0 : decode cJ9_min_7cf53 0 = .ok (.iload_n 0, 1) := by decide +kernel
theorem dJ9_min_7cf53_1 : decode cJ9_min_7cf53 1 = .ok (.iload_n 1, 1) := by decide +kernel
theorem dJ9_min_7cf53_2 : decode cJ9_min_7cf53 2 = .ok (.if_icmp .gt 7, 3) := by decide +kernel
theorem dJ9_min_7cf53_5 : decode cJ9_min_7cf53 5 = .ok (.iload_n 0, 1) := by decide +kernel
theorem dJ9_min_7cf53_6 : decode cJ9_min_7cf53 6 = .ok (.goto 4, 3) := by decide +kernel
theorem dJ9_min_7cf53_9 : decode cJ9_min_7cf53 9 = .ok (.iload_n 1, 1) := by decide +kernel
theorem dJ9_min_7cf53_10 : decode cJ9_min_7cf53 10 = .ok (.ireturn, 1) := by decide +kernel
theorem dJ0_length_8abf5_0 : decode cJ0_length_8abf5 0 = .ok (.aload_n 0, 1) := by decide +kernel
theorem dJ0_length_8abf5_1 : decode cJ0_length_8abf5 1 = .ok (.getfield 9, 3) := by decide +kernel
theorem dJ0_length_8abf5_4 : decode cJ0_length_8abf5 4 = .ok (.arraylength, 1) := by decide +kernel
theorem dJ0_length_8abf5_5 : decode cJ0_length_8abf5 5 = .ok (.aload_n 0, 1) := by decide +kernel
theorem dJ0_length_8abf5_6 : decode cJ0_length_8abf5 6 = .ok (.invokevirtual 335, 3) := by decide +kernel
theorem dJ0_length_8abf5_9 : decode cJ0_length_8abf5 9 = .ok (.ishr, 1) := by decide +kernel
theorem dJ0_length_8abf5_10 : decode cJ0_length_8abf5 10 = .ok (.ireturn, 1) := by decide +kernel
theorem dJ0_charAt_5068e_0 : decode cJ0_charAt_5068e 0 = .ok (.aload_n 0, 1) := by decide +kernel
theorem dJ0_charAt_5068e_1 : decode cJ0_charAt_5068e 1 = .ok (.invokevirtual 492, 3) := by decide +kernel
theorem dJ0_charAt_5068e_4 : decode cJ0_charAt_5068e 4 = .ok (.ifCond .eq 12, 3) := by decide +kernel
theorem dJ0_charAt_5068e_7 : decode cJ0_charAt_5068e 7 = .ok (.aload_n 0, 1) := by decide +kernel
theorem dJ0_charAt_5068e_8 : decode cJ0_charAt_5068e 8 = .ok (.getfield 9, 3) := by decide +kernel
theorem dJ0_charAt_5068e_11 : decode cJ0_charAt_5068e 11 = .ok (.iload_n 1, 1) := by decide +kernel
theorem dJ0_charAt_5068e_12 : decode cJ0_charAt_5068e 12 = .ok (.invokestatic 495, 3) := by decide +kernel
theorem dJ0_charAt_5068e_15 : decode cJ0_charAt_5068e 15 = .ok (.ireturn, 1) := by decide +kernel
theorem dJ0_charAt_5068e_16 : decode cJ0_charAt_5068e 16 = .ok (.aload_n 0, 1) := by decide +kernel
theorem dJ0_charAt_5068e_17 : decode cJ0_charAt_5068e 17 = .ok (.getfield 9, 3) := by decide +kernel
theorem dJ0_charAt_5068e_20 : decode cJ0_charAt_5068e 20 = .ok (.iload_n 1, 1) := by decide +kernel
theorem dJ0_charAt_5068e_21 : decode cJ0_charAt_5068e 21 = .ok (.invokestatic 498, 3) := by decide +kernel
theorem dJ0_charAt_5068e_24 : decode cJ0_charAt_5068e 24 = .ok (.ireturn, 1) := by decide +kernel
theorem dJ0_coder_7d493_0 : decode cJ0_coder_7d493 0 = .ok (.getstatic 38, 3) := by decide +kernel
theorem dJ0_coder_7d493_3 : decode cJ0_coder_7d493 3 = .ok (.ifCond .eq 10, 3) := by decide +kernel
theorem dJ0_coder_7d493_6 : decode cJ0_coder_7d493 6 = .ok (.aload_n 0, 1) := by decide +kernel
theorem dJ0_coder_7d493_7 : decode cJ0_coder_7d493 7 = .ok (.getfield 15, 3) := by decide +kernel
theorem dJ0_coder_7d493_10 : decode cJ0_coder_7d493 10 = .ok (.goto 4, 3) := by decide +kernel
theorem dJ0_coder_7d493_13 : decode cJ0_coder_7d493 13 = .ok (.iconst 1, 1) := by decide +kernel
theorem dJ0_coder_7d493_14 : decode cJ0_coder_7d493 14 = .ok (.ireturn, 1) := by decide +kernel
theorem dJ0_isLatin1_aae02_0 : decode cJ0_isLatin1_aae02 0 = .ok (.getstatic 38, 3) := by decide +kernel
theorem dJ0_isLatin1_aae02_3 : decode cJ0_isLatin1_aae02 3 = .ok (.ifCond .eq 14, 3) := by decide +kernel
theorem dJ0_isLatin1_aae02_6 : decode cJ0_isLatin1_aae02 6 = .ok (.aload_n 0, 1) := by decide +kernel
theorem dJ0_isLatin1_aae02_7 : decode cJ0_isLatin1_aae02 7 = .ok (.getfield 15, 3) := by decide +kernel
theorem dJ0_isLatin1_aae02_10 : decode cJ0_isLatin1_aae02 10 = .ok (.ifCond .ne 7, 3) := by decide +kernel
theorem dJ0_isLatin1_aae02_13 : decode cJ0_isLatin1_aae02 13 = .ok (.iconst 1, 1) := by decide +kernel
theorem dJ0_isLatin1_aae02_14 : decode cJ0_isLatin1_aae02 14 = .ok (.goto 4, 3) := by decide +kernel
theorem dJ0_isLatin1_aae02_17 : decode cJ0_isLatin1_aae02 17 = .ok (.iconst 0, 1) := by decide +kernel
theorem dJ0_isLatin1_aae02_18 : decode cJ0_isLatin1_aae02 18 = .ok (.ireturn, 1) := by decide +kernel
theorem dJ0_checkIndex_df160_0 : decode cJ0_checkIndex_df160 0 = .ok (.iload_n 0, 1) := by decide +kernel
theorem dJ0_checkIndex_df160_1 : decode cJ0_checkIndex_df160 1 = .ok (.iload_n 1, 1) := by decide +kernel
theorem dJ0_checkIndex_df160_2 : decode cJ0_checkIndex_df160 2 = .ok (.getstatic 1053, 3) := by decide +kernel
theorem dJ0_checkIndex_df160_5 : decode cJ0_checkIndex_df160 5 = .ok (.invokestatic 1059, 3) := by decide +kernel
theorem dJ0_checkIndex_df160_8 : decode cJ0_checkIndex_df160 8 = .ok (.pop, 1) := by decide +kernel
theorem dJ0_checkIndex_df160_9 : decode cJ0_checkIndex_df160 9 = .ok (.return_, 1) := by decide +kernel
theorem dJ1_charAt_3b067_0 : decode cJ1_charAt_3b067 0 = .ok (.iload_n 1, 1) := by decide +kernel
theorem dJ1_charAt_3b067_1 : decode cJ1_charAt_3b067 1 = .ok (.aload_n 0, 1) := by decide +kernel
theorem dJ1_charAt_3b067_2 : decode cJ1_charAt_3b067 2 = .ok (.arraylength, 1) := by decide +kernel
theorem dJ1_charAt_3b067_3 : decode cJ1_charAt_3b067 3 = .ok (.invokestatic 9, 3) := by decide +kernel
theorem dJ1_charAt_3b067_6 : decode cJ1_charAt_3b067 6 = .ok (.aload_n 0, 1) := by decide +kernel
theorem dJ1_charAt_3b067_7 : decode cJ1_charAt_3b067 7 = .ok (.iload_n 1, 1) := by decide +kernel
theorem dJ1_charAt_3b067_8 : decode cJ1_charAt_3b067 8 = .ok (.baload, 1) := by decide +kernel
theorem dJ1_charAt_3b067_9 : decode cJ1_charAt_3b067 9 = .ok (.sipush 255, 3) := by decide +kernel
theorem dJ1_charAt_3b067_12 : decode cJ1_charAt_3b067 12 = .ok (.iand, 1) := by decide +kernel
theorem dJ1_charAt_3b067_13 : decode cJ1_charAt_3b067 13 = .ok (.i2c, 1) := by decide +kernel
theorem dJ1_charAt_3b067_14 : decode cJ1_charAt_3b067 14 = .ok (.ireturn, 1) := by decide +kernel
theorem dJ2_getChar_3b067_0 : decode cJ2_getChar_3b067 0 = .ok (.getstatic 44, 3) := by decide +kernel
theorem dJ2_getChar_3b067_3 : decode cJ2_getChar_3b067 3 = .ok (.ifCond .ne 25, 3) := by decide +kernel
theorem dJ2_getChar_3b067_6 : decode cJ2_getChar_3b067 6 = .ok (.iload_n 1, 1) := by decide +kernel
theorem dJ2_getChar_3b067_7 : decode cJ2_getChar_3b067 7 = .ok (.ifCond .lt 11, 3) := by decide +kernel
theorem dJ2_getChar_3b067_10 : decode cJ2_getChar_3b067 10 = .ok (.iload_n 1, 1) := by decide +kernel
theorem dJ2_getChar_3b067_11 : decode cJ2_getChar_3b067 11 = .ok (.aload_n 0, 1) := by decide +kernel
theorem dJ2_getChar_3b067_12 : decode cJ2_getChar_3b067 12 = .ok (.invokestatic 48, 3) := by decide +kernel
theorem dJ2_getChar_3b067_15 : decode cJ2_getChar_3b067 15 = .ok (.if_icmp .lt 13, 3) := by decide +kernel
theorem dJ2_getChar_3b067_18 : decode cJ2_getChar_3b067 18 = .ok (.new 52, 3) := by decide +kernel
theorem dJ2_getChar_3b067_21 : decode cJ2_getChar_3b067 21 = .ok (.dup, 1) := by decide +kernel
theorem dJ2_getChar_3b067_22 : decode cJ2_getChar_3b067 22 = .ok (.ldc 54, 2) := by decide +kernel
theorem dJ2_getChar_3b067_24 : decode cJ2_getChar_3b067 24 = .ok (.invokespecial 56, 3) := by decide +kernel
theorem dJ2_getChar_3b067_27 : decode cJ2_getChar_3b067 27 = .ok (.athrow, 1) := by decide +kernel
theorem dJ2_getChar_3b067_28 : decode cJ2_getChar_3b067 28 = .ok (.iload_n 1, 1) := by decide +kernel
theorem dJ2_getChar_3b067_29 : decode cJ2_getChar_3b067 29 = .ok (.iconst 1, 1) := by decide +kernel
theorem dJ2_getChar_3b067_30 : decode cJ2_getChar_3b067 30 = .ok (.ishl, 1) := by decide +kernel
theorem dJ2_getChar_3b067_31 : decode cJ2_getChar_3b067 31 = .ok (.istore_n 1, 1) := by decide +kernel
theorem dJ2_getChar_3b067_32 : decode cJ2_getChar_3b067 32 = .ok (.aload_n 0, 1) := by decide +kernel
theorem dJ2_getChar_3b067_33 : decode cJ2_getChar_3b067 33 = .ok (.iload_n 1, 1) := by decide +kernel
theorem dJ2_getChar_3b067_34 : decode cJ2_getChar_3b067 34 = .ok (.iinc 1 1, 3) := by decide +kernel
theorem dJ2_getChar_3b067_37 : decode cJ2_getChar_3b067 37 = .ok (.baload, 1) := by decide +kernel
theorem dJ2_getChar_3b067_38 : decode cJ2_getChar_3b067 38 = .ok (.sipush 255, 3) := by decide +kernel
theorem dJ2_getChar_3b067_41 : decode cJ2_getChar_3b067 41 = .ok (.iand, 1) := by decide +kernel
theorem dJ2_getChar_3b067_42 : decode cJ2_getChar_3b067 42 = .ok (.getstatic 59, 3) := by decide +kernel
theorem dJ2_getChar_3b067_45 : decode cJ2_getChar_3b067 45 = .ok (.ishl, 1) := by decide +kernel
theorem dJ2_getChar_3b067_46 : decode cJ2_getChar_3b067 46 = .ok (.aload_n 0, 1) := by decide +kernel
theorem dJ2_getChar_3b067_47 : decode cJ2_getChar_3b067 47 = .ok (.iload_n 1, 1) := by decide +kernel
theorem dJ2_getChar_3b067_48 : decode cJ2_getChar_3b067 48 = .ok (.baload, 1) := by decide +kernel
theorem dJ2_getChar_3b067_49 : decode cJ2_getChar_3b067 49 = .ok (.sipush 255, 3) := by decide +kernel
theorem dJ2_getChar_3b067_52 : decode cJ2_getChar_3b067 52 = .ok (.iand, 1) := by decide +kernel
theorem dJ2_getChar_3b067_53 : decode cJ2_getChar_3b067 53 = .ok (.getstatic 63, 3) := by decide +kernel
theorem dJ2_getChar_3b067_56 : decode cJ2_getChar_3b067 56 = .ok (.ishl, 1) := by decide +kernel
theorem dJ2_getChar_3b067_57 : decode cJ2_getChar_3b067 57 = .ok (.ior, 1) := by decide +kernel
theorem dJ2_getChar_3b067_58 : decode cJ2_getChar_3b067 58 = .ok (.i2c, 1) := by decide +kernel
theorem dJ2_getChar_3b067_59 : decode cJ2_getChar_3b067 59 = .ok (.ireturn, 1) := by decide +kernel
theorem dJ2_length_9d52b_0 : decode cJ2_length_9d52b 0 = .ok (.aload_n 0, 1) := by decide +kernel
theorem dJ2_length_9d52b_1 : decode cJ2_length_9d52b 1 = .ok (.arraylength, 1) := by decide +kernel
theorem dJ2_length_9d52b_2 : decode cJ2_length_9d52b 2 = .ok (.iconst 1, 1) := by decide +kernel
theorem dJ2_length_9d52b_3 : decode cJ2_length_9d52b 3 = .ok (.ishr, 1) := by decide +kernel
theorem dJ2_length_9d52b_4 : decode cJ2_length_9d52b 4 = .ok (.ireturn, 1) := by decide +kernel
theorem dJ2_charAt_3b067_0 : decode cJ2_charAt_3b067 0 = .ok (.iload_n 1, 1) := by decide +kernel
theorem dJ2_charAt_3b067_1 : decode cJ2_charAt_3b067 1 = .ok (.aload_n 0, 1) := by decide +kernel
theorem dJ2_charAt_3b067_2 : decode cJ2_charAt_3b067 2 = .ok (.invokestatic 67, 3) := by decide +kernel
theorem dJ2_charAt_3b067_5 : decode cJ2_charAt_3b067 5 = .ok (.aload_n 0, 1) := by decide +kernel
theorem dJ2_charAt_3b067_6 : decode cJ2_charAt_3b067 6 = .ok (.iload_n 1, 1) := by decide +kernel
theorem dJ2_charAt_3b067_7 : decode cJ2_charAt_3b067 7 = .ok (.invokestatic 71, 3) := by decide +kernel
theorem dJ2_charAt_3b067_10 : decode cJ2_charAt_3b067 10 = .ok (.ireturn, 1) := by decide +kernel
theorem dJ2_checkIndex_2214a_0 : decode cJ2_checkIndex_2214a 0 = .ok (.iload_n 0, 1) := by decide +kernel
theorem dJ2_checkIndex_2214a_1 : decode cJ2_checkIndex_2214a 1 = .ok (.aload_n 1, 1) := by decide +kernel
theorem dJ2_checkIndex_2214a_2 : decode cJ2_checkIndex_2214a 2 = .ok (.invokestatic 48, 3) := by decide +kernel
theorem dJ2_checkIndex_2214a_5 : decode cJ2_checkIndex_2214a 5 = .ok (.invokestatic 414, 3) := by decide +kernel
theorem dJ2_checkIndex_2214a_8 : decode cJ2_checkIndex_2214a 8 = .ok (.return_, 1) := by decide +kernel
theorem dJ7_fill_53178_0 : decode cJ7_fill_53178 0 = .ok (.iconst 0, 1) := by decide +kernel
theorem dJ7_fill_53178_1 : decode cJ7_fill_53178 1 = .ok (.istore_n 2, 1) := by decide +kernel
theorem dJ7_fill_53178_2 : decode cJ7_fill_53178 2 = .ok (.aload_n 0, 1) := by decide +kernel
theorem dJ7_fill_53178_3 : decode cJ7_fill_53178 3 = .ok (.arraylength, 1) := by decide +kernel
theorem dJ7_fill_53178_4 : decode cJ7_fill_53178 4 = .ok (.istore_n 3, 1) := by decide +kernel
theorem dJ7_fill_53178_5 : decode cJ7_fill_53178 5 = .ok (.iload_n 2, 1) := by decide +kernel
theorem dJ7_fill_53178_6 : decode cJ7_fill_53178 6 = .ok (.iload_n 3, 1) := by decide +kernel
theorem dJ7_fill_53178_7 : decode cJ7_fill_53178 7 = .ok (.if_icmp .ge 13, 3) := by decide +kernel
theorem dJ7_fill_53178_10 : decode cJ7_fill_53178 10 = .ok (.aload_n 0, 1) := by decide +kernel
theorem dJ7_fill_53178_11 : decode cJ7_fill_53178 11 = .ok (.iload_n 2, 1) := by decide +kernel
theorem dJ7_fill_53178_12 : decode cJ7_fill_53178 12 = .ok (.iload_n 1, 1) := by decide +kernel
theorem dJ7_fill_53178_13 : decode cJ7_fill_53178 13 = .ok (.iastore, 1) := by decide +kernel
theorem dJ7_fill_53178_14 : decode cJ7_fill_53178 14 = .ok (.iinc 2 1, 3) := by decide +kernel
theorem dJ7_fill_53178_17 : decode cJ7_fill_53178 17 = .ok (.goto (-12), 3) := by decide +kernel
theorem dJ7_fill_53178_20 : decode cJ7_fill_53178 20 = .ok (.return_, 1) := by decide +kernel
theorem dJ3_checkIndex_8e157_0 : decode cJ3_checkIndex_8e157 0 = .ok (.iload_n 0, 1) := by decide +kernel
theorem dJ3_checkIndex_8e157_1 : decode cJ3_checkIndex_8e157 1 = .ok (.ifCond .lt 8, 3) := by decide +kernel
theorem dJ3_checkIndex_8e157_4 : decode cJ3_checkIndex_8e157 4 = .ok (.iload_n 0, 1) := by decide +kernel
theorem dJ3_checkIndex_8e157_5 : decode cJ3_checkIndex_8e157 5 = .ok (.iload_n 1, 1) := by decide +kernel
theorem dJ3_checkIndex_8e157_6 : decode cJ3_checkIndex_8e157 6 = .ok (.if_icmp .lt 10, 3) := by decide +kernel
theorem dJ3_checkIndex_8e157_9 : decode cJ3_checkIndex_8e157 9 = .ok (.aload_n 2, 1) := by decide +kernel
theorem dJ3_checkIndex_8e157_10 : decode cJ3_checkIndex_8e157 10 = .ok (.iload_n 0, 1) := by decide +kernel
theorem dJ3_checkIndex_8e157_11 : decode cJ3_checkIndex_8e157 11 = .ok (.iload_n 1, 1) := by decide +kernel
theorem dJ3_checkIndex_8e157_12 : decode cJ3_checkIndex_8e157 12 = .ok (.invokestatic 95, 3) := by decide +kernel
theorem dJ3_checkIndex_8e157_15 : decode cJ3_checkIndex_8e157 15 = .ok (.athrow, 1) := by decide +kernel
theorem dJ3_checkIndex_8e157_16 : decode cJ3_checkIndex_8e157 16 = .ok (.iload_n 0, 1) := by decide +kernel
theorem dJ3_checkIndex_8e157_17 : decode cJ3_checkIndex_8e157 17 = .ok (.ireturn, 1) := by decide +kernel
