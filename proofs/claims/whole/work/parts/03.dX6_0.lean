theorem dX6_init_0 : decode cX6_init 0 = .ok (.aload_n 0, 1) := by decide +kernel
theorem dX6_init_1 : decode cX6_init 1 = .ok (.invokespecial 1, 3) := by decide +kernel
theorem dX6_init_4 : decode cX6_init 4 = .ok (.aload_n 0, 1) := by decide +kernel
theorem dX6_init_5 : decode cX6_init 5 = .ok (.bipush 35, 2) := by decide +kernel
theorem dX6_init_7 : decode cX6_init 7 = .ok (.newarray .int, 2) := by decide +kernel
theorem dX6_init_9 : decode cX6_init 9 = .ok (.putfield 7, 3) := by decide +kernel
theorem dX6_init_12 : decode cX6_init 12 = .ok (.aload_n 0, 1) := by decide +kernel
theorem dX6_init_13 : decode cX6_init 13 = .ok (.bipush 70, 2) := by decide +kernel
theorem dX6_init_15 : decode cX6_init 15 = .ok (.newarray .int, 2) := by decide +kernel
theorem dX6_init_17 : decode cX6_init 17 = .ok (.putfield 13, 3) := by decide +kernel
theorem dX6_init_20 : decode cX6_init 20 = .ok (.aload_n 0, 1) := by decide +kernel
theorem dX6_init_21 : decode cX6_init 21 = .ok (.iconst 2, 1) := by decide +kernel
theorem dX6_init_22 : decode cX6_init 22 = .ok (.newarray .boolean, 2) := by decide +kernel
theorem dX6_init_24 : decode cX6_init 24 = .ok (.putfield 16, 3) := by decide +kernel
theorem dX6_init_27 : decode cX6_init 27 = .ok (.aload_n 0, 1) := by decide +kernel
theorem dX6_init_28 : decode cX6_init 28 = .ok (.bipush 35, 2) := by decide +kernel
theorem dX6_init_30 : decode cX6_init 30 = .ok (.newarray .int, 2) := by decide +kernel
theorem dX6_init_32 : decode cX6_init 32 = .ok (.putfield 20, 3) := by decide +kernel
theorem dX6_init_35 : decode cX6_init 35 = .ok (.aload_n 0, 1) := by decide +kernel
theorem dX6_init_36 : decode cX6_init 36 = .ok (.sipush 160, 3) := by decide +kernel
theorem dX6_init_39 : decode cX6_init 39 = .ok (.newarray .int, 2) := by decide +kernel
theorem dX6_init_41 : decode cX6_init 41 = .ok (.putfield 23, 3) := by decide +kernel
theorem dX6_init_44 : decode cX6_init 44 = .ok (.aload_n 0, 1) := by decide +kernel
theorem dX6_init_45 : decode cX6_init 45 = .ok (.sipush 504, 3) := by decide +kernel
theorem dX6_init_48 : decode cX6_init 48 = .ok (.newarray .int, 2) := by decide +kernel
theorem dX6_init_50 : decode cX6_init 50 = .ok (.putfield 26, 3) := by decide +kernel
theorem dX6_init_53 : decode cX6_init 53 = .ok (.aload_n 0, 1) := by decide +kernel
theorem dX6_init_54 : decode cX6_init 54 = .ok (.iconst 5, 1) := by decide +kernel
theorem dX6_init_55 : decode cX6_init 55 = .ok (.newarray .int, 2) := by decide +kernel
theorem dX6_init_57 : decode cX6_init 57 = .ok (.putfield 29, 3) := by decide +kernel
theorem dX6_init_60 : decode cX6_init 60 = .ok (.aload_n 0, 1) := by decide +kernel
theorem dX6_init_61 : decode cX6_init 61 = .ok (.iconst 5, 1) := by decide +kernel
theorem dX6_init_62 : decode cX6_init 62 = .ok (.newarray .int, 2) := by decide +kernel
theorem dX6_init_64 : decode cX6_init 64 = .ok (.putfield 32, 3) := by decide +kernel
theorem dX6_init_67 : decode cX6_init 67 = .ok (.aload_n 0, 1) := by decide +kernel
theorem dX6_init_68 : decode cX6_init 68 = .ok (.iconst 5, 1) := by decide +kernel
theorem dX6_init_69 : decode cX6_init 69 = .ok (.newarray .int, 2) := by decide +kernel
theorem dX6_init_71 : decode cX6_init 71 = .ok (.putfield 35, 3) := by decide +kernel
theorem dX6_init_74 : decode cX6_init 74 = .ok (.aload_n 0, 1) := by decide +kernel
theorem dX6_init_75 : decode cX6_init 75 = .ok (.iconst 4, 1) := by decide +kernel
theorem dX6_init_76 : decode cX6_init 76 = .ok (.newarray .int, 2) := by decide +kernel
theorem dX6_init_78 : decode cX6_init 78 = .ok (.putfield 38, 3) := by decide +kernel
theorem dX6_init_81 : decode cX6_init 81 = .ok (.aload_n 0, 1) := by decide +kernel
theorem dX6_init_82 : decode cX6_init 82 = .ok (.bipush 35, 2) := by decide +kernel
theorem dX6_init_84 : decode cX6_init 84 = .ok (.newarray .int, 2) := by decide +kernel
theorem dX6_init_86 : decode cX6_init 86 = .ok (.putfield 41, 3) := by decide +kernel
theorem dX6_init_89 : decode cX6_init 89 = .ok (.aload_n 0, 1) := by decide +kernel
theorem dX6_init_90 : decode cX6_init 90 = .ok (.bipush 45, 2) := by decide +kernel
theorem dX6_init_92 : decode cX6_init 92 = .ok (.newarray .int, 2) := by decide +kernel
theorem dX6_init_94 : decode cX6_init 94 = .ok (.putfield 44, 3) := by decide +kernel
theorem dX6_init_97 : decode cX6_init 97 = .ok (.aload_n 0, 1) := by decide +kernel
theorem dX6_init_98 : decode cX6_init 98 = .ok (.bipush 45, 2) := by decide +kernel
theorem dX6_init_100 : decode cX6_init 100 = .ok (.newarray .int, 2) := by decide +kernel
theorem dX6_init_102 : decode cX6_init 102 = .ok (.putfield 47, 3) := by decide +kernel
theorem dX6_init_105 : decode cX6_init 105 = .ok (.aload_n 0, 1) := by decide +kernel
theorem dX6_init_106 : decode cX6_init 106 = .ok (.iconst 4, 1) := by decide +kernel
theorem dX6_init_107 : decode cX6_init 107 = .ok (.newarray .int, 2) := by decide +kernel
theorem dX6_init_109 : decode cX6_init 109 = .ok (.putfield 50, 3) := by decide +kernel
theorem dX6_init_112 : decode cX6_init 112 = .ok (.aload_n 0, 1) := by decide +kernel
theorem dX6_init_113 : decode cX6_init 113 = .ok (.iconst 4, 1) := by decide +kernel
theorem dX6_init_114 : decode cX6_init 114 = .ok (.newarray .int, 2) := by decide +kernel
theorem dX6_init_116 : decode cX6_init 116 = .ok (.putfield 53, 3) := by decide +kernel
theorem dX6_init_119 : decode cX6_init 119 = .ok (.aload_n 0, 1) := by decide +kernel
theorem dX6_init_120 : decode cX6_init 120 = .ok (.sipush 160, 3) := by decide +kernel
theorem dX6_init_123 : decode cX6_init 123 = .ok (.newarray .int, 2) := by decide +kernel
theorem dX6_init_125 : decode cX6_init 125 = .ok (.putfield 56, 3) := by decide +kernel
theorem dX6_init_128 : decode cX6_init 128 = .ok (.aload_n 0, 1) := by decide +kernel
theorem dX6_init_129 : decode cX6_init 129 = .ok (.bipush 35, 2) := by decide +kernel
theorem dX6_init_131 : decode cX6_init 131 = .ok (.newarray .int, 2) := by decide +kernel
theorem dX6_init_133 : decode cX6_init 133 = .ok (.putfield 59, 3) := by decide +kernel
theorem dX6_init_136 : decode cX6_init 136 = .ok (.iconst 0, 1) := by decide +kernel
theorem dX6_init_137 : decode cX6_init 137 = .ok (.istore_n 1, 1) := by decide +kernel
theorem dX6_init_138 : decode cX6_init 138 = .ok (.iload_n 1, 1) := by decide +kernel
theorem dX6_init_139 : decode cX6_init 139 = .ok (.iconst 4, 1) := by decide +kernel
theorem dX6_init_140 : decode cX6_init 140 = .ok (.if_icmp .ge 17, 3) := by decide +kernel
theorem dX6_init_143 : decode cX6_init 143 = .ok (.aload_n 0, 1) := by decide +kernel
theorem dX6_init_144 : decode cX6_init 144 = .ok (.getfield 50, 3) := by decide +kernel
theorem dX6_init_147 : decode cX6_init 147 = .ok (.iload_n 1, 1) := by decide +kernel
theorem dX6_init_148 : decode cX6_init 148 = .ok (.bipush (-4), 2) := by decide +kernel
theorem dX6_init_150 : decode cX6_init 150 = .ok (.iastore, 1) := by decide +kernel
theorem dX6_init_151 : decode cX6_init 151 = .ok (.iinc 1 1, 3) := by decide +kernel
theorem dX6_init_154 : decode cX6_init 154 = .ok (.goto (-16), 3) := by decide +kernel
theorem dX6_init_157 : decode cX6_init 157 = .ok (.aload_n 0, 1) := by decide +kernel
theorem dX6_init_158 : decode cX6_init 158 = .ok (.getfield 7, 3) := by decide +kernel
theorem dX6_init_161 : decode cX6_init 161 = .ok (.iconst 0, 1) := by decide +kernel
theorem dX6_init_162 : decode cX6_init 162 = .ok (.bipush 7, 2) := by decide +kernel
theorem dX6_init_164 : decode cX6_init 164 = .ok (.iastore, 1) := by decide +kernel
theorem dX6_init_165 : decode cX6_init 165 = .ok (.return_, 1) := by decide +kernel
theorem dX6_in_0 : decode cX6_in 0 = .ok (.lload_n 0, 1) := by decide +kernel
theorem dX6_in_1 : decode cX6_in 1 = .ok (.lload_n 2, 1) := by decide +kernel
theorem dX6_in_2 : decode cX6_in 2 = .ok (.lcmp, 1) := by decide +kernel
theorem dX6_in_3 : decode cX6_in 3 = .ok (.ifCond .lt 14, 3) := by decide +kernel
theorem dX6_in_6 : decode cX6_in 6 = .ok (.lload_n 0, 1) := by decide +kernel
theorem dX6_in_7 : decode cX6_in 7 = .ok (.lload 4, 2) := by decide +kernel
theorem dX6_in_9 : decode cX6_in 9 = .ok (.lcmp, 1) := by decide +kernel
theorem dX6_in_10 : decode cX6_in 10 = .ok (.ifCond .gt 7, 3) := by decide +kernel
theorem dX6_in_13 : decode cX6_in 13 = .ok (.iconst 1, 1) := by decide +kernel
theorem dX6_in_14 : decode cX6_in 14 = .ok (.goto 4, 3) := by decide +kernel
theorem dX6_in_17 : decode cX6_in 17 = .ok (.iconst 0, 1) := by decide +kernel
theorem dX6_in_18 : decode cX6_in 18 = .ok (.ireturn, 1) := by decide +kernel
theorem dX6_flag_0 : decode cX6_flag 0 = .ok (.iload_n 0, 1) := by decide +kernel
theorem dX6_flag_1 : decode cX6_flag 1 = .ok (.ifCond .eq 7, 3) := by decide +kernel
theorem dX6_flag_4 : decode cX6_flag 4 = .ok (.iconst 1, 1) := by decide +kernel
theorem dX6_flag_5 : decode cX6_flag 5 = .ok (.goto 4, 3) := by decide +kernel
theorem dX6_flag_8 : decode cX6_flag 8 = .ok (.iconst 0, 1) := by decide +kernel
theorem dX6_flag_9 : decode cX6_flag 9 = .ok (.ireturn, 1) := by decide +kernel
theorem dX6_feed_0 : decode cX6_feed 0 = .ok (.iload_n 1, 1) := by decide +kernel
theorem dX6_feed_1 : decode cX6_feed 1 = .ok (.i2l, 1) := by decide +kernel
theorem dX6_feed_2 : decode cX6_feed 2 = .ok (.lconst 0, 1) := by decide +kernel
theorem dX6_feed_3 : decode cX6_feed 3 = .ok (.ldc2_w 62, 3) := by decide +kernel
theorem dX6_feed_6 : decode cX6_feed 6 = .ok (.invokestatic 64, 3) := by decide +kernel
theorem dX6_feed_9 : decode cX6_feed 9 = .ok (.ifCond .ne 5, 3) := by decide +kernel
theorem dX6_feed_12 : decode cX6_feed 12 = .ok (.iconst (-1), 1) := by decide +kernel
theorem dX6_feed_13 : decode cX6_feed 13 = .ok (.ireturn, 1) := by decide +kernel
theorem dX6_feed_14 : decode cX6_feed 14 = .ok (.aload_n 0, 1) := by decide +kernel
theorem dX6_feed_15 : decode cX6_feed 15 = .ok (.getfield 68, 3) := by decide +kernel
theorem dX6_feed_18 : decode cX6_feed 18 = .ok (.sipush 160, 3) := by decide +kernel
theorem dX6_feed_21 : decode cX6_feed 21 = .ok (.if_icmp .ne 6, 3) := by decide +kernel
theorem dX6_feed_24 : decode cX6_feed 24 = .ok (.bipush (-3), 2) := by decide +kernel
theorem dX6_feed_26 : decode cX6_feed 26 = .ok (.ireturn, 1) := by decide +kernel
theorem dX6_feed_27 : decode cX6_feed 27 = .ok (.aload_n 0, 1) := by decide +kernel
theorem dX6_feed_28 : decode cX6_feed 28 = .ok (.getfield 23, 3) := by decide +kernel
theorem dX6_feed_31 : decode cX6_feed 31 = .ok (.aload_n 0, 1) := by decide +kernel
theorem dX6_feed_32 : decode cX6_feed 32 = .ok (.getfield 68, 3) := by decide +kernel
theorem dX6_feed_35 : decode cX6_feed 35 = .ok (.iload_n 1, 1) := by decide +kernel
theorem dX6_feed_36 : decode cX6_feed 36 = .ok (.iastore, 1) := by decide +kernel
theorem dX6_feed_37 : decode cX6_feed 37 = .ok (.aload_n 0, 1) := by decide +kernel
theorem dX6_feed_38 : decode cX6_feed 38 = .ok (.dup, 1) := by decide +kernel
theorem dX6_feed_39 : decode cX6_feed 39 = .ok (.getfield 68, 3) := by decide +kernel
theorem dX6_feed_42 : decode cX6_feed 42 = .ok (.iconst 1, 1) := by decide +kernel
theorem dX6_feed_43 : decode cX6_feed 43 = .ok (.iadd, 1) := by decide +kernel
theorem dX6_feed_44 : decode cX6_feed 44 = .ok (.putfield 68, 3) := by decide +kernel
theorem dX6_feed_47 : decode cX6_feed 47 = .ok (.aload_n 0, 1) := by decide +kernel
theorem dX6_feed_48 : decode cX6_feed 48 = .ok (.getfield 68, 3) := by decide +kernel
theorem dX6_feed_51 : decode cX6_feed 51 = .ok (.ireturn, 1) := by decide +kernel
theorem dX6_end_0 : decode cX6_end 0 = .ok (.iload_n 1, 1) := by decide +kernel
theorem dX6_end_1 : decode cX6_end 1 = .ok (.i2l, 1) := by decide +kernel
theorem dX6_end_2 : decode cX6_end 2 = .ok (.lconst 0, 1) := by decide +kernel
theorem dX6_end_3 : decode cX6_end 3 = .ok (.aload_n 0, 1) := by decide +kernel
theorem dX6_end_4 : decode cX6_end 4 = .ok (.getfield 68, 3) := by decide +kernel
theorem dX6_end_7 : decode cX6_end 7 = .ok (.i2l, 1) := by decide +kernel
theorem dX6_end_8 : decode cX6_end 8 = .ok (.invokestatic 64, 3) := by decide +kernel
theorem dX6_end_11 : decode cX6_end 11 = .ok (.ifCond .ne 5, 3) := by decide +kernel
theorem dX6_end_14 : decode cX6_end 14 = .ok (.iconst (-1), 1) := by decide +kernel
theorem dX6_end_15 : decode cX6_end 15 = .ok (.ireturn, 1) := by decide +kernel
theorem dX6_end_16 : decode cX6_end 16 = .ok (.aload_n 0, 1) := by decide +kernel
theorem dX6_end_17 : decode cX6_end 17 = .ok (.getfield 68, 3) := by decide +kernel
theorem dX6_end_20 : decode cX6_end 20 = .ok (.istore_n 2, 1) := by decide +kernel
theorem dX6_end_21 : decode cX6_end 21 = .ok (.aload_n 0, 1) := by decide +kernel
theorem dX6_end_22 : decode cX6_end 22 = .ok (.iload_n 1, 1) := by decide +kernel
theorem dX6_end_23 : decode cX6_end 23 = .ok (.putfield 68, 3) := by decide +kernel
theorem dX6_end_26 : decode cX6_end 26 = .ok (.iload_n 2, 1) := by decide +kernel
theorem dX6_end_27 : decode cX6_end 27 = .ok (.ireturn, 1) := by decide +kernel
theorem dX6_requires_0 : decode cX6_requires 0 = .ok (.iload_n 1, 1) := by decide +kernel
theorem dX6_requires_1 : decode cX6_requires 1 = .ok (.ifCond .ne 23, 3) := by decide +kernel
theorem dX6_requires_4 : decode cX6_requires 4 = .ok (.aload_n 0, 1) := by decide +kernel
theorem dX6_requires_5 : decode cX6_requires 5 = .ok (.getfield 72, 3) := by decide +kernel
theorem dX6_requires_8 : decode cX6_requires 8 = .ok (.ifCond .ne 16, 3) := by decide +kernel
theorem dX6_requires_11 : decode cX6_requires 11 = .ok (.aload_n 0, 1) := by decide +kernel
theorem dX6_requires_12 : decode cX6_requires 12 = .ok (.iload_n 2, 1) := by decide +kernel
theorem dX6_requires_13 : decode cX6_requires 13 = .ok (.putfield 72, 3) := by decide +kernel
theorem dX6_requires_16 : decode cX6_requires 16 = .ok (.aload_n 0, 1) := by decide +kernel
theorem dX6_requires_17 : decode cX6_requires 17 = .ok (.aload_n 0, 1) := by decide +kernel
theorem dX6_requires_18 : decode cX6_requires 18 = .ok (.getfield 75, 3) := by decide +kernel
theorem dX6_requires_21 : decode cX6_requires 21 = .ok (.putfield 78, 3) := by decide +kernel
theorem dX6_requires_24 : decode cX6_requires 24 = .ok (.return_, 1) := by decide +kernel
theorem dX6_byteAt_0 : decode cX6_byteAt 0 = .ok (.iload_n 1, 1) := by decide +kernel
theorem dX6_byteAt_1 : decode cX6_byteAt 1 = .ok (.aload_n 0, 1) := by decide +kernel
theorem dX6_byteAt_2 : decode cX6_byteAt 2 = .ok (.getfield 68, 3) := by decide +kernel
theorem dX6_byteAt_5 : decode cX6_byteAt 5 = .ok (.if_icmp .ge 12, 3) := by decide +kernel
theorem dX6_byteAt_8 : decode cX6_byteAt 8 = .ok (.aload_n 0, 1) := by decide +kernel
theorem dX6_byteAt_9 : decode cX6_byteAt 9 = .ok (.getfield 23, 3) := by decide +kernel
theorem dX6_byteAt_12 : decode cX6_byteAt 12 = .ok (.iload_n 1, 1) := by decide +kernel
theorem dX6_byteAt_13 : decode cX6_byteAt 13 = .ok (.iaload, 1) := by decide +kernel
theorem dX6_byteAt_14 : decode cX6_byteAt 14 = .ok (.goto 4, 3) := by decide +kernel
theorem dX6_byteAt_17 : decode cX6_byteAt 17 = .ok (.iconst (-1), 1) := by decide +kernel
theorem dX6_byteAt_18 : decode cX6_byteAt 18 = .ok (.ireturn, 1) := by decide +kernel
theorem dX6_is_0 : decode cX6_is 0 = .ok (.aload_n 0, 1) := by decide +kernel
theorem dX6_is_1 : decode cX6_is 1 = .ok (.getfield 81, 3) := by decide +kernel
theorem dX6_is_4 : decode cX6_is 4 = .ok (.aload_n 0, 1) := by decide +kernel
theorem dX6_is_5 : decode cX6_is 5 = .ok (.getfield 75, 3) := by decide +kernel
theorem dX6_is_8 : decode cX6_is 8 = .ok (.isub, 1) := by decide +kernel
theorem dX6_is_9 : decode cX6_is 9 = .ok (.iload_n 1, 1) := by decide +kernel
theorem dX6_is_10 : decode cX6_is 10 = .ok (.if_icmp .ne 53, 3) := by decide +kernel
theorem dX6_is_13 : decode cX6_is 13 = .ok (.aload_n 0, 1) := by decide +kernel
theorem dX6_is_14 : decode cX6_is 14 = .ok (.aload_n 0, 1) := by decide +kernel
theorem dX6_is_15 : decode cX6_is 15 = .ok (.getfield 75, 3) := by decide +kernel
theorem dX6_is_18 : decode cX6_is 18 = .ok (.invokevirtual 84, 3) := by decide +kernel
theorem dX6_is_21 : decode cX6_is 21 = .ok (.iload_n 2, 1) := by decide +kernel
theorem dX6_is_22 : decode cX6_is 22 = .ok (.if_icmp .ne 41, 3) := by decide +kernel
theorem dX6_is_25 : decode cX6_is 25 = .ok (.aload_n 0, 1) := by decide +kernel
theorem dX6_is_26 : decode cX6_is 26 = .ok (.aload_n 0, 1) := by decide +kernel
theorem dX6_is_27 : decode cX6_is 27 = .ok (.getfield 75, 3) := by decide +kernel
theorem dX6_is_30 : decode cX6_is 30 = .ok (.iconst 1, 1) := by decide +kernel
theorem dX6_is_31 : decode cX6_is 31 = .ok (.iadd, 1) := by decide +kernel
theorem dX6_is_32 : decode cX6_is 32 = .ok (.invokevirtual 84, 3) := by decide +kernel
theorem dX6_is_35 : decode cX6_is 35 = .ok (.iload_n 3, 1) := by decide +kernel
theorem dX6_is_36 : decode cX6_is 36 = .ok (.if_icmp .ne 27, 3) := by decide +kernel
theorem dX6_is_39 : decode cX6_is 39 = .ok (.iload_n 1, 1) := by decide +kernel
theorem dX6_is_40 : decode cX6_is 40 = .ok (.iconst 2, 1) := by decide +kernel
theorem dX6_is_41 : decode cX6_is 41 = .ok (.if_icmp .eq 18, 3) := by decide +kernel
theorem dX6_is_44 : decode cX6_is 44 = .ok (.aload_n 0, 1) := by decide +kernel
theorem dX6_is_45 : decode cX6_is 45 = .ok (.aload_n 0, 1) := by decide +kernel
theorem dX6_is_46 : decode cX6_is 46 = .ok (.getfield 75, 3) := by decide +kernel
theorem dX6_is_49 : decode cX6_is 49 = .ok (.iconst 2, 1) := by decide +kernel
theorem dX6_is_50 : decode cX6_is 50 = .ok (.iadd, 1) := by decide +kernel
theorem dX6_is_51 : decode cX6_is 51 = .ok (.invokevirtual 84, 3) := by decide +kernel
theorem dX6_is_54 : decode cX6_is 54 = .ok (.iload 4, 2) := by decide +kernel
theorem dX6_is_56 : decode cX6_is 56 = .ok (.if_icmp .ne 7, 3) := by decide +kernel
theorem dX6_is_59 : decode cX6_is 59 = .ok (.iconst 1, 1) := by decide +kernel
theorem dX6_is_60 : decode cX6_is 60 = .ok (.goto 4, 3) := by decide +kernel
theorem dX6_is_63 : decode cX6_is 63 = .ok (.iconst 0, 1) := by decide +kernel
theorem dX6_is_64 : decode cX6_is 64 = .ok (.ireturn, 1) := by decide +kernel
theorem dX6_lineNow_0 : decode cX6_lineNow 0 = .ok (.aload_n 0, 1) := by decide +kernel
theorem dX6_lineNow_1 : decode cX6_lineNow 1 = .ok (.iconst 5, 1) := by decide +kernel
theorem dX6_lineNow_2 : decode cX6_lineNow 2 = .ok (.bipush 112, 2) := by decide +kernel
theorem dX6_lineNow_4 : decode cX6_lineNow 4 = .ok (.bipush 114, 2) := by decide +kernel
theorem dX6_lineNow_6 : decode cX6_lineNow 6 = .ok (.bipush 105, 2) := by decide +kernel
theorem dX6_lineNow_8 : decode cX6_lineNow 8 = .ok (.invokevirtual 88, 3) := by decide +kernel
theorem dX6_lineNow_11 : decode cX6_lineNow 11 = .ok (.ifCond .eq 35, 3) := by decide +kernel
theorem dX6_lineNow_14 : decode cX6_lineNow 14 = .ok (.aload_n 0, 1) := by decide +kernel
theorem dX6_lineNow_15 : decode cX6_lineNow 15 = .ok (.aload_n 0, 1) := by decide +kernel
theorem dX6_lineNow_16 : decode cX6_lineNow 16 = .ok (.getfield 75, 3) := by decide +kernel
theorem dX6_lineNow_19 : decode cX6_lineNow 19 = .ok (.iconst 3, 1) := by decide +kernel
theorem dX6_lineNow_20 : decode cX6_lineNow 20 = .ok (.iadd, 1) := by decide +kernel
theorem dX6_lineNow_21 : decode cX6_lineNow 21 = .ok (.invokevirtual 84, 3) := by decide +kernel
theorem dX6_lineNow_24 : decode cX6_lineNow 24 = .ok (.bipush 109, 2) := by decide +kernel
theorem dX6_lineNow_26 : decode cX6_lineNow 26 = .ok (.if_icmp .ne 20, 3) := by decide +kernel
theorem dX6_lineNow_29 : decode cX6_lineNow 29 = .ok (.aload_n 0, 1) := by decide +kernel
theorem dX6_lineNow_30 : decode cX6_lineNow 30 = .ok (.aload_n 0, 1) := by decide +kernel
theorem dX6_lineNow_31 : decode cX6_lineNow 31 = .ok (.getfield 75, 3) := by decide +kernel
theorem dX6_lineNow_34 : decode cX6_lineNow 34 = .ok (.iconst 4, 1) := by decide +kernel
theorem dX6_lineNow_35 : decode cX6_lineNow 35 = .ok (.iadd, 1) := by decide +kernel
theorem dX6_lineNow_36 : decode cX6_lineNow 36 = .ok (.invokevirtual 84, 3) := by decide +kernel
theorem dX6_lineNow_39 : decode cX6_lineNow 39 = .ok (.bipush 101, 2) := by decide +kernel
theorem dX6_lineNow_41 : decode cX6_lineNow 41 = .ok (.if_icmp .ne 5, 3) := by decide +kernel
theorem dX6_lineNow_44 : decode cX6_lineNow 44 = .ok (.iconst 0, 1) := by decide +kernel
theorem dX6_lineNow_45 : decode cX6_lineNow 45 = .ok (.ireturn, 1) := by decide +kernel
theorem dX6_lineNow_46 : decode cX6_lineNow 46 = .ok (.aload_n 0, 1) := by decide +kernel
theorem dX6_lineNow_47 : decode cX6_lineNow 47 = .ok (.iconst 3, 1) := by decide +kernel
theorem dX6_lineNow_48 : decode cX6_lineNow 48 = .ok (.bipush 99, 2) := by decide +kernel
theorem dX6_lineNow_50 : decode cX6_lineNow 50 = .ok (.bipush 111, 2) := by decide +kernel
theorem dX6_lineNow_52 : decode cX6_lineNow 52 = .ok (.bipush 108, 2) := by decide +kernel
theorem dX6_lineNow_54 : decode cX6_lineNow 54 = .ok (.invokevirtual 88, 3) := by decide +kernel
theorem dX6_lineNow_57 : decode cX6_lineNow 57 = .ok (.ifCond .eq 5, 3) := by decide +kernel
theorem dX6_lineNow_60 : decode cX6_lineNow 60 = .ok (.iconst 1, 1) := by decide +kernel
theorem dX6_lineNow_61 : decode cX6_lineNow 61 = .ok (.ireturn, 1) := by decide +kernel
theorem dX6_lineNow_62 : decode cX6_lineNow 62 = .ok (.aload_n 0, 1) := by decide +kernel
theorem dX6_lineNow_63 : decode cX6_lineNow 63 = .ok (.iconst 3, 1) := by decide +kernel
theorem dX6_lineNow_64 : decode cX6_lineNow 64 = .ok (.bipush 114, 2) := by decide +kernel
theorem dX6_lineNow_66 : decode cX6_lineNow 66 = .ok (.bipush 111, 2) := by decide +kernel
theorem dX6_lineNow_68 : decode cX6_lineNow 68 = .ok (.bipush 119, 2) := by decide +kernel
theorem dX6_lineNow_70 : decode cX6_lineNow 70 = .ok (.invokevirtual 88, 3) := by decide +kernel
theorem dX6_lineNow_73 : decode cX6_lineNow 73 = .ok (.ifCond .eq 5, 3) := by decide +kernel
theorem dX6_lineNow_76 : decode cX6_lineNow 76 = .ok (.iconst 2, 1) := by decide +kernel
theorem dX6_lineNow_77 : decode cX6_lineNow 77 = .ok (.ireturn, 1) := by decide +kernel
theorem dX6_lineNow_78 : decode cX6_lineNow 78 = .ok (.aload_n 0, 1) := by decide +kernel
theorem dX6_lineNow_79 : decode cX6_lineNow 79 = .ok (.iconst 3, 1) := by decide +kernel
theorem dX6_lineNow_80 : decode cX6_lineNow 80 = .ok (.bipush 105, 2) := by decide +kernel
theorem dX6_lineNow_82 : decode cX6_lineNow 82 = .ok (.bipush 110, 2) := by decide +kernel
theorem dX6_lineNow_84 : decode cX6_lineNow 84 = .ok (.bipush 102, 2) := by decide +kernel
theorem dX6_lineNow_86 : decode cX6_lineNow 86 = .ok (.invokevirtual 88, 3) := by decide +kernel
theorem dX6_lineNow_89 : decode cX6_lineNow 89 = .ok (.ifCond .eq 7, 3) := by decide +kernel
theorem dX6_lineNow_92 : decode cX6_lineNow 92 = .ok (.iconst 3, 1) := by decide +kernel
theorem dX6_lineNow_93 : decode cX6_lineNow 93 = .ok (.goto 22, 3) := by decide +kernel
theorem dX6_lineNow_96 : decode cX6_lineNow 96 = .ok (.aload_n 0, 1) := by decide +kernel
theorem dX6_lineNow_97 : decode cX6_lineNow 97 = .ok (.iconst 2, 1) := by decide +kernel
theorem dX6_lineNow_98 : decode cX6_lineNow 98 = .ok (.bipush 97, 2) := by decide +kernel
theorem dX6_lineNow_100 : decode cX6_lineNow 100 = .ok (.bipush 116, 2) := by decide +kernel
theorem dX6_lineNow_102 : decode cX6_lineNow 102 = .ok (.iconst 0, 1) := by decide +kernel
theorem dX6_lineNow_103 : decode cX6_lineNow 103 = .ok (.invokevirtual 88, 3) := by decide +kernel
theorem dX6_lineNow_106 : decode cX6_lineNow 106 = .ok (.ifCond .eq 7, 3) := by decide +kernel
theorem dX6_lineNow_109 : decode cX6_lineNow 109 = .ok (.iconst 4, 1) := by decide +kernel
theorem dX6_lineNow_110 : decode cX6_lineNow 110 = .ok (.goto 5, 3) := by decide +kernel
theorem dX6_lineNow_113 : decode cX6_lineNow 113 = .ok (.bipush (-4), 2) := by decide +kernel
theorem dX6_lineNow_115 : decode cX6_lineNow 115 = .ok (.ireturn, 1) := by decide +kernel
theorem dX6_reads_0 : decode cX6_reads 0 = .ok (.aload_n 0, 1) := by decide +kernel
theorem dX6_reads_1 : decode cX6_reads 1 = .ok (.getfield 72, 3) := by decide +kernel
theorem dX6_reads_4 : decode cX6_reads 4 = .ok (.ifCond .le 4, 3) := by decide +kernel
theorem dX6_reads_7 : decode cX6_reads 7 = .ok (.return_, 1) := by decide +kernel
theorem dX6_reads_8 : decode cX6_reads 8 = .ok (.aload_n 0, 1) := by decide +kernel
theorem dX6_reads_9 : decode cX6_reads 9 = .ok (.aload_n 0, 1) := by decide +kernel
theorem dX6_reads_10 : decode cX6_reads 10 = .ok (.getfield 81, 3) := by decide +kernel
theorem dX6_reads_13 : decode cX6_reads 13 = .ok (.invokevirtual 84, 3) := by decide +kernel
theorem dX6_reads_16 : decode cX6_reads 16 = .ok (.bipush 32, 2) := by decide +kernel
theorem dX6_reads_18 : decode cX6_reads 18 = .ok (.if_icmp .ne 16, 3) := by decide +kernel
theorem dX6_reads_21 : decode cX6_reads 21 = .ok (.aload_n 0, 1) := by decide +kernel
theorem dX6_reads_22 : decode cX6_reads 22 = .ok (.dup, 1) := by decide +kernel
theorem dX6_reads_23 : decode cX6_reads 23 = .ok (.getfield 81, 3) := by decide +kernel
theorem dX6_reads_26 : decode cX6_reads 26 = .ok (.iconst 1, 1) := by decide +kernel
theorem dX6_reads_27 : decode cX6_reads 27 = .ok (.iadd, 1) := by decide +kernel
theorem dX6_reads_28 : decode cX6_reads 28 = .ok (.putfield 81, 3) := by decide +kernel
theorem dX6_reads_31 : decode cX6_reads 31 = .ok (.goto (-23), 3) := by decide +kernel
theorem dX6_reads_34 : decode cX6_reads 34 = .ok (.aload_n 0, 1) := by decide +kernel
theorem dX6_reads_35 : decode cX6_reads 35 = .ok (.aload_n 0, 1) := by decide +kernel
theorem dX6_reads_36 : decode cX6_reads 36 = .ok (.getfield 81, 3) := by decide +kernel
theorem dX6_reads_39 : decode cX6_reads 39 = .ok (.putfield 75, 3) := by decide +kernel
theorem dX6_reads_42 : decode cX6_reads 42 = .ok (.aload_n 0, 1) := by decide +kernel
theorem dX6_reads_43 : decode cX6_reads 43 = .ok (.aload_n 0, 1) := by decide +kernel
theorem dX6_reads_44 : decode cX6_reads 44 = .ok (.getfield 81, 3) := by decide +kernel
theorem dX6_reads_47 : decode cX6_reads 47 = .ok (.invokevirtual 84, 3) := by decide +kernel
theorem dX6_reads_50 : decode cX6_reads 50 = .ok (.istore_n 1, 1) := by decide +kernel
theorem dX6_reads_51 : decode cX6_reads 51 = .ok (.iload_n 1, 1) := by decide +kernel
theorem dX6_reads_52 : decode cX6_reads 52 = .ok (.ifCond .ge 11, 3) := by decide +kernel
theorem dX6_reads_55 : decode cX6_reads 55 = .ok (.aload_n 0, 1) := by decide +kernel
theorem dX6_reads_56 : decode cX6_reads 56 = .ok (.iconst 0, 1) := by decide +kernel
theorem dX6_reads_57 : decode cX6_reads 57 = .ok (.putfield 92, 3) := by decide +kernel
theorem dX6_reads_60 : decode cX6_reads 60 = .ok (.goto 214, 3) := by decide +kernel
theorem dX6_reads_63 : decode cX6_reads 63 = .ok (.iload_n 1, 1) := by decide +kernel
theorem dX6_reads_64 : decode cX6_reads 64 = .ok (.i2l, 1) := by decide +kernel
theorem dX6_reads_65 : decode cX6_reads 65 = .ok (.ldc2_w 95, 3) := by decide +kernel
theorem dX6_reads_68 : decode cX6_reads 68 = .ok (.ldc2_w 97, 3) := by decide +kernel
theorem dX6_reads_71 : decode cX6_reads 71 = .ok (.invokestatic 64, 3) := by decide +kernel
theorem dX6_reads_74 : decode cX6_reads 74 = .ok (.ifCond .eq 42, 3) := by decide +kernel
theorem dX6_reads_77 : decode cX6_reads 77 = .ok (.aload_n 0, 1) := by decide +kernel
theorem dX6_reads_78 : decode cX6_reads 78 = .ok (.iconst 1, 1) := by decide +kernel
theorem dX6_reads_79 : decode cX6_reads 79 = .ok (.putfield 92, 3) := by decide +kernel
theorem dX6_reads_82 : decode cX6_reads 82 = .ok (.aload_n 0, 1) := by decide +kernel
theorem dX6_reads_83 : decode cX6_reads 83 = .ok (.aload_n 0, 1) := by decide +kernel
theorem dX6_reads_84 : decode cX6_reads 84 = .ok (.getfield 81, 3) := by decide +kernel
theorem dX6_reads_87 : decode cX6_reads 87 = .ok (.invokevirtual 84, 3) := by decide +kernel
theorem dX6_reads_90 : decode cX6_reads 90 = .ok (.i2l, 1) := by decide +kernel
theorem dX6_reads_91 : decode cX6_reads 91 = .ok (.ldc2_w 95, 3) := by decide +kernel
theorem dX6_reads_94 : decode cX6_reads 94 = .ok (.ldc2_w 97, 3) := by decide +kernel
theorem dX6_reads_97 : decode cX6_reads 97 = .ok (.invokestatic 64, 3) := by decide +kernel
theorem dX6_reads_100 : decode cX6_reads 100 = .ok (.ifCond .eq 174, 3) := by decide +kernel
theorem dX6_reads_103 : decode cX6_reads 103 = .ok (.aload_n 0, 1) := by decide +kernel
theorem dX6_reads_104 : decode cX6_reads 104 = .ok (.dup, 1) := by decide +kernel
theorem dX6_reads_105 : decode cX6_reads 105 = .ok (.getfield 81, 3) := by decide +kernel
theorem dX6_reads_108 : decode cX6_reads 108 = .ok (.iconst 1, 1) := by decide +kernel
theorem dX6_reads_109 : decode cX6_reads 109 = .ok (.iadd, 1) := by decide +kernel
theorem dX6_reads_110 : decode cX6_reads 110 = .ok (.putfield 81, 3) := by decide +kernel
theorem dX6_reads_113 : decode cX6_reads 113 = .ok (.goto (-31), 3) := by decide +kernel
theorem dX6_reads_116 : decode cX6_reads 116 = .ok (.iload_n 1, 1) := by decide +kernel
theorem dX6_reads_117 : decode cX6_reads 117 = .ok (.i2l, 1) := by decide +kernel
theorem dX6_reads_118 : decode cX6_reads 118 = .ok (.ldc2_w 99, 3) := by decide +kernel
theorem dX6_reads_121 : decode cX6_reads 121 = .ok (.ldc2_w 101, 3) := by decide +kernel
theorem dX6_reads_124 : decode cX6_reads 124 = .ok (.invokestatic 64, 3) := by decide +kernel
theorem dX6_reads_127 : decode cX6_reads 127 = .ok (.ifCond .eq 116, 3) := by decide +kernel
theorem dX6_reads_130 : decode cX6_reads 130 = .ok (.aload_n 0, 1) := by decide +kernel
theorem dX6_reads_131 : decode cX6_reads 131 = .ok (.iconst 2, 1) := by decide +kernel
theorem dX6_reads_132 : decode cX6_reads 132 = .ok (.putfield 92, 3) := by decide +kernel
theorem dX6_reads_135 : decode cX6_reads 135 = .ok (.aload_n 0, 1) := by decide +kernel
theorem dX6_reads_136 : decode cX6_reads 136 = .ok (.iconst 0, 1) := by decide +kernel
theorem dX6_reads_137 : decode cX6_reads 137 = .ok (.putfield 103, 3) := by decide +kernel
theorem dX6_reads_140 : decode cX6_reads 140 = .ok (.aload_n 0, 1) := by decide +kernel
theorem dX6_reads_141 : decode cX6_reads 141 = .ok (.aload_n 0, 1) := by decide +kernel
theorem dX6_reads_142 : decode cX6_reads 142 = .ok (.getfield 81, 3) := by decide +kernel
theorem dX6_reads_145 : decode cX6_reads 145 = .ok (.invokevirtual 84, 3) := by decide +kernel
theorem dX6_reads_148 : decode cX6_reads 148 = .ok (.i2l, 1) := by decide +kernel
theorem dX6_reads_149 : decode cX6_reads 149 = .ok (.ldc2_w 99, 3) := by decide +kernel
theorem dX6_reads_152 : decode cX6_reads 152 = .ok (.ldc2_w 101, 3) := by decide +kernel
theorem dX6_reads_155 : decode cX6_reads 155 = .ok (.invokestatic 64, 3) := by decide +kernel
theorem dX6_reads_158 : decode cX6_reads 158 = .ok (.ifCond .eq 59, 3) := by decide +kernel
theorem dX6_reads_161 : decode cX6_reads 161 = .ok (.aload_n 0, 1) := by decide +kernel
theorem dX6_reads_162 : decode cX6_reads 162 = .ok (.aload_n 0, 1) := by decide +kernel
theorem dX6_reads_163 : decode cX6_reads 163 = .ok (.getfield 81, 3) := by decide +kernel
theorem dX6_reads_166 : decode cX6_reads 166 = .ok (.aload_n 0, 1) := by decide +kernel
theorem dX6_reads_167 : decode cX6_reads 167 = .ok (.getfield 75, 3) := by decide +kernel
theorem dX6_reads_170 : decode cX6_reads 170 = .ok (.isub, 1) := by decide +kernel
theorem dX6_reads_171 : decode cX6_reads 171 = .ok (.iconst 2, 1) := by decide +kernel
theorem dX6_reads_172 : decode cX6_reads 172 = .ok (.if_icmp .ge 25, 3) := by decide +kernel
theorem dX6_reads_175 : decode cX6_reads 175 = .ok (.bipush 10, 2) := by decide +kernel
theorem dX6_reads_177 : decode cX6_reads 177 = .ok (.aload_n 0, 1) := by decide +kernel
theorem dX6_reads_178 : decode cX6_reads 178 = .ok (.getfield 103, 3) := by decide +kernel
theorem dX6_reads_181 : decode cX6_reads 181 = .ok (.imul, 1) := by decide +kernel
theorem dX6_reads_182 : decode cX6_reads 182 = .ok (.aload_n 0, 1) := by decide +kernel
theorem dX6_reads_183 : decode cX6_reads 183 = .ok (.aload_n 0, 1) := by decide +kernel
theorem dX6_reads_184 : decode cX6_reads 184 = .ok (.getfield 81, 3) := by decide +kernel
theorem dX6_reads_187 : decode cX6_reads 187 = .ok (.invokevirtual 84, 3) := by decide +kernel
theorem dX6_reads_190 : decode cX6_reads 190 = .ok (.iadd, 1) := by decide +kernel
theorem dX6_reads_191 : decode cX6_reads 191 = .ok (.bipush 48, 2) := by decide +kernel
theorem dX6_reads_193 : decode cX6_reads 193 = .ok (.isub, 1) := by decide +kernel
theorem dX6_reads_194 : decode cX6_reads 194 = .ok (.goto 7, 3) := by decide +kernel
theorem dX6_reads_197 : decode cX6_reads 197 = .ok (.aload_n 0, 1) := by decide +kernel
theorem dX6_reads_198 : decode cX6_reads 198 = .ok (.getfield 103, 3) := by decide +kernel
theorem dX6_reads_201 : decode cX6_reads 201 = .ok (.putfield 103, 3) := by decide +kernel
theorem dX6_reads_204 : decode cX6_reads 204 = .ok (.aload_n 0, 1) := by decide +kernel
theorem dX6_reads_205 : decode cX6_reads 205 = .ok (.dup, 1) := by decide +kernel
theorem dX6_reads_206 : decode cX6_reads 206 = .ok (.getfield 81, 3) := by decide +kernel
theorem dX6_reads_209 : decode cX6_reads 209 = .ok (.iconst 1, 1) := by decide +kernel
theorem dX6_reads_210 : decode cX6_reads 210 = .ok (.iadd, 1) := by decide +kernel
theorem dX6_reads_211 : decode cX6_reads 211 = .ok (.putfield 81, 3) := by decide +kernel
theorem dX6_reads_214 : decode cX6_reads 214 = .ok (.goto (-74), 3) := by decide +kernel
theorem dX6_reads_217 : decode cX6_reads 217 = .ok (.aload_n 0, 1) := by decide +kernel
theorem dX6_reads_218 : decode cX6_reads 218 = .ok (.aload_n 0, 1) := by decide +kernel
theorem dX6_reads_219 : decode cX6_reads 219 = .ok (.getfield 81, 3) := by decide +kernel
theorem dX6_reads_222 : decode cX6_reads 222 = .ok (.aload_n 0, 1) := by decide +kernel
theorem dX6_reads_223 : decode cX6_reads 223 = .ok (.getfield 75, 3) := by decide +kernel
theorem dX6_reads_226 : decode cX6_reads 226 = .ok (.isub, 1) := by decide +kernel
theorem dX6_reads_227 : decode cX6_reads 227 = .ok (.iconst 2, 1) := by decide +kernel
theorem dX6_reads_228 : decode cX6_reads 228 = .ok (.if_icmp .gt 7, 3) := by decide +kernel
theorem dX6_reads_231 : decode cX6_reads 231 = .ok (.iconst 1, 1) := by decide +kernel
theorem dX6_reads_232 : decode cX6_reads 232 = .ok (.goto 4, 3) := by decide +kernel
theorem dX6_reads_235 : decode cX6_reads 235 = .ok (.iconst 0, 1) := by decide +kernel
theorem dX6_reads_236 : decode cX6_reads 236 = .ok (.iconst 1, 1) := by decide +kernel
theorem dX6_reads_237 : decode cX6_reads 237 = .ok (.invokevirtual 106, 3) := by decide +kernel
theorem dX6_reads_240 : decode cX6_reads 240 = .ok (.goto 34, 3) := by decide +kernel
theorem dX6_reads_243 : decode cX6_reads 243 = .ok (.aload_n 0, 1) := by decide +kernel
theorem dX6_reads_244 : decode cX6_reads 244 = .ok (.iconst 3, 1) := by decide +kernel
theorem dX6_reads_245 : decode cX6_reads 245 = .ok (.putfield 92, 3) := by decide +kernel
theorem dX6_reads_248 : decode cX6_reads 248 = .ok (.aload_n 0, 1) := by decide +kernel
theorem dX6_reads_249 : decode cX6_reads 249 = .ok (.iload_n 1, 1) := by decide +kernel
theorem dX6_reads_250 : decode cX6_reads 250 = .ok (.bipush 59, 2) := by decide +kernel
theorem dX6_reads_252 : decode cX6_reads 252 = .ok (.if_icmp .ne 7, 3) := by decide +kernel
theorem dX6_reads_255 : decode cX6_reads 255 = .ok (.iconst 1, 1) := by decide +kernel
theorem dX6_reads_256 : decode cX6_reads 256 = .ok (.goto 4, 3) := by decide +kernel
theorem dX6_reads_259 : decode cX6_reads 259 = .ok (.iconst 0, 1) := by decide +kernel
theorem dX6_reads_260 : decode cX6_reads 260 = .ok (.iconst 1, 1) := by decide +kernel
theorem dX6_reads_261 : decode cX6_reads 261 = .ok (.invokevirtual 106, 3) := by decide +kernel
theorem dX6_reads_264 : decode cX6_reads 264 = .ok (.aload_n 0, 1) := by decide +kernel
theorem dX6_reads_265 : decode cX6_reads 265 = .ok (.dup, 1) := by decide +kernel
theorem dX6_reads_266 : decode cX6_reads 266 = .ok (.getfield 81, 3) := by decide +kernel
theorem dX6_reads_269 : decode cX6_reads 269 = .ok (.iconst 1, 1) := by decide +kernel
theorem dX6_reads_270 : decode cX6_reads 270 = .ok (.iadd, 1) := by decide +kernel
theorem dX6_reads_271 : decode cX6_reads 271 = .ok (.putfield 81, 3) := by decide +kernel
theorem dX6_reads_274 : decode cX6_reads 274 = .ok (.return_, 1) := by decide +kernel
theorem dX6_isPrime_0 : decode cX6_isPrime 0 = .ok (.iload_n 0, 1) := by decide +kernel
theorem dX6_isPrime_1 : decode cX6_isPrime 1 = .ok (.iconst 2, 1) := by decide +kernel
theorem dX6_isPrime_2 : decode cX6_isPrime 2 = .ok (.if_icmp .eq 19, 3) := by decide +kernel
theorem dX6_isPrime_5 : decode cX6_isPrime 5 = .ok (.iload_n 0, 1) := by decide +kernel
theorem dX6_isPrime_6 : decode cX6_isPrime 6 = .ok (.iconst 3, 1) := by decide +kernel
theorem dX6_isPrime_7 : decode cX6_isPrime 7 = .ok (.if_icmp .eq 14, 3) := by decide +kernel
theorem dX6_isPrime_10 : decode cX6_isPrime 10 = .ok (.iload_n 0, 1) := by decide +kernel
theorem dX6_isPrime_11 : decode cX6_isPrime 11 = .ok (.iconst 5, 1) := by decide +kernel
theorem dX6_isPrime_12 : decode cX6_isPrime 12 = .ok (.if_icmp .eq 9, 3) := by decide +kernel
theorem dX6_isPrime_15 : decode cX6_isPrime 15 = .ok (.iload_n 0, 1) := by decide +kernel
theorem dX6_isPrime_16 : decode cX6_isPrime 16 = .ok (.bipush 7, 2) := by decide +kernel
theorem dX6_isPrime_18 : decode cX6_isPrime 18 = .ok (.if_icmp .ne 7, 3) := by decide +kernel
theorem dX6_isPrime_21 : decode cX6_isPrime 21 = .ok (.iconst 1, 1) := by decide +kernel
theorem dX6_isPrime_22 : decode cX6_isPrime 22 = .ok (.goto 4, 3) := by decide +kernel
theorem dX6_isPrime_25 : decode cX6_isPrime 25 = .ok (.iconst 0, 1) := by decide +kernel
theorem dX6_isPrime_26 : decode cX6_isPrime 26 = .ok (.ireturn, 1) := by decide +kernel
theorem dX6_readNumber_0 : decode cX6_readNumber 0 = .ok (.aload_n 0, 1) := by decide +kernel
theorem dX6_readNumber_1 : decode cX6_readNumber 1 = .ok (.getfield 72, 3) := by decide +kernel
theorem dX6_readNumber_4 : decode cX6_readNumber 4 = .ok (.ifCond .ne 21, 3) := by decide +kernel
theorem dX6_readNumber_7 : decode cX6_readNumber 7 = .ok (.aload_n 0, 1) := by decide +kernel
theorem dX6_readNumber_8 : decode cX6_readNumber 8 = .ok (.aload_n 0, 1) := by decide +kernel
theorem dX6_readNumber_9 : decode cX6_readNumber 9 = .ok (.getfield 92, 3) := by decide +kernel
theorem dX6_readNumber_12 : decode cX6_readNumber 12 = .ok (.iconst 2, 1) := by decide +kernel
theorem dX6_readNumber_13 : decode cX6_readNumber 13 = .ok (.if_icmp .ne 7, 3) := by decide +kernel
theorem dX6_readNumber_16 : decode cX6_readNumber 16 = .ok (.iconst 1, 1) := by decide +kernel
theorem dX6_readNumber_17 : decode cX6_readNumber 17 = .ok (.goto 4, 3) := by decide +kernel
theorem dX6_readNumber_20 : decode cX6_readNumber 20 = .ok (.iconst 0, 1) := by decide +kernel
theorem dX6_readNumber_21 : decode cX6_readNumber 21 = .ok (.iconst 2, 1) := by decide +kernel
theorem dX6_readNumber_22 : decode cX6_readNumber 22 = .ok (.invokevirtual 106, 3) := by decide +kernel
theorem dX6_readNumber_25 : decode cX6_readNumber 25 = .ok (.aload_n 0, 1) := by decide +kernel
theorem dX6_readNumber_26 : decode cX6_readNumber 26 = .ok (.getfield 72, 3) := by decide +kernel
theorem dX6_readNumber_29 : decode cX6_readNumber 29 = .ok (.ifCond .ne 20, 3) := by decide +kernel
theorem dX6_readNumber_32 : decode cX6_readNumber 32 = .ok (.aload_n 0, 1) := by decide +kernel
theorem dX6_readNumber_33 : decode cX6_readNumber 33 = .ok (.aload_n 0, 1) := by decide +kernel
theorem dX6_readNumber_34 : decode cX6_readNumber 34 = .ok (.getfield 103, 3) := by decide +kernel
theorem dX6_readNumber_37 : decode cX6_readNumber 37 = .ok (.i2l, 1) := by decide +kernel
theorem dX6_readNumber_38 : decode cX6_readNumber 38 = .ok (.iload_n 1, 1) := by decide +kernel
theorem dX6_readNumber_39 : decode cX6_readNumber 39 = .ok (.i2l, 1) := by decide +kernel
theorem dX6_readNumber_40 : decode cX6_readNumber 40 = .ok (.iload_n 2, 1) := by decide +kernel
theorem dX6_readNumber_41 : decode cX6_readNumber 41 = .ok (.i2l, 1) := by decide +kernel
theorem dX6_readNumber_42 : decode cX6_readNumber 42 = .ok (.invokestatic 64, 3) := by decide +kernel
theorem dX6_readNumber_45 : decode cX6_readNumber 45 = .ok (.iconst 3, 1) := by decide +kernel
theorem dX6_readNumber_46 : decode cX6_readNumber 46 = .ok (.invokevirtual 106, 3) := by decide +kernel
theorem dX6_readNumber_49 : decode cX6_readNumber 49 = .ok (.aload_n 0, 1) := by decide +kernel
theorem dX6_readNumber_50 : decode cX6_readNumber 50 = .ok (.getfield 72, 3) := by decide +kernel
theorem dX6_readNumber_53 : decode cX6_readNumber 53 = .ok (.ifCond .ne 10, 3) := by decide +kernel
theorem dX6_readNumber_56 : decode cX6_readNumber 56 = .ok (.aload_n 0, 1) := by decide +kernel
theorem dX6_readNumber_57 : decode cX6_readNumber 57 = .ok (.getfield 103, 3) := by decide +kernel
theorem dX6_readNumber_60 : decode cX6_readNumber 60 = .ok (.goto 4, 3) := by decide +kernel
theorem dX6_readNumber_63 : decode cX6_readNumber 63 = .ok (.iconst 0, 1) := by decide +kernel
theorem dX6_readNumber_64 : decode cX6_readNumber 64 = .ok (.ireturn, 1) := by decide +kernel
theorem dX6_draws_0 : decode cX6_draws 0 = .ok (.aload_n 0, 1) := by decide +kernel
theorem dX6_draws_1 : decode cX6_draws 1 = .ok (.getfield 20, 3) := by decide +kernel
theorem dX6_draws_4 : decode cX6_draws 4 = .ok (.iconst 3, 1) := by decide +kernel
theorem dX6_draws_5 : decode cX6_draws 5 = .ok (.bipush 16, 2) := by decide +kernel
theorem dX6_draws_7 : decode cX6_draws 7 = .ok (.iload_n 1, 1) := by decide +kernel
theorem dX6_draws_8 : decode cX6_draws 8 = .ok (.imul, 1) := by decide +kernel
theorem dX6_draws_9 : decode cX6_draws 9 = .ok (.iadd, 1) := by decide +kernel
theorem dX6_draws_10 : decode cX6_draws 10 = .ok (.iconst 4, 1) := by decide +kernel
theorem dX6_draws_11 : decode cX6_draws 11 = .ok (.iload_n 2, 1) := by decide +kernel
theorem dX6_draws_12 : decode cX6_draws 12 = .ok (.imul, 1) := by decide +kernel
theorem dX6_draws_13 : decode cX6_draws 13 = .ok (.iadd, 1) := by decide +kernel
theorem dX6_draws_14 : decode cX6_draws 14 = .ok (.iload_n 3, 1) := by decide +kernel
theorem dX6_draws_15 : decode cX6_draws 15 = .ok (.iadd, 1) := by decide +kernel
theorem dX6_draws_16 : decode cX6_draws 16 = .ok (.iload 4, 2) := by decide +kernel
theorem dX6_draws_18 : decode cX6_draws 18 = .ok (.iastore, 1) := by decide +kernel
theorem dX6_draws_19 : decode cX6_draws 19 = .ok (.return_, 1) := by decide +kernel
theorem dX6_blockComes_0 : decode cX6_blockComes 0 = .ok (.aload_n 0, 1) := by decide +kernel
theorem dX6_blockComes_1 : decode cX6_blockComes 1 = .ok (.getfield 20, 3) := by decide +kernel
theorem dX6_blockComes_4 : decode cX6_blockComes 4 = .ok (.iconst 1, 1) := by decide +kernel
theorem dX6_blockComes_5 : decode cX6_blockComes 5 = .ok (.iaload, 1) := by decide +kernel
theorem dX6_blockComes_6 : decode cX6_blockComes 6 = .ok (.istore 4, 2) := by decide +kernel
theorem dX6_blockComes_8 : decode cX6_blockComes 8 = .ok (.aload_n 0, 1) := by decide +kernel
theorem dX6_blockComes_9 : decode cX6_blockComes 9 = .ok (.getfield 20, 3) := by decide +kernel
theorem dX6_blockComes_12 : decode cX6_blockComes 12 = .ok (.iconst 2, 1) := by decide +kernel
theorem dX6_blockComes_13 : decode cX6_blockComes 13 = .ok (.iaload, 1) := by decide +kernel
theorem dX6_blockComes_14 : decode cX6_blockComes 14 = .ok (.istore 5, 2) := by decide +kernel
theorem dX6_blockComes_16 : decode cX6_blockComes 16 = .ok (.iload_n 1, 1) := by decide +kernel
theorem dX6_blockComes_17 : decode cX6_blockComes 17 = .ok (.iconst 2, 1) := by decide +kernel
theorem dX6_blockComes_18 : decode cX6_blockComes 18 = .ok (.if_icmp .ne 9, 3) := by decide +kernel
theorem dX6_blockComes_21 : decode cX6_blockComes 21 = .ok (.iload_n 2, 1) := by decide +kernel
theorem dX6_blockComes_22 : decode cX6_blockComes 22 = .ok (.iconst 1, 1) := by decide +kernel
theorem dX6_blockComes_23 : decode cX6_blockComes 23 = .ok (.iadd, 1) := by decide +kernel
theorem dX6_blockComes_24 : decode cX6_blockComes 24 = .ok (.goto 4, 3) := by decide +kernel
theorem dX6_blockComes_27 : decode cX6_blockComes 27 = .ok (.iload_n 2, 1) := by decide +kernel
theorem dX6_blockComes_28 : decode cX6_blockComes 28 = .ok (.istore 6, 2) := by decide +kernel
theorem dX6_blockComes_30 : decode cX6_blockComes 30 = .ok (.iload_n 1, 1) := by decide +kernel
theorem dX6_blockComes_31 : decode cX6_blockComes 31 = .ok (.iconst 1, 1) := by decide +kernel
theorem dX6_blockComes_32 : decode cX6_blockComes 32 = .ok (.if_icmp .ne 9, 3) := by decide +kernel
theorem dX6_blockComes_35 : decode cX6_blockComes 35 = .ok (.iload_n 2, 1) := by decide +kernel
theorem dX6_blockComes_36 : decode cX6_blockComes 36 = .ok (.iconst 1, 1) := by decide +kernel
theorem dX6_blockComes_37 : decode cX6_blockComes 37 = .ok (.iadd, 1) := by decide +kernel
theorem dX6_blockComes_38 : decode cX6_blockComes 38 = .ok (.goto 4, 3) := by decide +kernel
theorem dX6_blockComes_41 : decode cX6_blockComes 41 = .ok (.iload_n 2, 1) := by decide +kernel
theorem dX6_blockComes_42 : decode cX6_blockComes 42 = .ok (.istore 7, 2) := by decide +kernel
theorem dX6_blockComes_44 : decode cX6_blockComes 44 = .ok (.aload_n 0, 1) := by decide +kernel
theorem dX6_blockComes_45 : decode cX6_blockComes 45 = .ok (.getfield 72, 3) := by decide +kernel
theorem dX6_blockComes_48 : decode cX6_blockComes 48 = .ok (.ifCond .ne 31, 3) := by decide +kernel
theorem dX6_blockComes_51 : decode cX6_blockComes 51 = .ok (.aload_n 0, 1) := by decide +kernel
theorem dX6_blockComes_52 : decode cX6_blockComes 52 = .ok (.iload 4, 2) := by decide +kernel
theorem dX6_blockComes_54 : decode cX6_blockComes 54 = .ok (.iload 6, 2) := by decide +kernel
theorem dX6_blockComes_56 : decode cX6_blockComes 56 = .ok (.iadd, 1) := by decide +kernel
theorem dX6_blockComes_57 : decode cX6_blockComes 57 = .ok (.iconst 4, 1) := by decide +kernel
theorem dX6_blockComes_58 : decode cX6_blockComes 58 = .ok (.if_icmp .gt 16, 3) := by decide +kernel
theorem dX6_blockComes_61 : decode cX6_blockComes 61 = .ok (.iload 5, 2) := by decide +kernel
theorem dX6_blockComes_63 : decode cX6_blockComes 63 = .ok (.iload 7, 2) := by decide +kernel
theorem dX6_blockComes_65 : decode cX6_blockComes 65 = .ok (.iadd, 1) := by decide +kernel
theorem dX6_blockComes_66 : decode cX6_blockComes 66 = .ok (.iconst 4, 1) := by decide +kernel
theorem dX6_blockComes_67 : decode cX6_blockComes 67 = .ok (.if_icmp .gt 7, 3) := by decide +kernel
theorem dX6_blockComes_70 : decode cX6_blockComes 70 = .ok (.iconst 1, 1) := by decide +kernel
theorem dX6_blockComes_71 : decode cX6_blockComes 71 = .ok (.goto 4, 3) := by decide +kernel
theorem dX6_blockComes_74 : decode cX6_blockComes 74 = .ok (.iconst 0, 1) := by decide +kernel
theorem dX6_blockComes_75 : decode cX6_blockComes 75 = .ok (.iconst 5, 1) := by decide +kernel
theorem dX6_blockComes_76 : decode cX6_blockComes 76 = .ok (.invokevirtual 106, 3) := by decide +kernel
theorem dX6_blockComes_79 : decode cX6_blockComes 79 = .ok (.aload_n 0, 1) := by decide +kernel
theorem dX6_blockComes_80 : decode cX6_blockComes 80 = .ok (.getfield 72, 3) := by decide +kernel
theorem dX6_blockComes_83 : decode cX6_blockComes 83 = .ok (.ifCond .le 4, 3) := by decide +kernel
theorem dX6_blockComes_86 : decode cX6_blockComes 86 = .ok (.return_, 1) := by decide +kernel
theorem dX6_blockComes_87 : decode cX6_blockComes 87 = .ok (.iconst 0, 1) := by decide +kernel
theorem dX6_blockComes_88 : decode cX6_blockComes 88 = .ok (.istore 8, 2) := by decide +kernel
theorem dX6_blockComes_90 : decode cX6_blockComes 90 = .ok (.iload 8, 2) := by decide +kernel
theorem dX6_blockComes_92 : decode cX6_blockComes 92 = .ok (.iload_n 2, 1) := by decide +kernel
theorem dX6_blockComes_93 : decode cX6_blockComes 93 = .ok (.if_icmp .ge 152, 3) := by decide +kernel
theorem dX6_blockComes_96 : decode cX6_blockComes 96 = .ok (.aload_n 0, 1) := by decide +kernel
theorem dX6_blockComes_97 : decode cX6_blockComes 97 = .ok (.iconst 0, 1) := by decide +kernel
theorem dX6_blockComes_98 : decode cX6_blockComes 98 = .ok (.iload 4, 2) := by decide +kernel
theorem dX6_blockComes_100 : decode cX6_blockComes 100 = .ok (.iload 8, 2) := by decide +kernel
theorem dX6_blockComes_102 : decode cX6_blockComes 102 = .ok (.iadd, 1) := by decide +kernel
theorem dX6_blockComes_103 : decode cX6_blockComes 103 = .ok (.iload 5, 2) := by decide +kernel
theorem dX6_blockComes_105 : decode cX6_blockComes 105 = .ok (.iload 8, 2) := by decide +kernel
theorem dX6_blockComes_107 : decode cX6_blockComes 107 = .ok (.iadd, 1) := by decide +kernel
theorem dX6_blockComes_108 : decode cX6_blockComes 108 = .ok (.iload_n 1, 1) := by decide +kernel
theorem dX6_blockComes_109 : decode cX6_blockComes 109 = .ok (.iconst 4, 1) := by decide +kernel
theorem dX6_blockComes_110 : decode cX6_blockComes 110 = .ok (.if_icmp .ne 7, 3) := by decide +kernel
theorem dX6_blockComes_113 : decode cX6_blockComes 113 = .ok (.iload_n 3, 1) := by decide +kernel
theorem dX6_blockComes_114 : decode cX6_blockComes 114 = .ok (.goto 4, 3) := by decide +kernel
theorem dX6_blockComes_117 : decode cX6_blockComes 117 = .ok (.iconst 1, 1) := by decide +kernel
theorem dX6_blockComes_118 : decode cX6_blockComes 118 = .ok (.invokevirtual 110, 3) := by decide +kernel
theorem dX6_blockComes_121 : decode cX6_blockComes 121 = .ok (.iload_n 1, 1) := by decide +kernel
theorem dX6_blockComes_122 : decode cX6_blockComes 122 = .ok (.iconst 1, 1) := by decide +kernel
theorem dX6_blockComes_123 : decode cX6_blockComes 123 = .ok (.if_icmp .ne 24, 3) := by decide +kernel
theorem dX6_blockComes_126 : decode cX6_blockComes 126 = .ok (.aload_n 0, 1) := by decide +kernel
theorem dX6_blockComes_127 : decode cX6_blockComes 127 = .ok (.iconst 1, 1) := by decide +kernel
theorem dX6_blockComes_128 : decode cX6_blockComes 128 = .ok (.iload 4, 2) := by decide +kernel
theorem dX6_blockComes_130 : decode cX6_blockComes 130 = .ok (.iload 8, 2) := by decide +kernel
theorem dX6_blockComes_132 : decode cX6_blockComes 132 = .ok (.iadd, 1) := by decide +kernel
theorem dX6_blockComes_133 : decode cX6_blockComes 133 = .ok (.iload 5, 2) := by decide +kernel
theorem dX6_blockComes_135 : decode cX6_blockComes 135 = .ok (.iload 8, 2) := by decide +kernel
theorem dX6_blockComes_137 : decode cX6_blockComes 137 = .ok (.iadd, 1) := by decide +kernel
theorem dX6_blockComes_138 : decode cX6_blockComes 138 = .ok (.iconst 1, 1) := by decide +kernel
theorem dX6_blockComes_139 : decode cX6_blockComes 139 = .ok (.iadd, 1) := by decide +kernel
theorem dX6_blockComes_140 : decode cX6_blockComes 140 = .ok (.iconst 1, 1) := by decide +kernel
theorem dX6_blockComes_141 : decode cX6_blockComes 141 = .ok (.invokevirtual 110, 3) := by decide +kernel
theorem dX6_blockComes_144 : decode cX6_blockComes 144 = .ok (.goto 50, 3) := by decide +kernel
theorem dX6_blockComes_147 : decode cX6_blockComes 147 = .ok (.iload_n 1, 1) := by decide +kernel
theorem dX6_blockComes_148 : decode cX6_blockComes 148 = .ok (.iconst 2, 1) := by decide +kernel
theorem dX6_blockComes_149 : decode cX6_blockComes 149 = .ok (.if_icmp .ne 24, 3) := by decide +kernel
theorem dX6_blockComes_152 : decode cX6_blockComes 152 = .ok (.aload_n 0, 1) := by decide +kernel
theorem dX6_blockComes_153 : decode cX6_blockComes 153 = .ok (.iconst 1, 1) := by decide +kernel
theorem dX6_blockComes_154 : decode cX6_blockComes 154 = .ok (.iload 4, 2) := by decide +kernel
theorem dX6_blockComes_156 : decode cX6_blockComes 156 = .ok (.iload 8, 2) := by decide +kernel
theorem dX6_blockComes_158 : decode cX6_blockComes 158 = .ok (.iadd, 1) := by decide +kernel
theorem dX6_blockComes_159 : decode cX6_blockComes 159 = .ok (.iconst 1, 1) := by decide +kernel
theorem dX6_blockComes_160 : decode cX6_blockComes 160 = .ok (.iadd, 1) := by decide +kernel
theorem dX6_blockComes_161 : decode cX6_blockComes 161 = .ok (.iload 5, 2) := by decide +kernel
theorem dX6_blockComes_163 : decode cX6_blockComes 163 = .ok (.iload 8, 2) := by decide +kernel
theorem dX6_blockComes_165 : decode cX6_blockComes 165 = .ok (.iadd, 1) := by decide +kernel
theorem dX6_blockComes_166 : decode cX6_blockComes 166 = .ok (.iconst 1, 1) := by decide +kernel
theorem dX6_blockComes_167 : decode cX6_blockComes 167 = .ok (.invokevirtual 110, 3) := by decide +kernel
theorem dX6_blockComes_170 : decode cX6_blockComes 170 = .ok (.goto 24, 3) := by decide +kernel
theorem dX6_blockComes_173 : decode cX6_blockComes 173 = .ok (.iload_n 1, 1) := by decide +kernel
theorem dX6_blockComes_174 : decode cX6_blockComes 174 = .ok (.iconst 4, 1) := by decide +kernel
theorem dX6_blockComes_175 : decode cX6_blockComes 175 = .ok (.if_icmp .ne 19, 3) := by decide +kernel
theorem dX6_blockComes_178 : decode cX6_blockComes 178 = .ok (.aload_n 0, 1) := by decide +kernel
theorem dX6_blockComes_179 : decode cX6_blockComes 179 = .ok (.iconst 1, 1) := by decide +kernel
theorem dX6_blockComes_180 : decode cX6_blockComes 180 = .ok (.iload 4, 2) := by decide +kernel
theorem dX6_blockComes_182 : decode cX6_blockComes 182 = .ok (.iload 8, 2) := by decide +kernel
theorem dX6_blockComes_184 : decode cX6_blockComes 184 = .ok (.iadd, 1) := by decide +kernel
theorem dX6_blockComes_185 : decode cX6_blockComes 185 = .ok (.iload 5, 2) := by decide +kernel
theorem dX6_blockComes_187 : decode cX6_blockComes 187 = .ok (.iload 8, 2) := by decide +kernel
theorem dX6_blockComes_189 : decode cX6_blockComes 189 = .ok (.iadd, 1) := by decide +kernel
theorem dX6_blockComes_190 : decode cX6_blockComes 190 = .ok (.iconst 1, 1) := by decide +kernel
theorem dX6_blockComes_191 : decode cX6_blockComes 191 = .ok (.invokevirtual 110, 3) := by decide +kernel
theorem dX6_blockComes_194 : decode cX6_blockComes 194 = .ok (.iload 8, 2) := by decide +kernel
theorem dX6_blockComes_196 : decode cX6_blockComes 196 = .ok (.iconst 1, 1) := by decide +kernel
theorem dX6_blockComes_197 : decode cX6_blockComes 197 = .ok (.iadd, 1) := by decide +kernel
theorem dX6_blockComes_198 : decode cX6_blockComes 198 = .ok (.iload_n 2, 1) := by decide +kernel
theorem dX6_blockComes_199 : decode cX6_blockComes 199 = .ok (.if_icmp .ge 40, 3) := by decide +kernel
theorem dX6_blockComes_202 : decode cX6_blockComes 202 = .ok (.iload_n 1, 1) := by decide +kernel
theorem dX6_blockComes_203 : decode cX6_blockComes 203 = .ok (.iconst 3, 1) := by decide +kernel
theorem dX6_blockComes_204 : decode cX6_blockComes 204 = .ok (.if_icmp .eq 8, 3) := by decide +kernel
theorem dX6_blockComes_207 : decode cX6_blockComes 207 = .ok (.iload_n 1, 1) := by decide +kernel
theorem dX6_blockComes_208 : decode cX6_blockComes 208 = .ok (.iconst 4, 1) := by decide +kernel
theorem dX6_blockComes_209 : decode cX6_blockComes 209 = .ok (.if_icmp .ne 30, 3) := by decide +kernel
theorem dX6_blockComes_212 : decode cX6_blockComes 212 = .ok (.aload_n 0, 1) := by decide +kernel
theorem dX6_blockComes_213 : decode cX6_blockComes 213 = .ok (.iload_n 1, 1) := by decide +kernel
theorem dX6_blockComes_214 : decode cX6_blockComes 214 = .ok (.iconst 3, 1) := by decide +kernel
theorem dX6_blockComes_215 : decode cX6_blockComes 215 = .ok (.if_icmp .ne 7, 3) := by decide +kernel
theorem dX6_blockComes_218 : decode cX6_blockComes 218 = .ok (.iconst 1, 1) := by decide +kernel
theorem dX6_blockComes_219 : decode cX6_blockComes 219 = .ok (.goto 4, 3) := by decide +kernel
theorem dX6_blockComes_222 : decode cX6_blockComes 222 = .ok (.iconst 0, 1) := by decide +kernel
theorem dX6_blockComes_223 : decode cX6_blockComes 223 = .ok (.iload 4, 2) := by decide +kernel
theorem dX6_blockComes_225 : decode cX6_blockComes 225 = .ok (.iload 8, 2) := by decide +kernel
theorem dX6_blockComes_227 : decode cX6_blockComes 227 = .ok (.iadd, 1) := by decide +kernel
theorem dX6_blockComes_228 : decode cX6_blockComes 228 = .ok (.iload 5, 2) := by decide +kernel
theorem dX6_blockComes_230 : decode cX6_blockComes 230 = .ok (.iload 8, 2) := by decide +kernel
theorem dX6_blockComes_232 : decode cX6_blockComes 232 = .ok (.iadd, 1) := by decide +kernel
theorem dX6_blockComes_233 : decode cX6_blockComes 233 = .ok (.iconst 1, 1) := by decide +kernel
theorem dX6_blockComes_234 : decode cX6_blockComes 234 = .ok (.iadd, 1) := by decide +kernel
theorem dX6_blockComes_235 : decode cX6_blockComes 235 = .ok (.iconst 1, 1) := by decide +kernel
theorem dX6_blockComes_236 : decode cX6_blockComes 236 = .ok (.invokevirtual 110, 3) := by decide +kernel
theorem dX6_blockComes_239 : decode cX6_blockComes 239 = .ok (.iinc 8 1, 3) := by decide +kernel
theorem dX6_blockComes_242 : decode cX6_blockComes 242 = .ok (.goto (-152), 3) := by decide +kernel
theorem dX6_blockComes_245 : decode cX6_blockComes 245 = .ok (.aload_n 0, 1) := by decide +kernel
theorem dX6_blockComes_246 : decode cX6_blockComes 246 = .ok (.getfield 20, 3) := by decide +kernel
theorem dX6_blockComes_249 : decode cX6_blockComes 249 = .ok (.iconst 1, 1) := by decide +kernel
theorem dX6_blockComes_250 : decode cX6_blockComes 250 = .ok (.dup2, 1) := by decide +kernel
theorem dX6_blockComes_251 : decode cX6_blockComes 251 = .ok (.iaload, 1) := by decide +kernel
theorem dX6_blockComes_252 : decode cX6_blockComes 252 = .ok (.iload 6, 2) := by decide +kernel
theorem dX6_blockComes_254 : decode cX6_blockComes 254 = .ok (.iadd, 1) := by decide +kernel
theorem dX6_blockComes_255 : decode cX6_blockComes 255 = .ok (.iastore, 1) := by decide +kernel
theorem dX6_blockComes_256 : decode cX6_blockComes 256 = .ok (.aload_n 0, 1) := by decide +kernel
theorem dX6_blockComes_257 : decode cX6_blockComes 257 = .ok (.getfield 20, 3) := by decide +kernel
theorem dX6_blockComes_260 : decode cX6_blockComes 260 = .ok (.iconst 2, 1) := by decide +kernel
theorem dX6_blockComes_261 : decode cX6_blockComes 261 = .ok (.dup2, 1) := by decide +kernel
theorem dX6_blockComes_262 : decode cX6_blockComes 262 = .ok (.iaload, 1) := by decide +kernel
theorem dX6_blockComes_263 : decode cX6_blockComes 263 = .ok (.iload 7, 2) := by decide +kernel
theorem dX6_blockComes_265 : decode cX6_blockComes 265 = .ok (.iadd, 1) := by decide +kernel
theorem dX6_blockComes_266 : decode cX6_blockComes 266 = .ok (.iastore, 1) := by decide +kernel
theorem dX6_blockComes_267 : decode cX6_blockComes 267 = .ok (.return_, 1) := by decide +kernel
theorem dX6_readLineOf_0 : decode cX6_readLineOf 0 = .ok (.iload_n 1, 1) := by decide +kernel
theorem dX6_readLineOf_1 : decode cX6_readLineOf 1 = .ok (.ifCond .ne 39, 3) := by decide +kernel
theorem dX6_readLineOf_4 : decode cX6_readLineOf 4 = .ok (.aload_n 0, 1) := by decide +kernel
theorem dX6_readLineOf_5 : decode cX6_readLineOf 5 = .ok (.iconst 2, 1) := by decide +kernel
theorem dX6_readLineOf_6 : decode cX6_readLineOf 6 = .ok (.bipush 7, 2) := by decide +kernel
theorem dX6_readLineOf_8 : decode cX6_readLineOf 8 = .ok (.invokevirtual 114, 3) := by decide +kernel
theorem dX6_readLineOf_11 : decode cX6_readLineOf 11 = .ok (.istore_n 2, 1) := by decide +kernel
theorem dX6_readLineOf_12 : decode cX6_readLineOf 12 = .ok (.aload_n 0, 1) := by decide +kernel
theorem dX6_readLineOf_13 : decode cX6_readLineOf 13 = .ok (.getfield 72, 3) := by decide +kernel
theorem dX6_readLineOf_16 : decode cX6_readLineOf 16 = .ok (.ifCond .ne 12, 3) := by decide +kernel
theorem dX6_readLineOf_19 : decode cX6_readLineOf 19 = .ok (.aload_n 0, 1) := by decide +kernel
theorem dX6_readLineOf_20 : decode cX6_readLineOf 20 = .ok (.iload_n 2, 1) := by decide +kernel
theorem dX6_readLineOf_21 : decode cX6_readLineOf 21 = .ok (.invokestatic 118, 3) := by decide +kernel
theorem dX6_readLineOf_24 : decode cX6_readLineOf 24 = .ok (.iconst 3, 1) := by decide +kernel
theorem dX6_readLineOf_25 : decode cX6_readLineOf 25 = .ok (.invokevirtual 106, 3) := by decide +kernel
theorem dX6_readLineOf_28 : decode cX6_readLineOf 28 = .ok (.aload_n 0, 1) := by decide +kernel
theorem dX6_readLineOf_29 : decode cX6_readLineOf 29 = .ok (.getfield 20, 3) := by decide +kernel
theorem dX6_readLineOf_32 : decode cX6_readLineOf 32 = .ok (.iconst 0, 1) := by decide +kernel
theorem dX6_readLineOf_33 : decode cX6_readLineOf 33 = .ok (.iload_n 2, 1) := by decide +kernel
theorem dX6_readLineOf_34 : decode cX6_readLineOf 34 = .ok (.iastore, 1) := by decide +kernel
theorem dX6_readLineOf_35 : decode cX6_readLineOf 35 = .ok (.aload_n 0, 1) := by decide +kernel
theorem dX6_readLineOf_36 : decode cX6_readLineOf 36 = .ok (.invokevirtual 122, 3) := by decide +kernel
theorem dX6_readLineOf_39 : decode cX6_readLineOf 39 = .ok (.return_, 1) := by decide +kernel
theorem dX6_readLineOf_40 : decode cX6_readLineOf 40 = .ok (.iconst 0, 1) := by decide +kernel
theorem dX6_readLineOf_41 : decode cX6_readLineOf 41 = .ok (.istore_n 2, 1) := by decide +kernel
theorem dX6_readLineOf_42 : decode cX6_readLineOf 42 = .ok (.iload_n 1, 1) := by decide +kernel
theorem dX6_readLineOf_43 : decode cX6_readLineOf 43 = .ok (.iconst 4, 1) := by decide +kernel
theorem dX6_readLineOf_44 : decode cX6_readLineOf 44 = .ok (.if_icmp .ne 35, 3) := by decide +kernel
theorem dX6_readLineOf_47 : decode cX6_readLineOf 47 = .ok (.aload_n 0, 1) := by decide +kernel
theorem dX6_readLineOf_48 : decode cX6_readLineOf 48 = .ok (.iconst 0, 1) := by decide +kernel
theorem dX6_readLineOf_49 : decode cX6_readLineOf 49 = .ok (.bipush 6, 2) := by decide +kernel
theorem dX6_readLineOf_51 : decode cX6_readLineOf 51 = .ok (.invokevirtual 114, 3) := by decide +kernel
theorem dX6_readLineOf_54 : decode cX6_readLineOf 54 = .ok (.istore_n 2, 1) := by decide +kernel
theorem dX6_readLineOf_55 : decode cX6_readLineOf 55 = .ok (.aload_n 0, 1) := by decide +kernel
theorem dX6_readLineOf_56 : decode cX6_readLineOf 56 = .ok (.iload_n 2, 1) := by decide +kernel
theorem dX6_readLineOf_57 : decode cX6_readLineOf 57 = .ok (.aload_n 0, 1) := by decide +kernel
theorem dX6_readLineOf_58 : decode cX6_readLineOf 58 = .ok (.getfield 125, 3) := by decide +kernel
theorem dX6_readLineOf_61 : decode cX6_readLineOf 61 = .ok (.if_icmp .le 7, 3) := by decide +kernel
theorem dX6_readLineOf_64 : decode cX6_readLineOf 64 = .ok (.iload_n 2, 1) := by decide +kernel
theorem dX6_readLineOf_65 : decode cX6_readLineOf 65 = .ok (.goto 7, 3) := by decide +kernel
theorem dX6_readLineOf_68 : decode cX6_readLineOf 68 = .ok (.aload_n 0, 1) := by decide +kernel
theorem dX6_readLineOf_69 : decode cX6_readLineOf 69 = .ok (.getfield 125, 3) := by decide +kernel
theorem dX6_readLineOf_72 : decode cX6_readLineOf 72 = .ok (.putfield 125, 3) := by decide +kernel
theorem dX6_readLineOf_75 : decode cX6_readLineOf 75 = .ok (.aload_n 0, 1) := by decide +kernel
theorem dX6_readLineOf_76 : decode cX6_readLineOf 76 = .ok (.invokevirtual 122, 3) := by decide +kernel
theorem dX6_readLineOf_79 : decode cX6_readLineOf 79 = .ok (.aload_n 0, 1) := by decide +kernel
theorem dX6_readLineOf_80 : decode cX6_readLineOf 80 = .ok (.iload_n 1, 1) := by decide +kernel
theorem dX6_readLineOf_81 : decode cX6_readLineOf 81 = .ok (.iconst 1, 1) := by decide +kernel
theorem dX6_readLineOf_82 : decode cX6_readLineOf 82 = .ok (.if_icmp .eq 8, 3) := by decide +kernel
theorem dX6_readLineOf_85 : decode cX6_readLineOf 85 = .ok (.iload_n 1, 1) := by decide +kernel
theorem dX6_readLineOf_86 : decode cX6_readLineOf 86 = .ok (.iconst 2, 1) := by decide +kernel
theorem dX6_readLineOf_87 : decode cX6_readLineOf 87 = .ok (.if_icmp .ne 7, 3) := by decide +kernel
theorem dX6_readLineOf_90 : decode cX6_readLineOf 90 = .ok (.iconst 0, 1) := by decide +kernel
theorem dX6_readLineOf_91 : decode cX6_readLineOf 91 = .ok (.goto 4, 3) := by decide +kernel
theorem dX6_readLineOf_94 : decode cX6_readLineOf 94 = .ok (.iconst 1, 1) := by decide +kernel
theorem dX6_readLineOf_95 : decode cX6_readLineOf 95 = .ok (.iconst 4, 1) := by decide +kernel
theorem dX6_readLineOf_96 : decode cX6_readLineOf 96 = .ok (.invokevirtual 114, 3) := by decide +kernel
theorem dX6_readLineOf_99 : decode cX6_readLineOf 99 = .ok (.istore_n 3, 1) := by decide +kernel
theorem dX6_readLineOf_100 : decode cX6_readLineOf 100 = .ok (.aload_n 0, 1) := by decide +kernel
theorem dX6_readLineOf_101 : decode cX6_readLineOf 101 = .ok (.iload_n 1, 1) := by decide +kernel
theorem dX6_readLineOf_102 : decode cX6_readLineOf 102 = .ok (.iload_n 3, 1) := by decide +kernel
theorem dX6_readLineOf_103 : decode cX6_readLineOf 103 = .ok (.iload_n 2, 1) := by decide +kernel
theorem dX6_readLineOf_104 : decode cX6_readLineOf 104 = .ok (.invokevirtual 128, 3) := by decide +kernel
theorem dX6_readLineOf_107 : decode cX6_readLineOf 107 = .ok (.aload_n 0, 1) := by decide +kernel
theorem dX6_readLineOf_108 : decode cX6_readLineOf 108 = .ok (.invokevirtual 122, 3) := by decide +kernel
theorem dX6_readLineOf_111 : decode cX6_readLineOf 111 = .ok (.return_, 1) := by decide +kernel
theorem dX6_readLine_0 : decode cX6_readLine 0 = .ok (.aload_n 0, 1) := by decide +kernel
theorem dX6_readLine_1 : decode cX6_readLine 1 = .ok (.getfield 92, 3) := by decide +kernel
theorem dX6_readLine_4 : decode cX6_readLine 4 = .ok (.iconst 1, 1) := by decide +kernel
theorem dX6_readLine_5 : decode cX6_readLine 5 = .ok (.if_icmp .ne 10, 3) := by decide +kernel
theorem dX6_readLine_8 : decode cX6_readLine 8 = .ok (.aload_n 0, 1) := by decide +kernel
theorem dX6_readLine_9 : decode cX6_readLine 9 = .ok (.invokevirtual 132, 3) := by decide +kernel
theorem dX6_readLine_12 : decode cX6_readLine 12 = .ok (.goto 5, 3) := by decide +kernel
theorem dX6_readLine_15 : decode cX6_readLine 15 = .ok (.bipush (-4), 2) := by decide +kernel
theorem dX6_readLine_17 : decode cX6_readLine 17 = .ok (.istore_n 1, 1) := by decide +kernel
theorem dX6_readLine_18 : decode cX6_readLine 18 = .ok (.aload_n 0, 1) := by decide +kernel
theorem dX6_readLine_19 : decode cX6_readLine 19 = .ok (.iload_n 1, 1) := by decide +kernel
theorem dX6_readLine_20 : decode cX6_readLine 20 = .ok (.bipush (-4), 2) := by decide +kernel
theorem dX6_readLine_22 : decode cX6_readLine 22 = .ok (.if_icmp .eq 7, 3) := by decide +kernel
theorem dX6_readLine_25 : decode cX6_readLine 25 = .ok (.iconst 1, 1) := by decide +kernel
theorem dX6_readLine_26 : decode cX6_readLine 26 = .ok (.goto 4, 3) := by decide +kernel
theorem dX6_readLine_29 : decode cX6_readLine 29 = .ok (.iconst 0, 1) := by decide +kernel
theorem dX6_readLine_30 : decode cX6_readLine 30 = .ok (.iconst 2, 1) := by decide +kernel
theorem dX6_readLine_31 : decode cX6_readLine 31 = .ok (.invokevirtual 106, 3) := by decide +kernel
theorem dX6_readLine_34 : decode cX6_readLine 34 = .ok (.aload_n 0, 1) := by decide +kernel
theorem dX6_readLine_35 : decode cX6_readLine 35 = .ok (.iload_n 1, 1) := by decide +kernel
theorem dX6_readLine_36 : decode cX6_readLine 36 = .ok (.ifCond .ne 10, 3) := by decide +kernel
theorem dX6_readLine_39 : decode cX6_readLine 39 = .ok (.aload_n 0, 1) := by decide +kernel
theorem dX6_readLine_40 : decode cX6_readLine 40 = .ok (.getfield 136, 3) := by decide +kernel
theorem dX6_readLine_43 : decode cX6_readLine 43 = .ok (.ifCond .ne 7, 3) := by decide +kernel
theorem dX6_readLine_46 : decode cX6_readLine 46 = .ok (.iconst 1, 1) := by decide +kernel
theorem dX6_readLine_47 : decode cX6_readLine 47 = .ok (.goto 4, 3) := by decide +kernel
theorem dX6_readLine_50 : decode cX6_readLine 50 = .ok (.iconst 0, 1) := by decide +kernel
theorem dX6_readLine_51 : decode cX6_readLine 51 = .ok (.iconst 4, 1) := by decide +kernel
theorem dX6_readLine_52 : decode cX6_readLine 52 = .ok (.invokevirtual 106, 3) := by decide +kernel
theorem dX6_readLine_55 : decode cX6_readLine 55 = .ok (.aload_n 0, 1) := by decide +kernel
theorem dX6_readLine_56 : decode cX6_readLine 56 = .ok (.aload_n 0, 1) := by decide +kernel
theorem dX6_readLine_57 : decode cX6_readLine 57 = .ok (.getfield 136, 3) := by decide +kernel
theorem dX6_readLine_60 : decode cX6_readLine 60 = .ok (.ifCond .ne 7, 3) := by decide +kernel
theorem dX6_readLine_63 : decode cX6_readLine 63 = .ok (.iload_n 1, 1) := by decide +kernel
theorem dX6_readLine_64 : decode cX6_readLine 64 = .ok (.ifCond .ne 7, 3) := by decide +kernel
theorem dX6_readLine_67 : decode cX6_readLine 67 = .ok (.iconst 1, 1) := by decide +kernel
theorem dX6_readLine_68 : decode cX6_readLine 68 = .ok (.goto 4, 3) := by decide +kernel
theorem dX6_readLine_71 : decode cX6_readLine 71 = .ok (.iconst 0, 1) := by decide +kernel
theorem dX6_readLine_72 : decode cX6_readLine 72 = .ok (.putfield 136, 3) := by decide +kernel
theorem dX6_readLine_75 : decode cX6_readLine 75 = .ok (.aload_n 0, 1) := by decide +kernel
theorem dX6_readLine_76 : decode cX6_readLine 76 = .ok (.invokevirtual 122, 3) := by decide +kernel
theorem dX6_readLine_79 : decode cX6_readLine 79 = .ok (.aload_n 0, 1) := by decide +kernel
theorem dX6_readLine_80 : decode cX6_readLine 80 = .ok (.getfield 72, 3) := by decide +kernel
theorem dX6_readLine_83 : decode cX6_readLine 83 = .ok (.ifCond .le 4, 3) := by decide +kernel
theorem dX6_readLine_86 : decode cX6_readLine 86 = .ok (.return_, 1) := by decide +kernel
theorem dX6_readLine_87 : decode cX6_readLine 87 = .ok (.aload_n 0, 1) := by decide +kernel
theorem dX6_readLine_88 : decode cX6_readLine 88 = .ok (.iload_n 1, 1) := by decide +kernel
theorem dX6_readLine_89 : decode cX6_readLine 89 = .ok (.invokevirtual 140, 3) := by decide +kernel
theorem dX6_readLine_92 : decode cX6_readLine 92 = .ok (.aload_n 0, 1) := by decide +kernel
theorem dX6_readLine_93 : decode cX6_readLine 93 = .ok (.getfield 72, 3) := by decide +kernel
theorem dX6_readLine_96 : decode cX6_readLine 96 = .ok (.ifCond .ne 21, 3) := by decide +kernel
theorem dX6_readLine_99 : decode cX6_readLine 99 = .ok (.aload_n 0, 1) := by decide +kernel
theorem dX6_readLine_100 : decode cX6_readLine 100 = .ok (.aload_n 0, 1) := by decide +kernel
theorem dX6_readLine_101 : decode cX6_readLine 101 = .ok (.getfield 92, 3) := by decide +kernel
theorem dX6_readLine_104 : decode cX6_readLine 104 = .ok (.iconst 3, 1) := by decide +kernel
theorem dX6_readLine_105 : decode cX6_readLine 105 = .ok (.if_icmp .ne 7, 3) := by decide +kernel
theorem dX6_readLine_108 : decode cX6_readLine 108 = .ok (.iconst 1, 1) := by decide +kernel
theorem dX6_readLine_109 : decode cX6_readLine 109 = .ok (.goto 4, 3) := by decide +kernel
theorem dX6_readLine_112 : decode cX6_readLine 112 = .ok (.iconst 0, 1) := by decide +kernel
theorem dX6_readLine_113 : decode cX6_readLine 113 = .ok (.iconst 2, 1) := by decide +kernel
theorem dX6_readLine_114 : decode cX6_readLine 114 = .ok (.invokevirtual 106, 3) := by decide +kernel
theorem dX6_readLine_117 : decode cX6_readLine 117 = .ok (.aload_n 0, 1) := by decide +kernel
theorem dX6_readLine_118 : decode cX6_readLine 118 = .ok (.invokevirtual 122, 3) := by decide +kernel
theorem dX6_readLine_121 : decode cX6_readLine 121 = .ok (.return_, 1) := by decide +kernel
theorem dX6_text_0 : decode cX6_text 0 = .ok (.iconst 0, 1) := by decide +kernel
theorem dX6_text_1 : decode cX6_text 1 = .ok (.istore_n 1, 1) := by decide +kernel
theorem dX6_text_2 : decode cX6_text 2 = .ok (.aload_n 0, 1) := by decide +kernel
theorem dX6_text_3 : decode cX6_text 3 = .ok (.iconst 0, 1) := by decide +kernel
theorem dX6_text_4 : decode cX6_text 4 = .ok (.putfield 72, 3) := by decide +kernel
theorem dX6_text_7 : decode cX6_text 7 = .ok (.aload_n 0, 1) := by decide +kernel
theorem dX6_text_8 : decode cX6_text 8 = .ok (.iconst 0, 1) := by decide +kernel
theorem dX6_text_9 : decode cX6_text 9 = .ok (.putfield 81, 3) := by decide +kernel
theorem dX6_text_12 : decode cX6_text 12 = .ok (.aload_n 0, 1) := by decide +kernel
theorem dX6_text_13 : decode cX6_text 13 = .ok (.iconst 0, 1) := by decide +kernel
theorem dX6_text_14 : decode cX6_text 14 = .ok (.putfield 136, 3) := by decide +kernel
theorem dX6_text_17 : decode cX6_text 17 = .ok (.aload_n 0, 1) := by decide +kernel
theorem dX6_text_18 : decode cX6_text 18 = .ok (.iconst (-1), 1) := by decide +kernel
theorem dX6_text_19 : decode cX6_text 19 = .ok (.putfield 125, 3) := by decide +kernel
theorem dX6_text_22 : decode cX6_text 22 = .ok (.iconst 0, 1) := by decide +kernel
theorem dX6_text_23 : decode cX6_text 23 = .ok (.istore_n 2, 1) := by decide +kernel
theorem dX6_text_24 : decode cX6_text 24 = .ok (.iload_n 2, 1) := by decide +kernel
theorem dX6_text_25 : decode cX6_text 25 = .ok (.bipush 35, 2) := by decide +kernel
theorem dX6_text_27 : decode cX6_text 27 = .ok (.if_icmp .ge 16, 3) := by decide +kernel
theorem dX6_text_30 : decode cX6_text 30 = .ok (.aload_n 0, 1) := by decide +kernel
theorem dX6_text_31 : decode cX6_text 31 = .ok (.getfield 20, 3) := by decide +kernel
theorem dX6_text_34 : decode cX6_text 34 = .ok (.iload_n 2, 1) := by decide +kernel
theorem dX6_text_35 : decode cX6_text 35 = .ok (.iconst 0, 1) := by decide +kernel
theorem dX6_text_36 : decode cX6_text 36 = .ok (.iastore, 1) := by decide +kernel
theorem dX6_text_37 : decode cX6_text 37 = .ok (.iinc 2 1, 3) := by decide +kernel
theorem dX6_text_40 : decode cX6_text 40 = .ok (.goto (-16), 3) := by decide +kernel
theorem dX6_text_43 : decode cX6_text 43 = .ok (.aload_n 0, 1) := by decide +kernel
theorem dX6_text_44 : decode cX6_text 44 = .ok (.getfield 20, 3) := by decide +kernel
theorem dX6_text_47 : decode cX6_text 47 = .ok (.iconst 0, 1) := by decide +kernel
theorem dX6_text_48 : decode cX6_text 48 = .ok (.bipush 7, 2) := by decide +kernel
theorem dX6_text_50 : decode cX6_text 50 = .ok (.iastore, 1) := by decide +kernel
theorem dX6_text_51 : decode cX6_text 51 = .ok (.aload_n 0, 1) := by decide +kernel
theorem dX6_text_52 : decode cX6_text 52 = .ok (.invokevirtual 122, 3) := by decide +kernel
theorem dX6_text_55 : decode cX6_text 55 = .ok (.aload_n 0, 1) := by decide +kernel
theorem dX6_text_56 : decode cX6_text 56 = .ok (.getfield 72, 3) := by decide +kernel
theorem dX6_text_59 : decode cX6_text 59 = .ok (.ifCond .ne 20, 3) := by decide +kernel
theorem dX6_text_62 : decode cX6_text 62 = .ok (.aload_n 0, 1) := by decide +kernel
theorem dX6_text_63 : decode cX6_text 63 = .ok (.getfield 92, 3) := by decide +kernel
theorem dX6_text_66 : decode cX6_text 66 = .ok (.ifCond .eq 13, 3) := by decide +kernel
theorem dX6_text_69 : decode cX6_text 69 = .ok (.aload_n 0, 1) := by decide +kernel
theorem dX6_text_70 : decode cX6_text 70 = .ok (.invokevirtual 144, 3) := by decide +kernel
theorem dX6_text_73 : decode cX6_text 73 = .ok (.iinc 1 1, 3) := by decide +kernel
theorem dX6_text_76 : decode cX6_text 76 = .ok (.goto (-21), 3) := by decide +kernel
theorem dX6_text_79 : decode cX6_text 79 = .ok (.aload_n 0, 1) := by decide +kernel
theorem dX6_text_80 : decode cX6_text 80 = .ok (.aload_n 0, 1) := by decide +kernel
theorem dX6_text_81 : decode cX6_text 81 = .ok (.getfield 125, 3) := by decide +kernel
theorem dX6_text_84 : decode cX6_text 84 = .ok (.aload_n 0, 1) := by decide +kernel
theorem dX6_text_85 : decode cX6_text 85 = .ok (.getfield 20, 3) := by decide +kernel
theorem dX6_text_88 : decode cX6_text 88 = .ok (.iconst 0, 1) := by decide +kernel
theorem dX6_text_89 : decode cX6_text 89 = .ok (.iaload, 1) := by decide +kernel
theorem dX6_text_90 : decode cX6_text 90 = .ok (.if_icmp .ge 7, 3) := by decide +kernel
theorem dX6_text_93 : decode cX6_text 93 = .ok (.iconst 1, 1) := by decide +kernel
theorem dX6_text_94 : decode cX6_text 94 = .ok (.goto 4, 3) := by decide +kernel
theorem dX6_text_97 : decode cX6_text 97 = .ok (.iconst 0, 1) := by decide +kernel
theorem dX6_text_98 : decode cX6_text 98 = .ok (.bipush 6, 2) := by decide +kernel
theorem dX6_text_100 : decode cX6_text 100 = .ok (.invokevirtual 106, 3) := by decide +kernel
theorem dX6_text_103 : decode cX6_text 103 = .ok (.aload_n 0, 1) := by decide +kernel
theorem dX6_text_104 : decode cX6_text 104 = .ok (.iconst 0, 1) := by decide +kernel
theorem dX6_text_105 : decode cX6_text 105 = .ok (.putfield 68, 3) := by decide +kernel
theorem dX6_text_108 : decode cX6_text 108 = .ok (.aload_n 0, 1) := by decide +kernel
theorem dX6_text_109 : decode cX6_text 109 = .ok (.getfield 72, 3) := by decide +kernel
theorem dX6_text_112 : decode cX6_text 112 = .ok (.ifCond .le 11, 3) := by decide +kernel
theorem dX6_text_115 : decode cX6_text 115 = .ok (.bipush (-10), 2) := by decide +kernel
theorem dX6_text_117 : decode cX6_text 117 = .ok (.aload_n 0, 1) := by decide +kernel
theorem dX6_text_118 : decode cX6_text 118 = .ok (.getfield 78, 3) := by decide +kernel
theorem dX6_text_121 : decode cX6_text 121 = .ok (.isub, 1) := by decide +kernel
theorem dX6_text_122 : decode cX6_text 122 = .ok (.ireturn, 1) := by decide +kernel
theorem dX6_text_123 : decode cX6_text 123 = .ok (.iconst 0, 1) := by decide +kernel
theorem dX6_text_124 : decode cX6_text 124 = .ok (.istore_n 2, 1) := by decide +kernel
theorem dX6_text_125 : decode cX6_text 125 = .ok (.iload_n 2, 1) := by decide +kernel
theorem dX6_text_126 : decode cX6_text 126 = .ok (.bipush 35, 2) := by decide +kernel
theorem dX6_text_128 : decode cX6_text 128 = .ok (.if_icmp .ge 21, 3) := by decide +kernel
theorem dX6_text_131 : decode cX6_text 131 = .ok (.aload_n 0, 1) := by decide +kernel
theorem dX6_text_132 : decode cX6_text 132 = .ok (.getfield 7, 3) := by decide +kernel
theorem dX6_text_135 : decode cX6_text 135 = .ok (.iload_n 2, 1) := by decide +kernel
theorem dX6_text_136 : decode cX6_text 136 = .ok (.aload_n 0, 1) := by decide +kernel
theorem dX6_text_137 : decode cX6_text 137 = .ok (.getfield 20, 3) := by decide +kernel
theorem dX6_text_140 : decode cX6_text 140 = .ok (.iload_n 2, 1) := by decide +kernel
theorem dX6_text_141 : decode cX6_text 141 = .ok (.iaload, 1) := by decide +kernel
theorem dX6_text_142 : decode cX6_text 142 = .ok (.iastore, 1) := by decide +kernel
theorem dX6_text_143 : decode cX6_text 143 = .ok (.iinc 2 1, 3) := by decide +kernel
theorem dX6_text_146 : decode cX6_text 146 = .ok (.goto (-21), 3) := by decide +kernel
theorem dX6_text_149 : decode cX6_text 149 = .ok (.aload_n 0, 1) := by decide +kernel
theorem dX6_text_150 : decode cX6_text 150 = .ok (.getfield 16, 3) := by decide +kernel
theorem dX6_text_153 : decode cX6_text 153 = .ok (.iconst 0, 1) := by decide +kernel
theorem dX6_text_154 : decode cX6_text 154 = .ok (.iconst 0, 1) := by decide +kernel
theorem dX6_text_155 : decode cX6_text 155 = .ok (.bastore, 1) := by decide +kernel
theorem dX6_text_156 : decode cX6_text 156 = .ok (.aload_n 0, 1) := by decide +kernel
theorem dX6_text_157 : decode cX6_text 157 = .ok (.getfield 16, 3) := by decide +kernel
theorem dX6_text_160 : decode cX6_text 160 = .ok (.iconst 1, 1) := by decide +kernel
theorem dX6_text_161 : decode cX6_text 161 = .ok (.iconst 0, 1) := by decide +kernel
theorem dX6_text_162 : decode cX6_text 162 = .ok (.bastore, 1) := by decide +kernel
theorem dX6_text_163 : decode cX6_text 163 = .ok (.iload_n 1, 1) := by decide +kernel
theorem dX6_text_164 : decode cX6_text 164 = .ok (.ireturn, 1) := by decide +kernel
theorem dX6_fault_0 : decode cX6_fault 0 = .ok (.aload_n 0, 1) := by decide +kernel
theorem dX6_fault_1 : decode cX6_fault 1 = .ok (.getfield 72, 3) := by decide +kernel
theorem dX6_fault_4 : decode cX6_fault 4 = .ok (.ireturn, 1) := by decide +kernel
theorem dX6_isTable_0 : decode cX6_isTable 0 = .ok (.iload_n 1, 1) := by decide +kernel
theorem dX6_isTable_1 : decode cX6_isTable 1 = .ok (.i2l, 1) := by decide +kernel
theorem dX6_isTable_2 : decode cX6_isTable 2 = .ok (.lconst 0, 1) := by decide +kernel
theorem dX6_isTable_3 : decode cX6_isTable 3 = .ok (.lconst 1, 1) := by decide +kernel
theorem dX6_isTable_4 : decode cX6_isTable 4 = .ok (.invokestatic 64, 3) := by decide +kernel
theorem dX6_isTable_7 : decode cX6_isTable 7 = .ok (.ireturn, 1) := by decide +kernel
theorem dX6_isPlace_0 : decode cX6_isPlace 0 = .ok (.iload_n 1, 1) := by decide +kernel
theorem dX6_isPlace_1 : decode cX6_isPlace 1 = .ok (.i2l, 1) := by decide +kernel
theorem dX6_isPlace_2 : decode cX6_isPlace 2 = .ok (.lconst 0, 1) := by decide +kernel
theorem dX6_isPlace_3 : decode cX6_isPlace 3 = .ok (.aload_n 0, 1) := by decide +kernel
theorem dX6_isPlace_4 : decode cX6_isPlace 4 = .ok (.getfield 7, 3) := by decide +kernel
theorem dX6_isPlace_7 : decode cX6_isPlace 7 = .ok (.iconst 1, 1) := by decide +kernel
theorem dX6_isPlace_8 : decode cX6_isPlace 8 = .ok (.iaload, 1) := by decide +kernel
theorem dX6_isPlace_9 : decode cX6_isPlace 9 = .ok (.iconst 1, 1) := by decide +kernel
theorem dX6_isPlace_10 : decode cX6_isPlace 10 = .ok (.isub, 1) := by decide +kernel
theorem dX6_isPlace_11 : decode cX6_isPlace 11 = .ok (.i2l, 1) := by decide +kernel
theorem dX6_isPlace_12 : decode cX6_isPlace 12 = .ok (.invokestatic 64, 3) := by decide +kernel
theorem dX6_isPlace_15 : decode cX6_isPlace 15 = .ok (.ifCond .eq 25, 3) := by decide +kernel
theorem dX6_isPlace_18 : decode cX6_isPlace 18 = .ok (.iload_n 2, 1) := by decide +kernel
theorem dX6_isPlace_19 : decode cX6_isPlace 19 = .ok (.i2l, 1) := by decide +kernel
theorem dX6_isPlace_20 : decode cX6_isPlace 20 = .ok (.lconst 0, 1) := by decide +kernel
theorem dX6_isPlace_21 : decode cX6_isPlace 21 = .ok (.aload_n 0, 1) := by decide +kernel
theorem dX6_isPlace_22 : decode cX6_isPlace 22 = .ok (.getfield 7, 3) := by decide +kernel
theorem dX6_isPlace_25 : decode cX6_isPlace 25 = .ok (.iconst 2, 1) := by decide +kernel
theorem dX6_isPlace_26 : decode cX6_isPlace 26 = .ok (.iaload, 1) := by decide +kernel
theorem dX6_isPlace_27 : decode cX6_isPlace 27 = .ok (.iconst 1, 1) := by decide +kernel
