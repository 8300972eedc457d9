theorem dX5_read_107 : decode cX5_read 107 = .ok (.istore 8, 2) := by decide +kernel
theorem dX5_read_109 : decode cX5_read 109 = .ok (.iload 8, 2) := by decide +kernel
theorem dX5_read_111 : decode cX5_read 111 = .ok (.iload 6, 2) := by decide +kernel
theorem dX5_read_113 : decode cX5_read 113 = .ok (.if_icmp .ge 21, 3) := by decide +kernel
theorem dX5_read_116 : decode cX5_read 116 = .ok (.aload_n 0, 1) := by decide +kernel
theorem dX5_read_117 : decode cX5_read 117 = .ok (.aload 5, 2) := by decide +kernel
theorem dX5_read_119 : decode cX5_read 119 = .ok (.iload_n 3, 1) := by decide +kernel
theorem dX5_read_120 : decode cX5_read 120 = .ok (.iconst 4, 1) := by decide +kernel
theorem dX5_read_121 : decode cX5_read 121 = .ok (.iload 8, 2) := by decide +kernel
theorem dX5_read_123 : decode cX5_read 123 = .ok (.imul, 1) := by decide +kernel
theorem dX5_read_124 : decode cX5_read 124 = .ok (.iadd, 1) := by decide +kernel
theorem dX5_read_125 : decode cX5_read 125 = .ok (.invokevirtual 244, 3) := by decide +kernel
theorem dX5_read_128 : decode cX5_read 128 = .ok (.iinc 8 1, 3) := by decide +kernel
theorem dX5_read_131 : decode cX5_read 131 = .ok (.goto (-22), 3) := by decide +kernel
theorem dX5_read_134 : decode cX5_read 134 = .ok (.aload_n 0, 1) := by decide +kernel
theorem dX5_read_135 : decode cX5_read 135 = .ok (.iload 7, 2) := by decide +kernel
theorem dX5_read_137 : decode cX5_read 137 = .ok (.putfield 248, 3) := by decide +kernel
theorem dX5_read_140 : decode cX5_read 140 = .ok (.iload 6, 2) := by decide +kernel
theorem dX5_read_142 : decode cX5_read 142 = .ok (.ireturn, 1) := by decide +kernel
theorem dX5_torn_0 : decode cX5_torn 0 = .ok (.aload_n 0, 1) := by decide +kernel
theorem dX5_torn_1 : decode cX5_torn 1 = .ok (.getfield 248, 3) := by decide +kernel
theorem dX5_torn_4 : decode cX5_torn 4 = .ok (.ireturn, 1) := by decide +kernel
theorem dX5_count_0 : decode cX5_count 0 = .ok (.iload_n 1, 1) := by decide +kernel
theorem dX5_count_1 : decode cX5_count 1 = .ok (.tableswitch 130 0 5 #[39, 69, 77, 85, 112, 121], 39) := by decide +kernel
theorem dX5_count_40 : decode cX5_count 40 = .ok (.aload_n 0, 1) := by decide +kernel
theorem dX5_count_41 : decode cX5_count 41 = .ok (.getfield 27, 3) := by decide +kernel
theorem dX5_count_44 : decode cX5_count 44 = .ok (.iconst 0, 1) := by decide +kernel
theorem dX5_count_45 : decode cX5_count 45 = .ok (.baload, 1) := by decide +kernel
theorem dX5_count_46 : decode cX5_count 46 = .ok (.ifCond .eq 7, 3) := by decide +kernel
theorem dX5_count_49 : decode cX5_count 49 = .ok (.iconst 1, 1) := by decide +kernel
theorem dX5_count_50 : decode cX5_count 50 = .ok (.goto 4, 3) := by decide +kernel
theorem dX5_count_53 : decode cX5_count 53 = .ok (.iconst 0, 1) := by decide +kernel
theorem dX5_count_54 : decode cX5_count 54 = .ok (.aload_n 0, 1) := by decide +kernel
theorem dX5_count_55 : decode cX5_count 55 = .ok (.getfield 27, 3) := by decide +kernel
theorem dX5_count_58 : decode cX5_count 58 = .ok (.iconst 1, 1) := by decide +kernel
theorem dX5_count_59 : decode cX5_count 59 = .ok (.baload, 1) := by decide +kernel
theorem dX5_count_60 : decode cX5_count 60 = .ok (.ifCond .eq 7, 3) := by decide +kernel
theorem dX5_count_63 : decode cX5_count 63 = .ok (.iconst 1, 1) := by decide +kernel
theorem dX5_count_64 : decode cX5_count 64 = .ok (.goto 4, 3) := by decide +kernel
theorem dX5_count_67 : decode cX5_count 67 = .ok (.iconst 0, 1) := by decide +kernel
theorem dX5_count_68 : decode cX5_count 68 = .ok (.iadd, 1) := by decide +kernel
theorem dX5_count_69 : decode cX5_count 69 = .ok (.ireturn, 1) := by decide +kernel
theorem dX5_count_70 : decode cX5_count 70 = .ok (.aload_n 0, 1) := by decide +kernel
theorem dX5_count_71 : decode cX5_count 71 = .ok (.getfield 19, 3) := by decide +kernel
theorem dX5_count_74 : decode cX5_count 74 = .ok (.invokevirtual 251, 3) := by decide +kernel
theorem dX5_count_77 : decode cX5_count 77 = .ok (.ireturn, 1) := by decide +kernel
theorem dX5_count_78 : decode cX5_count 78 = .ok (.aload_n 0, 1) := by decide +kernel
theorem dX5_count_79 : decode cX5_count 79 = .ok (.getfield 10, 3) := by decide +kernel
theorem dX5_count_82 : decode cX5_count 82 = .ok (.getfield 56, 3) := by decide +kernel
theorem dX5_count_85 : decode cX5_count 85 = .ok (.ireturn, 1) := by decide +kernel
theorem dX5_count_86 : decode cX5_count 86 = .ok (.aload_n 0, 1) := by decide +kernel
theorem dX5_count_87 : decode cX5_count 87 = .ok (.getfield 33, 3) := by decide +kernel
theorem dX5_count_90 : decode cX5_count 90 = .ok (.iconst 0, 1) := by decide +kernel
theorem dX5_count_91 : decode cX5_count 91 = .ok (.aaload, 1) := by decide +kernel
theorem dX5_count_92 : decode cX5_count 92 = .ok (.invokevirtual 254, 3) := by decide +kernel
theorem dX5_count_95 : decode cX5_count 95 = .ok (.ifCond .eq 8, 3) := by decide +kernel
theorem dX5_count_98 : decode cX5_count 98 = .ok (.bipush (-4), 2) := by decide +kernel
theorem dX5_count_100 : decode cX5_count 100 = .ok (.goto 12, 3) := by decide +kernel
theorem dX5_count_103 : decode cX5_count 103 = .ok (.aload_n 0, 1) := by decide +kernel
theorem dX5_count_104 : decode cX5_count 104 = .ok (.getfield 33, 3) := by decide +kernel
theorem dX5_count_107 : decode cX5_count 107 = .ok (.iconst 0, 1) := by decide +kernel
theorem dX5_count_108 : decode cX5_count 108 = .ok (.aaload, 1) := by decide +kernel
theorem dX5_count_109 : decode cX5_count 109 = .ok (.getfield 258, 3) := by decide +kernel
theorem dX5_count_112 : decode cX5_count 112 = .ok (.ireturn, 1) := by decide +kernel
theorem dX5_count_113 : decode cX5_count 113 = .ok (.aload_n 0, 1) := by decide +kernel
theorem dX5_count_114 : decode cX5_count 114 = .ok (.getfield 19, 3) := by decide +kernel
theorem dX5_count_117 : decode cX5_count 117 = .ok (.iconst 0, 1) := by decide +kernel
theorem dX5_count_118 : decode cX5_count 118 = .ok (.invokevirtual 261, 3) := by decide +kernel
theorem dX5_count_121 : decode cX5_count 121 = .ok (.ireturn, 1) := by decide +kernel
theorem dX5_count_122 : decode cX5_count 122 = .ok (.aload_n 0, 1) := by decide +kernel
theorem dX5_count_123 : decode cX5_count 123 = .ok (.getfield 19, 3) := by decide +kernel
theorem dX5_count_126 : decode cX5_count 126 = .ok (.iconst 1, 1) := by decide +kernel
theorem dX5_count_127 : decode cX5_count 127 = .ok (.invokevirtual 261, 3) := by decide +kernel
theorem dX5_count_130 : decode cX5_count 130 = .ok (.ireturn, 1) := by decide +kernel
theorem dX5_count_131 : decode cX5_count 131 = .ok (.iconst (-1), 1) := by decide +kernel
theorem dX5_count_132 : decode cX5_count 132 = .ok (.ireturn, 1) := by decide +kernel
theorem dX5_maySetFrom_0 : decode cX5_maySetFrom 0 = .ok (.aload_n 0, 1) := by decide +kernel
theorem dX5_maySetFrom_1 : decode cX5_maySetFrom 1 = .ok (.aload_n 1, 1) := by decide +kernel
theorem dX5_maySetFrom_2 : decode cX5_maySetFrom 2 = .ok (.iload_n 2, 1) := by decide +kernel
theorem dX5_maySetFrom_3 : decode cX5_maySetFrom 3 = .ok (.invokevirtual 264, 3) := by decide +kernel
theorem dX5_maySetFrom_6 : decode cX5_maySetFrom 6 = .ok (.aload_n 1, 1) := by decide +kernel
theorem dX5_maySetFrom_7 : decode cX5_maySetFrom 7 = .ok (.iload_n 2, 1) := by decide +kernel
theorem dX5_maySetFrom_8 : decode cX5_maySetFrom 8 = .ok (.iconst 1, 1) := by decide +kernel
theorem dX5_maySetFrom_9 : decode cX5_maySetFrom 9 = .ok (.iadd, 1) := by decide +kernel
theorem dX5_maySetFrom_10 : decode cX5_maySetFrom 10 = .ok (.invokevirtual 264, 3) := by decide +kernel
theorem dX5_maySetFrom_13 : decode cX5_maySetFrom 13 = .ok (.aload_n 1, 1) := by decide +kernel
theorem dX5_maySetFrom_14 : decode cX5_maySetFrom 14 = .ok (.iload_n 2, 1) := by decide +kernel
theorem dX5_maySetFrom_15 : decode cX5_maySetFrom 15 = .ok (.iconst 2, 1) := by decide +kernel
theorem dX5_maySetFrom_16 : decode cX5_maySetFrom 16 = .ok (.iadd, 1) := by decide +kernel
theorem dX5_maySetFrom_17 : decode cX5_maySetFrom 17 = .ok (.invokevirtual 264, 3) := by decide +kernel
theorem dX5_maySetFrom_20 : decode cX5_maySetFrom 20 = .ok (.aload_n 1, 1) := by decide +kernel
theorem dX5_maySetFrom_21 : decode cX5_maySetFrom 21 = .ok (.iload_n 2, 1) := by decide +kernel
theorem dX5_maySetFrom_22 : decode cX5_maySetFrom 22 = .ok (.iconst 3, 1) := by decide +kernel
theorem dX5_maySetFrom_23 : decode cX5_maySetFrom 23 = .ok (.iadd, 1) := by decide +kernel
theorem dX5_maySetFrom_24 : decode cX5_maySetFrom 24 = .ok (.invokevirtual 264, 3) := by decide +kernel
theorem dX5_maySetFrom_27 : decode cX5_maySetFrom 27 = .ok (.invokevirtual 154, 3) := by decide +kernel
theorem dX5_maySetFrom_30 : decode cX5_maySetFrom 30 = .ok (.ireturn, 1) := by decide +kernel
theorem dX5_setFrom_0 : decode cX5_setFrom 0 = .ok (.aload_n 0, 1) := by decide +kernel
theorem dX5_setFrom_1 : decode cX5_setFrom 1 = .ok (.getfield 19, 3) := by decide +kernel
theorem dX5_setFrom_4 : decode cX5_setFrom 4 = .ok (.aload_n 1, 1) := by decide +kernel
theorem dX5_setFrom_5 : decode cX5_setFrom 5 = .ok (.iload_n 2, 1) := by decide +kernel
theorem dX5_setFrom_6 : decode cX5_setFrom 6 = .ok (.invokevirtual 264, 3) := by decide +kernel
theorem dX5_setFrom_9 : decode cX5_setFrom 9 = .ok (.aload_n 1, 1) := by decide +kernel
theorem dX5_setFrom_10 : decode cX5_setFrom 10 = .ok (.iload_n 2, 1) := by decide +kernel
theorem dX5_setFrom_11 : decode cX5_setFrom 11 = .ok (.iconst 1, 1) := by decide +kernel
theorem dX5_setFrom_12 : decode cX5_setFrom 12 = .ok (.iadd, 1) := by decide +kernel
theorem dX5_setFrom_13 : decode cX5_setFrom 13 = .ok (.invokevirtual 264, 3) := by decide +kernel
theorem dX5_setFrom_16 : decode cX5_setFrom 16 = .ok (.aload_n 1, 1) := by decide +kernel
theorem dX5_setFrom_17 : decode cX5_setFrom 17 = .ok (.iload_n 2, 1) := by decide +kernel
theorem dX5_setFrom_18 : decode cX5_setFrom 18 = .ok (.iconst 2, 1) := by decide +kernel
theorem dX5_setFrom_19 : decode cX5_setFrom 19 = .ok (.iadd, 1) := by decide +kernel
theorem dX5_setFrom_20 : decode cX5_setFrom 20 = .ok (.invokevirtual 264, 3) := by decide +kernel
theorem dX5_setFrom_23 : decode cX5_setFrom 23 = .ok (.aload_n 1, 1) := by decide +kernel
theorem dX5_setFrom_24 : decode cX5_setFrom 24 = .ok (.iload_n 2, 1) := by decide +kernel
theorem dX5_setFrom_25 : decode cX5_setFrom 25 = .ok (.iconst 3, 1) := by decide +kernel
theorem dX5_setFrom_26 : decode cX5_setFrom 26 = .ok (.iadd, 1) := by decide +kernel
theorem dX5_setFrom_27 : decode cX5_setFrom 27 = .ok (.invokevirtual 264, 3) := by decide +kernel
theorem dX5_setFrom_30 : decode cX5_setFrom 30 = .ok (.invokevirtual 158, 3) := by decide +kernel
theorem dX5_setFrom_33 : decode cX5_setFrom 33 = .ok (.return_, 1) := by decide +kernel
theorem dX5_isSheet_0 : decode cX5_isSheet 0 = .ok (.iload_n 0, 1) := by decide +kernel
theorem dX5_isSheet_1 : decode cX5_isSheet 1 = .ok (.ifCond .lt 12, 3) := by decide +kernel
theorem dX5_isSheet_4 : decode cX5_isSheet 4 = .ok (.iload_n 0, 1) := by decide +kernel
theorem dX5_isSheet_5 : decode cX5_isSheet 5 = .ok (.iconst 4, 1) := by decide +kernel
theorem dX5_isSheet_6 : decode cX5_isSheet 6 = .ok (.if_icmp .ge 7, 3) := by decide +kernel
theorem dX5_isSheet_9 : decode cX5_isSheet 9 = .ok (.iconst 1, 1) := by decide +kernel
theorem dX5_isSheet_10 : decode cX5_isSheet 10 = .ok (.goto 4, 3) := by decide +kernel
theorem dX5_isSheet_13 : decode cX5_isSheet 13 = .ok (.iconst 0, 1) := by decide +kernel
theorem dX5_isSheet_14 : decode cX5_isSheet 14 = .ok (.ireturn, 1) := by decide +kernel
theorem dX5_isLane_0 : decode cX5_isLane 0 = .ok (.iload_n 0, 1) := by decide +kernel
theorem dX5_isLane_1 : decode cX5_isLane 1 = .ok (.ifCond .lt 12, 3) := by decide +kernel
theorem dX5_isLane_4 : decode cX5_isLane 4 = .ok (.iload_n 0, 1) := by decide +kernel
theorem dX5_isLane_5 : decode cX5_isLane 5 = .ok (.iconst 3, 1) := by decide +kernel
theorem dX5_isLane_6 : decode cX5_isLane 6 = .ok (.if_icmp .ge 7, 3) := by decide +kernel
theorem dX5_isLane_9 : decode cX5_isLane 9 = .ok (.iconst 1, 1) := by decide +kernel
theorem dX5_isLane_10 : decode cX5_isLane 10 = .ok (.goto 4, 3) := by decide +kernel
theorem dX5_isLane_13 : decode cX5_isLane 13 = .ok (.iconst 0, 1) := by decide +kernel
theorem dX5_isLane_14 : decode cX5_isLane 14 = .ok (.ireturn, 1) := by decide +kernel
theorem dX5_reduce_0 : decode cX5_reduce 0 = .ok (.iload_n 1, 1) := by decide +kernel
theorem dX5_reduce_1 : decode cX5_reduce 1 = .ok (.iconst 1, 1) := by decide +kernel
theorem dX5_reduce_2 : decode cX5_reduce 2 = .ok (.if_icmp .ge 5, 3) := by decide +kernel
theorem dX5_reduce_5 : decode cX5_reduce 5 = .ok (.iconst 0, 1) := by decide +kernel
theorem dX5_reduce_6 : decode cX5_reduce 6 = .ok (.ireturn, 1) := by decide +kernel
theorem dX5_reduce_7 : decode cX5_reduce 7 = .ok (.iload_n 0, 1) := by decide +kernel
theorem dX5_reduce_8 : decode cX5_reduce 8 = .ok (.iload_n 1, 1) := by decide +kernel
theorem dX5_reduce_9 : decode cX5_reduce 9 = .ok (.irem, 1) := by decide +kernel
theorem dX5_reduce_10 : decode cX5_reduce 10 = .ok (.istore_n 2, 1) := by decide +kernel
theorem dX5_reduce_11 : decode cX5_reduce 11 = .ok (.iload_n 2, 1) := by decide +kernel
theorem dX5_reduce_12 : decode cX5_reduce 12 = .ok (.ifCond .ge 9, 3) := by decide +kernel
theorem dX5_reduce_15 : decode cX5_reduce 15 = .ok (.iload_n 2, 1) := by decide +kernel
theorem dX5_reduce_16 : decode cX5_reduce 16 = .ok (.iload_n 1, 1) := by decide +kernel
theorem dX5_reduce_17 : decode cX5_reduce 17 = .ok (.iadd, 1) := by decide +kernel
theorem dX5_reduce_18 : decode cX5_reduce 18 = .ok (.goto 4, 3) := by decide +kernel
theorem dX5_reduce_21 : decode cX5_reduce 21 = .ok (.iload_n 2, 1) := by decide +kernel
theorem dX5_reduce_22 : decode cX5_reduce 22 = .ok (.ireturn, 1) := by decide +kernel
