theorem dX5_init_0 : decode cX5_init 0 = .ok (.aload_n 0, 1) := by decide +kernel
theorem dX5_init_1 : decode cX5_init 1 = .ok (.invokespecial 1, 3) := by decide +kernel
theorem dX5_init_4 : decode cX5_init 4 = .ok (.aload_n 0, 1) := by decide +kernel
theorem dX5_init_5 : decode cX5_init 5 = .ok (.new 7, 3) := by decide +kernel
theorem dX5_init_8 : decode cX5_init 8 = .ok (.dup, 1) := by decide +kernel
theorem dX5_init_9 : decode cX5_init 9 = .ok (.invokespecial 9, 3) := by decide +kernel
theorem dX5_init_12 : decode cX5_init 12 = .ok (.putfield 10, 3) := by decide +kernel
theorem dX5_init_15 : decode cX5_init 15 = .ok (.aload_n 0, 1) := by decide +kernel
theorem dX5_init_16 : decode cX5_init 16 = .ok (.new 16, 3) := by decide +kernel
theorem dX5_init_19 : decode cX5_init 19 = .ok (.dup, 1) := by decide +kernel
theorem dX5_init_20 : decode cX5_init 20 = .ok (.invokespecial 18, 3) := by decide +kernel
theorem dX5_init_23 : decode cX5_init 23 = .ok (.putfield 19, 3) := by decide +kernel
theorem dX5_init_26 : decode cX5_init 26 = .ok (.aload_n 0, 1) := by decide +kernel
theorem dX5_init_27 : decode cX5_init 27 = .ok (.iconst 2, 1) := by decide +kernel
theorem dX5_init_28 : decode cX5_init 28 = .ok (.anewarray 16, 3) := by decide +kernel
theorem dX5_init_31 : decode cX5_init 31 = .ok (.putfield 23, 3) := by decide +kernel
theorem dX5_init_34 : decode cX5_init 34 = .ok (.iconst 0, 1) := by decide +kernel
theorem dX5_init_35 : decode cX5_init 35 = .ok (.istore_n 1, 1) := by decide +kernel
theorem dX5_init_36 : decode cX5_init 36 = .ok (.iload_n 1, 1) := by decide +kernel
theorem dX5_init_37 : decode cX5_init 37 = .ok (.iconst 2, 1) := by decide +kernel
theorem dX5_init_38 : decode cX5_init 38 = .ok (.if_icmp .ge 22, 3) := by decide +kernel
theorem dX5_init_41 : decode cX5_init 41 = .ok (.aload_n 0, 1) := by decide +kernel
theorem dX5_init_42 : decode cX5_init 42 = .ok (.getfield 23, 3) := by decide +kernel
theorem dX5_init_45 : decode cX5_init 45 = .ok (.iload_n 1, 1) := by decide +kernel
theorem dX5_init_46 : decode cX5_init 46 = .ok (.new 16, 3) := by decide +kernel
theorem dX5_init_49 : decode cX5_init 49 = .ok (.dup, 1) := by decide +kernel
theorem dX5_init_50 : decode cX5_init 50 = .ok (.invokespecial 18, 3) := by decide +kernel
theorem dX5_init_53 : decode cX5_init 53 = .ok (.aastore, 1) := by decide +kernel
theorem dX5_init_54 : decode cX5_init 54 = .ok (.iinc 1 1, 3) := by decide +kernel
theorem dX5_init_57 : decode cX5_init 57 = .ok (.goto (-21), 3) := by decide +kernel
theorem dX5_init_60 : decode cX5_init 60 = .ok (.aload_n 0, 1) := by decide +kernel
theorem dX5_init_61 : decode cX5_init 61 = .ok (.iconst 2, 1) := by decide +kernel
theorem dX5_init_62 : decode cX5_init 62 = .ok (.newarray .boolean, 2) := by decide +kernel
theorem dX5_init_64 : decode cX5_init 64 = .ok (.putfield 27, 3) := by decide +kernel
theorem dX5_init_67 : decode cX5_init 67 = .ok (.aload_n 0, 1) := by decide +kernel
theorem dX5_init_68 : decode cX5_init 68 = .ok (.iconst 4, 1) := by decide +kernel
theorem dX5_init_69 : decode cX5_init 69 = .ok (.anewarray 31, 3) := by decide +kernel
theorem dX5_init_72 : decode cX5_init 72 = .ok (.putfield 33, 3) := by decide +kernel
theorem dX5_init_75 : decode cX5_init 75 = .ok (.iconst 0, 1) := by decide +kernel
theorem dX5_init_76 : decode cX5_init 76 = .ok (.istore_n 1, 1) := by decide +kernel
theorem dX5_init_77 : decode cX5_init 77 = .ok (.iload_n 1, 1) := by decide +kernel
theorem dX5_init_78 : decode cX5_init 78 = .ok (.iconst 4, 1) := by decide +kernel
theorem dX5_init_79 : decode cX5_init 79 = .ok (.if_icmp .ge 22, 3) := by decide +kernel
theorem dX5_init_82 : decode cX5_init 82 = .ok (.aload_n 0, 1) := by decide +kernel
theorem dX5_init_83 : decode cX5_init 83 = .ok (.getfield 33, 3) := by decide +kernel
theorem dX5_init_86 : decode cX5_init 86 = .ok (.iload_n 1, 1) := by decide +kernel
theorem dX5_init_87 : decode cX5_init 87 = .ok (.new 31, 3) := by decide +kernel
theorem dX5_init_90 : decode cX5_init 90 = .ok (.dup, 1) := by decide +kernel
theorem dX5_init_91 : decode cX5_init 91 = .ok (.invokespecial 37, 3) := by decide +kernel
theorem dX5_init_94 : decode cX5_init 94 = .ok (.aastore, 1) := by decide +kernel
theorem dX5_init_95 : decode cX5_init 95 = .ok (.iinc 1 1, 3) := by decide +kernel
theorem dX5_init_98 : decode cX5_init 98 = .ok (.goto (-21), 3) := by decide +kernel
theorem dX5_init_101 : decode cX5_init 101 = .ok (.aload_n 0, 1) := by decide +kernel
theorem dX5_init_102 : decode cX5_init 102 = .ok (.new 38, 3) := by decide +kernel
theorem dX5_init_105 : decode cX5_init 105 = .ok (.dup, 1) := by decide +kernel
theorem dX5_init_106 : decode cX5_init 106 = .ok (.invokespecial 40, 3) := by decide +kernel
theorem dX5_init_109 : decode cX5_init 109 = .ok (.putfield 41, 3) := by decide +kernel
theorem dX5_init_112 : decode cX5_init 112 = .ok (.aload_n 0, 1) := by decide +kernel
theorem dX5_init_113 : decode cX5_init 113 = .ok (.bipush 45, 2) := by decide +kernel
theorem dX5_init_115 : decode cX5_init 115 = .ok (.newarray .int, 2) := by decide +kernel
theorem dX5_init_117 : decode cX5_init 117 = .ok (.putfield 45, 3) := by decide +kernel
theorem dX5_init_120 : decode cX5_init 120 = .ok (.aload_n 0, 1) := by decide +kernel
theorem dX5_init_121 : decode cX5_init 121 = .ok (.bipush 45, 2) := by decide +kernel
theorem dX5_init_123 : decode cX5_init 123 = .ok (.newarray .int, 2) := by decide +kernel
theorem dX5_init_125 : decode cX5_init 125 = .ok (.putfield 49, 3) := by decide +kernel
theorem dX5_init_128 : decode cX5_init 128 = .ok (.return_, 1) := by decide +kernel
theorem dX5_feed_0 : decode cX5_feed 0 = .ok (.iload_n 1, 1) := by decide +kernel
theorem dX5_feed_1 : decode cX5_feed 1 = .ok (.ifCond .lt 9, 3) := by decide +kernel
theorem dX5_feed_4 : decode cX5_feed 4 = .ok (.iload_n 1, 1) := by decide +kernel
theorem dX5_feed_5 : decode cX5_feed 5 = .ok (.bipush 127, 2) := by decide +kernel
theorem dX5_feed_7 : decode cX5_feed 7 = .ok (.if_icmp .le 5, 3) := by decide +kernel
theorem dX5_feed_10 : decode cX5_feed 10 = .ok (.iconst (-1), 1) := by decide +kernel
theorem dX5_feed_11 : decode cX5_feed 11 = .ok (.ireturn, 1) := by decide +kernel
theorem dX5_feed_12 : decode cX5_feed 12 = .ok (.aload_n 0, 1) := by decide +kernel
theorem dX5_feed_13 : decode cX5_feed 13 = .ok (.getfield 10, 3) := by decide +kernel
theorem dX5_feed_16 : decode cX5_feed 16 = .ok (.iload_n 1, 1) := by decide +kernel
theorem dX5_feed_17 : decode cX5_feed 17 = .ok (.invokevirtual 52, 3) := by decide +kernel
theorem dX5_feed_20 : decode cX5_feed 20 = .ok (.ifCond .eq 13, 3) := by decide +kernel
theorem dX5_feed_23 : decode cX5_feed 23 = .ok (.aload_n 0, 1) := by decide +kernel
theorem dX5_feed_24 : decode cX5_feed 24 = .ok (.getfield 10, 3) := by decide +kernel
theorem dX5_feed_27 : decode cX5_feed 27 = .ok (.getfield 56, 3) := by decide +kernel
theorem dX5_feed_30 : decode cX5_feed 30 = .ok (.goto 5, 3) := by decide +kernel
theorem dX5_feed_33 : decode cX5_feed 33 = .ok (.bipush (-3), 2) := by decide +kernel
theorem dX5_feed_35 : decode cX5_feed 35 = .ok (.ireturn, 1) := by decide +kernel
theorem dX5_end_0 : decode cX5_end 0 = .ok (.iload_n 1, 1) := by decide +kernel
theorem dX5_end_1 : decode cX5_end 1 = .ok (.ifCond .lt 14, 3) := by decide +kernel
theorem dX5_end_4 : decode cX5_end 4 = .ok (.iload_n 1, 1) := by decide +kernel
theorem dX5_end_5 : decode cX5_end 5 = .ok (.aload_n 0, 1) := by decide +kernel
theorem dX5_end_6 : decode cX5_end 6 = .ok (.getfield 10, 3) := by decide +kernel
theorem dX5_end_9 : decode cX5_end 9 = .ok (.getfield 56, 3) := by decide +kernel
theorem dX5_end_12 : decode cX5_end 12 = .ok (.if_icmp .le 5, 3) := by decide +kernel
theorem dX5_end_15 : decode cX5_end 15 = .ok (.iconst (-1), 1) := by decide +kernel
theorem dX5_end_16 : decode cX5_end 16 = .ok (.ireturn, 1) := by decide +kernel
theorem dX5_end_17 : decode cX5_end 17 = .ok (.aload_n 0, 1) := by decide +kernel
theorem dX5_end_18 : decode cX5_end 18 = .ok (.getfield 10, 3) := by decide +kernel
theorem dX5_end_21 : decode cX5_end 21 = .ok (.getfield 56, 3) := by decide +kernel
theorem dX5_end_24 : decode cX5_end 24 = .ok (.istore_n 2, 1) := by decide +kernel
theorem dX5_end_25 : decode cX5_end 25 = .ok (.aload_n 0, 1) := by decide +kernel
theorem dX5_end_26 : decode cX5_end 26 = .ok (.getfield 10, 3) := by decide +kernel
theorem dX5_end_29 : decode cX5_end 29 = .ok (.iload_n 1, 1) := by decide +kernel
theorem dX5_end_30 : decode cX5_end 30 = .ok (.putfield 56, 3) := by decide +kernel
theorem dX5_end_33 : decode cX5_end 33 = .ok (.iload_n 2, 1) := by decide +kernel
theorem dX5_end_34 : decode cX5_end 34 = .ok (.ireturn, 1) := by decide +kernel
theorem dX5_text_0 : decode cX5_text 0 = .ok (.aload_n 0, 1) := by decide +kernel
theorem dX5_text_1 : decode cX5_text 1 = .ok (.getfield 10, 3) := by decide +kernel
theorem dX5_text_4 : decode cX5_text 4 = .ok (.invokevirtual 60, 3) := by decide +kernel
theorem dX5_text_7 : decode cX5_text 7 = .ok (.aload_n 0, 1) := by decide +kernel
theorem dX5_text_8 : decode cX5_text 8 = .ok (.getfield 10, 3) := by decide +kernel
theorem dX5_text_11 : decode cX5_text 11 = .ok (.iconst 0, 1) := by decide +kernel
theorem dX5_text_12 : decode cX5_text 12 = .ok (.putfield 56, 3) := by decide +kernel
theorem dX5_text_15 : decode cX5_text 15 = .ok (.aload_n 0, 1) := by decide +kernel
theorem dX5_text_16 : decode cX5_text 16 = .ok (.aload_n 0, 1) := by decide +kernel
theorem dX5_text_17 : decode cX5_text 17 = .ok (.getfield 10, 3) := by decide +kernel
theorem dX5_text_20 : decode cX5_text 20 = .ok (.getfield 63, 3) := by decide +kernel
theorem dX5_text_23 : decode cX5_text 23 = .ok (.putfield 66, 3) := by decide +kernel
theorem dX5_text_26 : decode cX5_text 26 = .ok (.aload_n 0, 1) := by decide +kernel
theorem dX5_text_27 : decode cX5_text 27 = .ok (.getfield 66, 3) := by decide +kernel
theorem dX5_text_30 : decode cX5_text 30 = .ok (.ifCond .eq 14, 3) := by decide +kernel
theorem dX5_text_33 : decode cX5_text 33 = .ok (.bipush (-10), 2) := by decide +kernel
theorem dX5_text_35 : decode cX5_text 35 = .ok (.aload_n 0, 1) := by decide +kernel
theorem dX5_text_36 : decode cX5_text 36 = .ok (.getfield 10, 3) := by decide +kernel
theorem dX5_text_39 : decode cX5_text 39 = .ok (.getfield 69, 3) := by decide +kernel
theorem dX5_text_42 : decode cX5_text 42 = .ok (.isub, 1) := by decide +kernel
theorem dX5_text_43 : decode cX5_text 43 = .ok (.ireturn, 1) := by decide +kernel
theorem dX5_text_44 : decode cX5_text 44 = .ok (.aload_n 0, 1) := by decide +kernel
theorem dX5_text_45 : decode cX5_text 45 = .ok (.getfield 19, 3) := by decide +kernel
theorem dX5_text_48 : decode cX5_text 48 = .ok (.aload_n 0, 1) := by decide +kernel
theorem dX5_text_49 : decode cX5_text 49 = .ok (.getfield 10, 3) := by decide +kernel
theorem dX5_text_52 : decode cX5_text 52 = .ok (.getfield 72, 3) := by decide +kernel
theorem dX5_text_55 : decode cX5_text 55 = .ok (.invokevirtual 75, 3) := by decide +kernel
theorem dX5_text_58 : decode cX5_text 58 = .ok (.iconst 0, 1) := by decide +kernel
theorem dX5_text_59 : decode cX5_text 59 = .ok (.istore_n 1, 1) := by decide +kernel
theorem dX5_text_60 : decode cX5_text 60 = .ok (.iload_n 1, 1) := by decide +kernel
theorem dX5_text_61 : decode cX5_text 61 = .ok (.iconst 2, 1) := by decide +kernel
theorem dX5_text_62 : decode cX5_text 62 = .ok (.if_icmp .ge 16, 3) := by decide +kernel
theorem dX5_text_65 : decode cX5_text 65 = .ok (.aload_n 0, 1) := by decide +kernel
theorem dX5_text_66 : decode cX5_text 66 = .ok (.getfield 27, 3) := by decide +kernel
theorem dX5_text_69 : decode cX5_text 69 = .ok (.iload_n 1, 1) := by decide +kernel
theorem dX5_text_70 : decode cX5_text 70 = .ok (.iconst 0, 1) := by decide +kernel
theorem dX5_text_71 : decode cX5_text 71 = .ok (.bastore, 1) := by decide +kernel
theorem dX5_text_72 : decode cX5_text 72 = .ok (.iinc 1 1, 3) := by decide +kernel
theorem dX5_text_75 : decode cX5_text 75 = .ok (.goto (-15), 3) := by decide +kernel
theorem dX5_text_78 : decode cX5_text 78 = .ok (.aload_n 0, 1) := by decide +kernel
theorem dX5_text_79 : decode cX5_text 79 = .ok (.getfield 10, 3) := by decide +kernel
theorem dX5_text_82 : decode cX5_text 82 = .ok (.getfield 79, 3) := by decide +kernel
theorem dX5_text_85 : decode cX5_text 85 = .ok (.ireturn, 1) := by decide +kernel
theorem dX5_fault_0 : decode cX5_fault 0 = .ok (.aload_n 0, 1) := by decide +kernel
theorem dX5_fault_1 : decode cX5_fault 1 = .ok (.getfield 66, 3) := by decide +kernel
theorem dX5_fault_4 : decode cX5_fault 4 = .ok (.ireturn, 1) := by decide +kernel
theorem dX5_rule_0 : decode cX5_rule 0 = .ok (.iload_n 1, 1) := by decide +kernel
theorem dX5_rule_1 : decode cX5_rule 1 = .ok (.tableswitch 183 0 7 #[47, 55, 63, 71, 83, 95, 121, 143], 47) := by decide +kernel
theorem dX5_rule_48 : decode cX5_rule 48 = .ok (.aload_n 0, 1) := by decide +kernel
theorem dX5_rule_49 : decode cX5_rule 49 = .ok (.getfield 19, 3) := by decide +kernel
theorem dX5_rule_52 : decode cX5_rule 52 = .ok (.getfield 82, 3) := by decide +kernel
theorem dX5_rule_55 : decode cX5_rule 55 = .ok (.ireturn, 1) := by decide +kernel
theorem dX5_rule_56 : decode cX5_rule 56 = .ok (.aload_n 0, 1) := by decide +kernel
theorem dX5_rule_57 : decode cX5_rule 57 = .ok (.getfield 19, 3) := by decide +kernel
theorem dX5_rule_60 : decode cX5_rule 60 = .ok (.getfield 85, 3) := by decide +kernel
theorem dX5_rule_63 : decode cX5_rule 63 = .ok (.ireturn, 1) := by decide +kernel
theorem dX5_rule_64 : decode cX5_rule 64 = .ok (.aload_n 0, 1) := by decide +kernel
theorem dX5_rule_65 : decode cX5_rule 65 = .ok (.getfield 19, 3) := by decide +kernel
theorem dX5_rule_68 : decode cX5_rule 68 = .ok (.getfield 88, 3) := by decide +kernel
theorem dX5_rule_71 : decode cX5_rule 71 = .ok (.ireturn, 1) := by decide +kernel
theorem dX5_rule_72 : decode cX5_rule 72 = .ok (.aload_n 0, 1) := by decide +kernel
theorem dX5_rule_73 : decode cX5_rule 73 = .ok (.getfield 41, 3) := by decide +kernel
theorem dX5_rule_76 : decode cX5_rule 76 = .ok (.aload_n 0, 1) := by decide +kernel
theorem dX5_rule_77 : decode cX5_rule 77 = .ok (.getfield 19, 3) := by decide +kernel
theorem dX5_rule_80 : decode cX5_rule 80 = .ok (.invokevirtual 91, 3) := by decide +kernel
theorem dX5_rule_83 : decode cX5_rule 83 = .ok (.ireturn, 1) := by decide +kernel
theorem dX5_rule_84 : decode cX5_rule 84 = .ok (.aload_n 0, 1) := by decide +kernel
theorem dX5_rule_85 : decode cX5_rule 85 = .ok (.getfield 41, 3) := by decide +kernel
theorem dX5_rule_88 : decode cX5_rule 88 = .ok (.aload_n 0, 1) := by decide +kernel
theorem dX5_rule_89 : decode cX5_rule 89 = .ok (.getfield 19, 3) := by decide +kernel
theorem dX5_rule_92 : decode cX5_rule 92 = .ok (.invokevirtual 95, 3) := by decide +kernel
theorem dX5_rule_95 : decode cX5_rule 95 = .ok (.ireturn, 1) := by decide +kernel
theorem dX5_rule_96 : decode cX5_rule 96 = .ok (.aload_n 0, 1) := by decide +kernel
theorem dX5_rule_97 : decode cX5_rule 97 = .ok (.getfield 41, 3) := by decide +kernel
theorem dX5_rule_100 : decode cX5_rule 100 = .ok (.aload_n 0, 1) := by decide +kernel
theorem dX5_rule_101 : decode cX5_rule 101 = .ok (.getfield 19, 3) := by decide +kernel
theorem dX5_rule_104 : decode cX5_rule 104 = .ok (.aload_n 0, 1) := by decide +kernel
theorem dX5_rule_105 : decode cX5_rule 105 = .ok (.getfield 19, 3) := by decide +kernel
theorem dX5_rule_108 : decode cX5_rule 108 = .ok (.getfield 88, 3) := by decide +kernel
theorem dX5_rule_111 : decode cX5_rule 111 = .ok (.aload_n 0, 1) := by decide +kernel
theorem dX5_rule_112 : decode cX5_rule 112 = .ok (.getfield 19, 3) := by decide +kernel
theorem dX5_rule_115 : decode cX5_rule 115 = .ok (.getfield 88, 3) := by decide +kernel
theorem dX5_rule_118 : decode cX5_rule 118 = .ok (.invokevirtual 98, 3) := by decide +kernel
theorem dX5_rule_121 : decode cX5_rule 121 = .ok (.ireturn, 1) := by decide +kernel
theorem dX5_rule_122 : decode cX5_rule 122 = .ok (.aload_n 0, 1) := by decide +kernel
theorem dX5_rule_123 : decode cX5_rule 123 = .ok (.getfield 41, 3) := by decide +kernel
theorem dX5_rule_126 : decode cX5_rule 126 = .ok (.aload_n 0, 1) := by decide +kernel
theorem dX5_rule_127 : decode cX5_rule 127 = .ok (.getfield 19, 3) := by decide +kernel
theorem dX5_rule_130 : decode cX5_rule 130 = .ok (.iconst 0, 1) := by decide +kernel
theorem dX5_rule_131 : decode cX5_rule 131 = .ok (.aload_n 0, 1) := by decide +kernel
theorem dX5_rule_132 : decode cX5_rule 132 = .ok (.getfield 19, 3) := by decide +kernel
theorem dX5_rule_135 : decode cX5_rule 135 = .ok (.getfield 88, 3) := by decide +kernel
theorem dX5_rule_138 : decode cX5_rule 138 = .ok (.iconst 1, 1) := by decide +kernel
theorem dX5_rule_139 : decode cX5_rule 139 = .ok (.isub, 1) := by decide +kernel
theorem dX5_rule_140 : decode cX5_rule 140 = .ok (.invokevirtual 98, 3) := by decide +kernel
theorem dX5_rule_143 : decode cX5_rule 143 = .ok (.ireturn, 1) := by decide +kernel
theorem dX5_rule_144 : decode cX5_rule 144 = .ok (.aload_n 0, 1) := by decide +kernel
theorem dX5_rule_145 : decode cX5_rule 145 = .ok (.getfield 19, 3) := by decide +kernel
theorem dX5_rule_148 : decode cX5_rule 148 = .ok (.getfield 85, 3) := by decide +kernel
theorem dX5_rule_151 : decode cX5_rule 151 = .ok (.aload_n 0, 1) := by decide +kernel
theorem dX5_rule_152 : decode cX5_rule 152 = .ok (.getfield 41, 3) := by decide +kernel
theorem dX5_rule_155 : decode cX5_rule 155 = .ok (.aload_n 0, 1) := by decide +kernel
theorem dX5_rule_156 : decode cX5_rule 156 = .ok (.getfield 19, 3) := by decide +kernel
theorem dX5_rule_159 : decode cX5_rule 159 = .ok (.invokevirtual 102, 3) := by decide +kernel
theorem dX5_rule_162 : decode cX5_rule 162 = .ok (.isub, 1) := by decide +kernel
theorem dX5_rule_163 : decode cX5_rule 163 = .ok (.aload_n 0, 1) := by decide +kernel
theorem dX5_rule_164 : decode cX5_rule 164 = .ok (.getfield 41, 3) := by decide +kernel
theorem dX5_rule_167 : decode cX5_rule 167 = .ok (.aload_n 0, 1) := by decide +kernel
theorem dX5_rule_168 : decode cX5_rule 168 = .ok (.getfield 19, 3) := by decide +kernel
theorem dX5_rule_171 : decode cX5_rule 171 = .ok (.iconst 0, 1) := by decide +kernel
theorem dX5_rule_172 : decode cX5_rule 172 = .ok (.aload_n 0, 1) := by decide +kernel
theorem dX5_rule_173 : decode cX5_rule 173 = .ok (.getfield 19, 3) := by decide +kernel
theorem dX5_rule_176 : decode cX5_rule 176 = .ok (.getfield 88, 3) := by decide +kernel
theorem dX5_rule_179 : decode cX5_rule 179 = .ok (.invokevirtual 98, 3) := by decide +kernel
theorem dX5_rule_182 : decode cX5_rule 182 = .ok (.isub, 1) := by decide +kernel
theorem dX5_rule_183 : decode cX5_rule 183 = .ok (.ireturn, 1) := by decide +kernel
theorem dX5_rule_184 : decode cX5_rule 184 = .ok (.iconst (-1), 1) := by decide +kernel
theorem dX5_rule_185 : decode cX5_rule 185 = .ok (.ireturn, 1) := by decide +kernel
theorem dX5_cell_0 : decode cX5_cell 0 = .ok (.aload_n 0, 1) := by decide +kernel
theorem dX5_cell_1 : decode cX5_cell 1 = .ok (.getfield 19, 3) := by decide +kernel
theorem dX5_cell_4 : decode cX5_cell 4 = .ok (.iload_n 1, 1) := by decide +kernel
theorem dX5_cell_5 : decode cX5_cell 5 = .ok (.iload_n 2, 1) := by decide +kernel
theorem dX5_cell_6 : decode cX5_cell 6 = .ok (.iload_n 3, 1) := by decide +kernel
theorem dX5_cell_7 : decode cX5_cell 7 = .ok (.invokevirtual 105, 3) := by decide +kernel
theorem dX5_cell_10 : decode cX5_cell 10 = .ok (.ifCond .eq 16, 3) := by decide +kernel
theorem dX5_cell_13 : decode cX5_cell 13 = .ok (.aload_n 0, 1) := by decide +kernel
theorem dX5_cell_14 : decode cX5_cell 14 = .ok (.getfield 19, 3) := by decide +kernel
theorem dX5_cell_17 : decode cX5_cell 17 = .ok (.iload_n 1, 1) := by decide +kernel
theorem dX5_cell_18 : decode cX5_cell 18 = .ok (.iload_n 2, 1) := by decide +kernel
theorem dX5_cell_19 : decode cX5_cell 19 = .ok (.iload_n 3, 1) := by decide +kernel
theorem dX5_cell_20 : decode cX5_cell 20 = .ok (.invokevirtual 109, 3) := by decide +kernel
theorem dX5_cell_23 : decode cX5_cell 23 = .ok (.goto 4, 3) := by decide +kernel
theorem dX5_cell_26 : decode cX5_cell 26 = .ok (.iconst (-1), 1) := by decide +kernel
theorem dX5_cell_27 : decode cX5_cell 27 = .ok (.ireturn, 1) := by decide +kernel
theorem dX5_rank_0 : decode cX5_rank 0 = .ok (.aload_n 0, 1) := by decide +kernel
theorem dX5_rank_1 : decode cX5_rank 1 = .ok (.iload_n 1, 1) := by decide +kernel
theorem dX5_rank_2 : decode cX5_rank 2 = .ok (.invokevirtual 113, 3) := by decide +kernel
theorem dX5_rank_5 : decode cX5_rank 5 = .ok (.ifCond .eq 18, 3) := by decide +kernel
theorem dX5_rank_8 : decode cX5_rank 8 = .ok (.aload_n 0, 1) := by decide +kernel
theorem dX5_rank_9 : decode cX5_rank 9 = .ok (.getfield 41, 3) := by decide +kernel
theorem dX5_rank_12 : decode cX5_rank 12 = .ok (.aload_n 0, 1) := by decide +kernel
theorem dX5_rank_13 : decode cX5_rank 13 = .ok (.getfield 19, 3) := by decide +kernel
theorem dX5_rank_16 : decode cX5_rank 16 = .ok (.iload_n 1, 1) := by decide +kernel
theorem dX5_rank_17 : decode cX5_rank 17 = .ok (.invokevirtual 116, 3) := by decide +kernel
theorem dX5_rank_20 : decode cX5_rank 20 = .ok (.goto 4, 3) := by decide +kernel
theorem dX5_rank_23 : decode cX5_rank 23 = .ok (.iconst (-1), 1) := by decide +kernel
theorem dX5_rank_24 : decode cX5_rank 24 = .ok (.ireturn, 1) := by decide +kernel
theorem dX5_nulls_0 : decode cX5_nulls 0 = .ok (.iload_n 1, 1) := by decide +kernel
theorem dX5_nulls_1 : decode cX5_nulls 1 = .ok (.invokestatic 120, 3) := by decide +kernel
theorem dX5_nulls_4 : decode cX5_nulls 4 = .ok (.ifCond .eq 18, 3) := by decide +kernel
theorem dX5_nulls_7 : decode cX5_nulls 7 = .ok (.aload_n 0, 1) := by decide +kernel
theorem dX5_nulls_8 : decode cX5_nulls 8 = .ok (.getfield 41, 3) := by decide +kernel
theorem dX5_nulls_11 : decode cX5_nulls 11 = .ok (.aload_n 0, 1) := by decide +kernel
theorem dX5_nulls_12 : decode cX5_nulls 12 = .ok (.getfield 19, 3) := by decide +kernel
theorem dX5_nulls_15 : decode cX5_nulls 15 = .ok (.iload_n 1, 1) := by decide +kernel
theorem dX5_nulls_16 : decode cX5_nulls 16 = .ok (.invokevirtual 123, 3) := by decide +kernel
theorem dX5_nulls_19 : decode cX5_nulls 19 = .ok (.goto 4, 3) := by decide +kernel
theorem dX5_nulls_22 : decode cX5_nulls 22 = .ok (.iconst (-1), 1) := by decide +kernel
theorem dX5_nulls_23 : decode cX5_nulls 23 = .ok (.ireturn, 1) := by decide +kernel
theorem dX5_col_0 : decode cX5_col 0 = .ok (.iload_n 1, 1) := by decide +kernel
theorem dX5_col_1 : decode cX5_col 1 = .ok (.ifCond .ge 7, 3) := by decide +kernel
theorem dX5_col_4 : decode cX5_col 4 = .ok (.iconst (-1), 1) := by decide +kernel
theorem dX5_col_5 : decode cX5_col 5 = .ok (.goto 15, 3) := by decide +kernel
theorem dX5_col_8 : decode cX5_col 8 = .ok (.aload_n 0, 1) := by decide +kernel
theorem dX5_col_9 : decode cX5_col 9 = .ok (.getfield 41, 3) := by decide +kernel
theorem dX5_col_12 : decode cX5_col 12 = .ok (.aload_n 0, 1) := by decide +kernel
theorem dX5_col_13 : decode cX5_col 13 = .ok (.getfield 19, 3) := by decide +kernel
theorem dX5_col_16 : decode cX5_col 16 = .ok (.iload_n 1, 1) := by decide +kernel
theorem dX5_col_17 : decode cX5_col 17 = .ok (.invokevirtual 126, 3) := by decide +kernel
theorem dX5_col_20 : decode cX5_col 20 = .ok (.ireturn, 1) := by decide +kernel
theorem dX5_row_0 : decode cX5_row 0 = .ok (.iload_n 1, 1) := by decide +kernel
theorem dX5_row_1 : decode cX5_row 1 = .ok (.ifCond .ge 7, 3) := by decide +kernel
theorem dX5_row_4 : decode cX5_row 4 = .ok (.iconst (-1), 1) := by decide +kernel
theorem dX5_row_5 : decode cX5_row 5 = .ok (.goto 15, 3) := by decide +kernel
theorem dX5_row_8 : decode cX5_row 8 = .ok (.aload_n 0, 1) := by decide +kernel
theorem dX5_row_9 : decode cX5_row 9 = .ok (.getfield 41, 3) := by decide +kernel
theorem dX5_row_12 : decode cX5_row 12 = .ok (.aload_n 0, 1) := by decide +kernel
theorem dX5_row_13 : decode cX5_row 13 = .ok (.getfield 19, 3) := by decide +kernel
theorem dX5_row_16 : decode cX5_row 16 = .ok (.iload_n 1, 1) := by decide +kernel
theorem dX5_row_17 : decode cX5_row 17 = .ok (.invokevirtual 129, 3) := by decide +kernel
theorem dX5_row_20 : decode cX5_row 20 = .ok (.ireturn, 1) := by decide +kernel
theorem dX5_chains_0 : decode cX5_chains 0 = .ok (.aload_n 0, 1) := by decide +kernel
theorem dX5_chains_1 : decode cX5_chains 1 = .ok (.iload_n 1, 1) := by decide +kernel
theorem dX5_chains_2 : decode cX5_chains 2 = .ok (.invokevirtual 113, 3) := by decide +kernel
theorem dX5_chains_5 : decode cX5_chains 5 = .ok (.ifCond .eq 26, 3) := by decide +kernel
theorem dX5_chains_8 : decode cX5_chains 8 = .ok (.iload_n 2, 1) := by decide +kernel
theorem dX5_chains_9 : decode cX5_chains 9 = .ok (.invokestatic 120, 3) := by decide +kernel
theorem dX5_chains_12 : decode cX5_chains 12 = .ok (.ifCond .eq 19, 3) := by decide +kernel
theorem dX5_chains_15 : decode cX5_chains 15 = .ok (.aload_n 0, 1) := by decide +kernel
theorem dX5_chains_16 : decode cX5_chains 16 = .ok (.getfield 41, 3) := by decide +kernel
theorem dX5_chains_19 : decode cX5_chains 19 = .ok (.aload_n 0, 1) := by decide +kernel
theorem dX5_chains_20 : decode cX5_chains 20 = .ok (.getfield 19, 3) := by decide +kernel
theorem dX5_chains_23 : decode cX5_chains 23 = .ok (.iload_n 1, 1) := by decide +kernel
theorem dX5_chains_24 : decode cX5_chains 24 = .ok (.iload_n 2, 1) := by decide +kernel
theorem dX5_chains_25 : decode cX5_chains 25 = .ok (.invokevirtual 132, 3) := by decide +kernel
theorem dX5_chains_28 : decode cX5_chains 28 = .ok (.goto 4, 3) := by decide +kernel
theorem dX5_chains_31 : decode cX5_chains 31 = .ok (.iconst (-1), 1) := by decide +kernel
theorem dX5_chains_32 : decode cX5_chains 32 = .ok (.ireturn, 1) := by decide +kernel
theorem dX5_length_0 : decode cX5_length 0 = .ok (.aload_n 0, 1) := by decide +kernel
theorem dX5_length_1 : decode cX5_length 1 = .ok (.iload_n 1, 1) := by decide +kernel
theorem dX5_length_2 : decode cX5_length 2 = .ok (.invokevirtual 113, 3) := by decide +kernel
theorem dX5_length_5 : decode cX5_length 5 = .ok (.ifCond .eq 23, 3) := by decide +kernel
theorem dX5_length_8 : decode cX5_length 8 = .ok (.iload_n 2, 1) := by decide +kernel
theorem dX5_length_9 : decode cX5_length 9 = .ok (.ifCond .lt 19, 3) := by decide +kernel
theorem dX5_length_12 : decode cX5_length 12 = .ok (.aload_n 0, 1) := by decide +kernel
theorem dX5_length_13 : decode cX5_length 13 = .ok (.getfield 41, 3) := by decide +kernel
theorem dX5_length_16 : decode cX5_length 16 = .ok (.aload_n 0, 1) := by decide +kernel
theorem dX5_length_17 : decode cX5_length 17 = .ok (.getfield 19, 3) := by decide +kernel
theorem dX5_length_20 : decode cX5_length 20 = .ok (.iload_n 1, 1) := by decide +kernel
theorem dX5_length_21 : decode cX5_length 21 = .ok (.iload_n 2, 1) := by decide +kernel
theorem dX5_length_22 : decode cX5_length 22 = .ok (.invokevirtual 135, 3) := by decide +kernel
theorem dX5_length_25 : decode cX5_length 25 = .ok (.goto 4, 3) := by decide +kernel
theorem dX5_length_28 : decode cX5_length 28 = .ok (.iconst (-1), 1) := by decide +kernel
theorem dX5_length_29 : decode cX5_length 29 = .ok (.ireturn, 1) := by decide +kernel
theorem dX5_steps_0 : decode cX5_steps 0 = .ok (.iload_n 1, 1) := by decide +kernel
theorem dX5_steps_1 : decode cX5_steps 1 = .ok (.invokestatic 120, 3) := by decide +kernel
theorem dX5_steps_4 : decode cX5_steps 4 = .ok (.ifCond .eq 10, 3) := by decide +kernel
theorem dX5_steps_7 : decode cX5_steps 7 = .ok (.iload_n 2, 1) := by decide +kernel
theorem dX5_steps_8 : decode cX5_steps 8 = .ok (.invokestatic 138, 3) := by decide +kernel
theorem dX5_steps_11 : decode cX5_steps 11 = .ok (.ifCond .ne 5, 3) := by decide +kernel
theorem dX5_steps_14 : decode cX5_steps 14 = .ok (.iconst (-1), 1) := by decide +kernel
theorem dX5_steps_15 : decode cX5_steps 15 = .ok (.ireturn, 1) := by decide +kernel
theorem dX5_steps_16 : decode cX5_steps 16 = .ok (.iload_n 2, 1) := by decide +kernel
theorem dX5_steps_17 : decode cX5_steps 17 = .ok (.ifCond .ne 18, 3) := by decide +kernel
theorem dX5_steps_20 : decode cX5_steps 20 = .ok (.aload_n 0, 1) := by decide +kernel
theorem dX5_steps_21 : decode cX5_steps 21 = .ok (.getfield 41, 3) := by decide +kernel
theorem dX5_steps_24 : decode cX5_steps 24 = .ok (.aload_n 0, 1) := by decide +kernel
theorem dX5_steps_25 : decode cX5_steps 25 = .ok (.getfield 19, 3) := by decide +kernel
theorem dX5_steps_28 : decode cX5_steps 28 = .ok (.iload_n 1, 1) := by decide +kernel
theorem dX5_steps_29 : decode cX5_steps 29 = .ok (.invokevirtual 141, 3) := by decide +kernel
theorem dX5_steps_32 : decode cX5_steps 32 = .ok (.goto 15, 3) := by decide +kernel
theorem dX5_steps_35 : decode cX5_steps 35 = .ok (.aload_n 0, 1) := by decide +kernel
theorem dX5_steps_36 : decode cX5_steps 36 = .ok (.getfield 41, 3) := by decide +kernel
theorem dX5_steps_39 : decode cX5_steps 39 = .ok (.aload_n 0, 1) := by decide +kernel
theorem dX5_steps_40 : decode cX5_steps 40 = .ok (.getfield 19, 3) := by decide +kernel
theorem dX5_steps_43 : decode cX5_steps 43 = .ok (.iload_n 1, 1) := by decide +kernel
theorem dX5_steps_44 : decode cX5_steps 44 = .ok (.invokevirtual 144, 3) := by decide +kernel
theorem dX5_steps_47 : decode cX5_steps 47 = .ok (.ireturn, 1) := by decide +kernel
theorem dX5_go_0 : decode cX5_go 0 = .ok (.iload_n 2, 1) := by decide +kernel
theorem dX5_go_1 : decode cX5_go 1 = .ok (.invokestatic 120, 3) := by decide +kernel
theorem dX5_go_4 : decode cX5_go 4 = .ok (.ifCond .eq 18, 3) := by decide +kernel
theorem dX5_go_7 : decode cX5_go 7 = .ok (.aload_n 0, 1) := by decide +kernel
theorem dX5_go_8 : decode cX5_go 8 = .ok (.getfield 41, 3) := by decide +kernel
theorem dX5_go_11 : decode cX5_go 11 = .ok (.aload_n 0, 1) := by decide +kernel
theorem dX5_go_12 : decode cX5_go 12 = .ok (.getfield 19, 3) := by decide +kernel
theorem dX5_go_15 : decode cX5_go 15 = .ok (.iload_n 1, 1) := by decide +kernel
theorem dX5_go_16 : decode cX5_go 16 = .ok (.invokevirtual 147, 3) := by decide +kernel
theorem dX5_go_19 : decode cX5_go 19 = .ok (.ifCond .ne 5, 3) := by decide +kernel
theorem dX5_go_22 : decode cX5_go 22 = .ok (.iconst (-1), 1) := by decide +kernel
theorem dX5_go_23 : decode cX5_go 23 = .ok (.ireturn, 1) := by decide +kernel
theorem dX5_go_24 : decode cX5_go 24 = .ok (.aload_n 0, 1) := by decide +kernel
theorem dX5_go_25 : decode cX5_go 25 = .ok (.getfield 41, 3) := by decide +kernel
theorem dX5_go_28 : decode cX5_go 28 = .ok (.aload_n 0, 1) := by decide +kernel
theorem dX5_go_29 : decode cX5_go 29 = .ok (.getfield 19, 3) := by decide +kernel
theorem dX5_go_32 : decode cX5_go 32 = .ok (.iload_n 2, 1) := by decide +kernel
theorem dX5_go_33 : decode cX5_go 33 = .ok (.invokevirtual 151, 3) := by decide +kernel
theorem dX5_go_36 : decode cX5_go 36 = .ok (.ifCond .eq 7, 3) := by decide +kernel
theorem dX5_go_39 : decode cX5_go 39 = .ok (.iconst 1, 1) := by decide +kernel
theorem dX5_go_40 : decode cX5_go 40 = .ok (.goto 4, 3) := by decide +kernel
theorem dX5_go_43 : decode cX5_go 43 = .ok (.iconst 0, 1) := by decide +kernel
theorem dX5_go_44 : decode cX5_go 44 = .ok (.ireturn, 1) := by decide +kernel
theorem dX5_isX_0 : decode cX5_isX 0 = .ok (.iload_n 1, 1) := by decide +kernel
theorem dX5_isX_1 : decode cX5_isX 1 = .ok (.ifCond .lt 18, 3) := by decide +kernel
theorem dX5_isX_4 : decode cX5_isX 4 = .ok (.iload_n 1, 1) := by decide +kernel
theorem dX5_isX_5 : decode cX5_isX 5 = .ok (.aload_n 0, 1) := by decide +kernel
theorem dX5_isX_6 : decode cX5_isX 6 = .ok (.getfield 19, 3) := by decide +kernel
theorem dX5_isX_9 : decode cX5_isX 9 = .ok (.getfield 88, 3) := by decide +kernel
theorem dX5_isX_12 : decode cX5_isX 12 = .ok (.if_icmp .gt 7, 3) := by decide +kernel
theorem dX5_isX_15 : decode cX5_isX 15 = .ok (.iconst 1, 1) := by decide +kernel
theorem dX5_isX_16 : decode cX5_isX 16 = .ok (.goto 4, 3) := by decide +kernel
theorem dX5_isX_19 : decode cX5_isX 19 = .ok (.iconst 0, 1) := by decide +kernel
theorem dX5_isX_20 : decode cX5_isX 20 = .ok (.ireturn, 1) := by decide +kernel
theorem dX5_isStepCount_0 : decode cX5_isStepCount 0 = .ok (.iload_n 0, 1) := by decide +kernel
theorem dX5_isStepCount_1 : decode cX5_isStepCount 1 = .ok (.ifCond .lt 12, 3) := by decide +kernel
theorem dX5_isStepCount_4 : decode cX5_isStepCount 4 = .ok (.iload_n 0, 1) := by decide +kernel
theorem dX5_isStepCount_5 : decode cX5_isStepCount 5 = .ok (.iconst 4, 1) := by decide +kernel
theorem dX5_isStepCount_6 : decode cX5_isStepCount 6 = .ok (.if_icmp .gt 7, 3) := by decide +kernel
theorem dX5_isStepCount_9 : decode cX5_isStepCount 9 = .ok (.iconst 1, 1) := by decide +kernel
theorem dX5_isStepCount_10 : decode cX5_isStepCount 10 = .ok (.goto 4, 3) := by decide +kernel
theorem dX5_isStepCount_13 : decode cX5_isStepCount 13 = .ok (.iconst 0, 1) := by decide +kernel
theorem dX5_isStepCount_14 : decode cX5_isStepCount 14 = .ok (.ireturn, 1) := by decide +kernel
theorem dX5_isSide_0 : decode cX5_isSide 0 = .ok (.iload_n 0, 1) := by decide +kernel
theorem dX5_isSide_1 : decode cX5_isSide 1 = .ok (.ifCond .eq 8, 3) := by decide +kernel
theorem dX5_isSide_4 : decode cX5_isSide 4 = .ok (.iload_n 0, 1) := by decide +kernel
theorem dX5_isSide_5 : decode cX5_isSide 5 = .ok (.iconst 1, 1) := by decide +kernel
theorem dX5_isSide_6 : decode cX5_isSide 6 = .ok (.if_icmp .ne 7, 3) := by decide +kernel
theorem dX5_isSide_9 : decode cX5_isSide 9 = .ok (.iconst 1, 1) := by decide +kernel
theorem dX5_isSide_10 : decode cX5_isSide 10 = .ok (.goto 4, 3) := by decide +kernel
theorem dX5_isSide_13 : decode cX5_isSide 13 = .ok (.iconst 0, 1) := by decide +kernel
theorem dX5_isSide_14 : decode cX5_isSide 14 = .ok (.ireturn, 1) := by decide +kernel
theorem dX5_set_0 : decode cX5_set 0 = .ok (.aload_n 0, 1) := by decide +kernel
theorem dX5_set_1 : decode cX5_set 1 = .ok (.iload_n 1, 1) := by decide +kernel
theorem dX5_set_2 : decode cX5_set 2 = .ok (.iload_n 2, 1) := by decide +kernel
theorem dX5_set_3 : decode cX5_set 3 = .ok (.iload_n 3, 1) := by decide +kernel
theorem dX5_set_4 : decode cX5_set 4 = .ok (.iload 4, 2) := by decide +kernel
theorem dX5_set_6 : decode cX5_set 6 = .ok (.invokevirtual 154, 3) := by decide +kernel
theorem dX5_set_9 : decode cX5_set 9 = .ok (.ifCond .ne 5, 3) := by decide +kernel
theorem dX5_set_12 : decode cX5_set 12 = .ok (.iconst (-1), 1) := by decide +kernel
theorem dX5_set_13 : decode cX5_set 13 = .ok (.ireturn, 1) := by decide +kernel
theorem dX5_set_14 : decode cX5_set 14 = .ok (.aload_n 0, 1) := by decide +kernel
theorem dX5_set_15 : decode cX5_set 15 = .ok (.getfield 19, 3) := by decide +kernel
theorem dX5_set_18 : decode cX5_set 18 = .ok (.iload_n 1, 1) := by decide +kernel
theorem dX5_set_19 : decode cX5_set 19 = .ok (.iload_n 2, 1) := by decide +kernel
theorem dX5_set_20 : decode cX5_set 20 = .ok (.iload_n 3, 1) := by decide +kernel
theorem dX5_set_21 : decode cX5_set 21 = .ok (.invokevirtual 109, 3) := by decide +kernel
theorem dX5_set_24 : decode cX5_set 24 = .ok (.istore 5, 2) := by decide +kernel
theorem dX5_set_26 : decode cX5_set 26 = .ok (.aload_n 0, 1) := by decide +kernel
theorem dX5_set_27 : decode cX5_set 27 = .ok (.getfield 19, 3) := by decide +kernel
theorem dX5_set_30 : decode cX5_set 30 = .ok (.iload_n 1, 1) := by decide +kernel
theorem dX5_set_31 : decode cX5_set 31 = .ok (.iload_n 2, 1) := by decide +kernel
theorem dX5_set_32 : decode cX5_set 32 = .ok (.iload_n 3, 1) := by decide +kernel
theorem dX5_set_33 : decode cX5_set 33 = .ok (.iload 4, 2) := by decide +kernel
theorem dX5_set_35 : decode cX5_set 35 = .ok (.invokevirtual 158, 3) := by decide +kernel
theorem dX5_set_38 : decode cX5_set 38 = .ok (.iload 5, 2) := by decide +kernel
theorem dX5_set_40 : decode cX5_set 40 = .ok (.ireturn, 1) := by decide +kernel
theorem dX5_open_0 : decode cX5_open 0 = .ok (.iload_n 1, 1) := by decide +kernel
theorem dX5_open_1 : decode cX5_open 1 = .ok (.invokestatic 138, 3) := by decide +kernel
theorem dX5_open_4 : decode cX5_open 4 = .ok (.ifCond .ne 5, 3) := by decide +kernel
theorem dX5_open_7 : decode cX5_open 7 = .ok (.iconst (-1), 1) := by decide +kernel
theorem dX5_open_8 : decode cX5_open 8 = .ok (.ireturn, 1) := by decide +kernel
theorem dX5_open_9 : decode cX5_open 9 = .ok (.aload_n 0, 1) := by decide +kernel
theorem dX5_open_10 : decode cX5_open 10 = .ok (.getfield 19, 3) := by decide +kernel
theorem dX5_open_13 : decode cX5_open 13 = .ok (.iload_n 1, 1) := by decide +kernel
theorem dX5_open_14 : decode cX5_open 14 = .ok (.invokevirtual 162, 3) := by decide +kernel
theorem dX5_open_17 : decode cX5_open 17 = .ok (.iconst 4, 1) := by decide +kernel
theorem dX5_open_18 : decode cX5_open 18 = .ok (.if_icmp .lt 6, 3) := by decide +kernel
theorem dX5_open_21 : decode cX5_open 21 = .ok (.bipush (-3), 2) := by decide +kernel
theorem dX5_open_23 : decode cX5_open 23 = .ok (.ireturn, 1) := by decide +kernel
theorem dX5_open_24 : decode cX5_open 24 = .ok (.aload_n 0, 1) := by decide +kernel
theorem dX5_open_25 : decode cX5_open 25 = .ok (.getfield 19, 3) := by decide +kernel
theorem dX5_open_28 : decode cX5_open 28 = .ok (.iload_n 1, 1) := by decide +kernel
theorem dX5_open_29 : decode cX5_open 29 = .ok (.invokevirtual 166, 3) := by decide +kernel
theorem dX5_open_32 : decode cX5_open 32 = .ok (.aload_n 0, 1) := by decide +kernel
theorem dX5_open_33 : decode cX5_open 33 = .ok (.getfield 19, 3) := by decide +kernel
theorem dX5_open_36 : decode cX5_open 36 = .ok (.iload_n 1, 1) := by decide +kernel
theorem dX5_open_37 : decode cX5_open 37 = .ok (.invokevirtual 162, 3) := by decide +kernel
theorem dX5_open_40 : decode cX5_open 40 = .ok (.ireturn, 1) := by decide +kernel
theorem dX5_cut_0 : decode cX5_cut 0 = .ok (.iload_n 1, 1) := by decide +kernel
theorem dX5_cut_1 : decode cX5_cut 1 = .ok (.ifCond .lt 29, 3) := by decide +kernel
theorem dX5_cut_4 : decode cX5_cut 4 = .ok (.iload_n 1, 1) := by decide +kernel
theorem dX5_cut_5 : decode cX5_cut 5 = .ok (.aload_n 0, 1) := by decide +kernel
theorem dX5_cut_6 : decode cX5_cut 6 = .ok (.getfield 19, 3) := by decide +kernel
theorem dX5_cut_9 : decode cX5_cut 9 = .ok (.getfield 82, 3) := by decide +kernel
theorem dX5_cut_12 : decode cX5_cut 12 = .ok (.if_icmp .gt 18, 3) := by decide +kernel
theorem dX5_cut_15 : decode cX5_cut 15 = .ok (.iload_n 2, 1) := by decide +kernel
theorem dX5_cut_16 : decode cX5_cut 16 = .ok (.ifCond .lt 14, 3) := by decide +kernel
theorem dX5_cut_19 : decode cX5_cut 19 = .ok (.iload_n 2, 1) := by decide +kernel
theorem dX5_cut_20 : decode cX5_cut 20 = .ok (.aload_n 0, 1) := by decide +kernel
theorem dX5_cut_21 : decode cX5_cut 21 = .ok (.getfield 19, 3) := by decide +kernel
theorem dX5_cut_24 : decode cX5_cut 24 = .ok (.getfield 85, 3) := by decide +kernel
theorem dX5_cut_27 : decode cX5_cut 27 = .ok (.if_icmp .le 5, 3) := by decide +kernel
theorem dX5_cut_30 : decode cX5_cut 30 = .ok (.iconst (-1), 1) := by decide +kernel
theorem dX5_cut_31 : decode cX5_cut 31 = .ok (.ireturn, 1) := by decide +kernel
theorem dX5_cut_32 : decode cX5_cut 32 = .ok (.aload_n 0, 1) := by decide +kernel
theorem dX5_cut_33 : decode cX5_cut 33 = .ok (.getfield 19, 3) := by decide +kernel
theorem dX5_cut_36 : decode cX5_cut 36 = .ok (.invokevirtual 170, 3) := by decide +kernel
theorem dX5_cut_39 : decode cX5_cut 39 = .ok (.istore_n 3, 1) := by decide +kernel
theorem dX5_cut_40 : decode cX5_cut 40 = .ok (.aload_n 0, 1) := by decide +kernel
theorem dX5_cut_41 : decode cX5_cut 41 = .ok (.getfield 19, 3) := by decide +kernel
theorem dX5_cut_44 : decode cX5_cut 44 = .ok (.iload_n 1, 1) := by decide +kernel
theorem dX5_cut_45 : decode cX5_cut 45 = .ok (.iload_n 2, 1) := by decide +kernel
theorem dX5_cut_46 : decode cX5_cut 46 = .ok (.invokevirtual 174, 3) := by decide +kernel
theorem dX5_cut_49 : decode cX5_cut 49 = .ok (.iload_n 3, 1) := by decide +kernel
theorem dX5_cut_50 : decode cX5_cut 50 = .ok (.ireturn, 1) := by decide +kernel
theorem dX5_mix_0 : decode cX5_mix 0 = .ok (.aload_n 0, 1) := by decide +kernel
theorem dX5_mix_1 : decode cX5_mix 1 = .ok (.iload_n 1, 1) := by decide +kernel
theorem dX5_mix_2 : decode cX5_mix 2 = .ok (.iload_n 2, 1) := by decide +kernel
theorem dX5_mix_3 : decode cX5_mix 3 = .ok (.iload_n 3, 1) := by decide +kernel
theorem dX5_mix_4 : decode cX5_mix 4 = .ok (.iload 4, 2) := by decide +kernel
theorem dX5_mix_6 : decode cX5_mix 6 = .ok (.invokevirtual 178, 3) := by decide +kernel
theorem dX5_mix_9 : decode cX5_mix 9 = .ok (.ifCond .ne 5, 3) := by decide +kernel
theorem dX5_mix_12 : decode cX5_mix 12 = .ok (.iconst (-1), 1) := by decide +kernel
theorem dX5_mix_13 : decode cX5_mix 13 = .ok (.ireturn, 1) := by decide +kernel
theorem dX5_mix_14 : decode cX5_mix 14 = .ok (.aload_n 0, 1) := by decide +kernel
theorem dX5_mix_15 : decode cX5_mix 15 = .ok (.getfield 19, 3) := by decide +kernel
theorem dX5_mix_18 : decode cX5_mix 18 = .ok (.iload_n 1, 1) := by decide +kernel
theorem dX5_mix_19 : decode cX5_mix 19 = .ok (.iload_n 2, 1) := by decide +kernel
theorem dX5_mix_20 : decode cX5_mix 20 = .ok (.iload_n 3, 1) := by decide +kernel
theorem dX5_mix_21 : decode cX5_mix 21 = .ok (.iload 4, 2) := by decide +kernel
theorem dX5_mix_23 : decode cX5_mix 23 = .ok (.invokevirtual 181, 3) := by decide +kernel
theorem dX5_mix_26 : decode cX5_mix 26 = .ok (.iconst 1, 1) := by decide +kernel
theorem dX5_mix_27 : decode cX5_mix 27 = .ok (.ireturn, 1) := by decide +kernel
theorem dX5_times_0 : decode cX5_times 0 = .ok (.aload_n 0, 1) := by decide +kernel
theorem dX5_times_1 : decode cX5_times 1 = .ok (.getfield 19, 3) := by decide +kernel
theorem dX5_times_4 : decode cX5_times 4 = .ok (.iload_n 1, 1) := by decide +kernel
theorem dX5_times_5 : decode cX5_times 5 = .ok (.iload_n 2, 1) := by decide +kernel
theorem dX5_times_6 : decode cX5_times 6 = .ok (.invokevirtual 184, 3) := by decide +kernel
theorem dX5_times_9 : decode cX5_times 9 = .ok (.ifCond .eq 11, 3) := by decide +kernel
theorem dX5_times_12 : decode cX5_times 12 = .ok (.aload_n 0, 1) := by decide +kernel
theorem dX5_times_13 : decode cX5_times 13 = .ok (.iload_n 3, 1) := by decide +kernel
theorem dX5_times_14 : decode cX5_times 14 = .ok (.invokevirtual 188, 3) := by decide +kernel
theorem dX5_times_17 : decode cX5_times 17 = .ok (.ifCond .ne 5, 3) := by decide +kernel
theorem dX5_times_20 : decode cX5_times 20 = .ok (.iconst (-1), 1) := by decide +kernel
theorem dX5_times_21 : decode cX5_times 21 = .ok (.ireturn, 1) := by decide +kernel
theorem dX5_times_22 : decode cX5_times 22 = .ok (.aload_n 0, 1) := by decide +kernel
theorem dX5_times_23 : decode cX5_times 23 = .ok (.getfield 19, 3) := by decide +kernel
theorem dX5_times_26 : decode cX5_times 26 = .ok (.iload_n 1, 1) := by decide +kernel
theorem dX5_times_27 : decode cX5_times 27 = .ok (.iload_n 2, 1) := by decide +kernel
theorem dX5_times_28 : decode cX5_times 28 = .ok (.iload_n 3, 1) := by decide +kernel
theorem dX5_times_29 : decode cX5_times 29 = .ok (.invokevirtual 191, 3) := by decide +kernel
theorem dX5_times_32 : decode cX5_times 32 = .ok (.iconst 1, 1) := by decide +kernel
theorem dX5_times_33 : decode cX5_times 33 = .ok (.ireturn, 1) := by decide +kernel
theorem dX5_swap_0 : decode cX5_swap 0 = .ok (.aload_n 0, 1) := by decide +kernel
theorem dX5_swap_1 : decode cX5_swap 1 = .ok (.getfield 19, 3) := by decide +kernel
theorem dX5_swap_4 : decode cX5_swap 4 = .ok (.iload_n 1, 1) := by decide +kernel
theorem dX5_swap_5 : decode cX5_swap 5 = .ok (.iload_n 2, 1) := by decide +kernel
theorem dX5_swap_6 : decode cX5_swap 6 = .ok (.invokevirtual 184, 3) := by decide +kernel
theorem dX5_swap_9 : decode cX5_swap 9 = .ok (.ifCond .eq 15, 3) := by decide +kernel
theorem dX5_swap_12 : decode cX5_swap 12 = .ok (.aload_n 0, 1) := by decide +kernel
theorem dX5_swap_13 : decode cX5_swap 13 = .ok (.getfield 19, 3) := by decide +kernel
theorem dX5_swap_16 : decode cX5_swap 16 = .ok (.iload_n 1, 1) := by decide +kernel
theorem dX5_swap_17 : decode cX5_swap 17 = .ok (.iload_n 3, 1) := by decide +kernel
theorem dX5_swap_18 : decode cX5_swap 18 = .ok (.invokevirtual 184, 3) := by decide +kernel
theorem dX5_swap_21 : decode cX5_swap 21 = .ok (.ifCond .ne 5, 3) := by decide +kernel
theorem dX5_swap_24 : decode cX5_swap 24 = .ok (.iconst (-1), 1) := by decide +kernel
theorem dX5_swap_25 : decode cX5_swap 25 = .ok (.ireturn, 1) := by decide +kernel
theorem dX5_swap_26 : decode cX5_swap 26 = .ok (.aload_n 0, 1) := by decide +kernel
theorem dX5_swap_27 : decode cX5_swap 27 = .ok (.getfield 19, 3) := by decide +kernel
theorem dX5_swap_30 : decode cX5_swap 30 = .ok (.iload_n 1, 1) := by decide +kernel
theorem dX5_swap_31 : decode cX5_swap 31 = .ok (.iload_n 2, 1) := by decide +kernel
theorem dX5_swap_32 : decode cX5_swap 32 = .ok (.iload_n 3, 1) := by decide +kernel
theorem dX5_swap_33 : decode cX5_swap 33 = .ok (.invokevirtual 195, 3) := by decide +kernel
theorem dX5_swap_36 : decode cX5_swap 36 = .ok (.iconst 1, 1) := by decide +kernel
theorem dX5_swap_37 : decode cX5_swap 37 = .ok (.ireturn, 1) := by decide +kernel
theorem dX5_scramble_0 : decode cX5_scramble 0 = .ok (.iload_n 2, 1) := by decide +kernel
theorem dX5_scramble_1 : decode cX5_scramble 1 = .ok (.ifCond .lt 9, 3) := by decide +kernel
theorem dX5_scramble_4 : decode cX5_scramble 4 = .ok (.iload_n 2, 1) := by decide +kernel
theorem dX5_scramble_5 : decode cX5_scramble 5 = .ok (.bipush 100, 2) := by decide +kernel
theorem dX5_scramble_7 : decode cX5_scramble 7 = .ok (.if_icmp .le 5, 3) := by decide +kernel
theorem dX5_scramble_10 : decode cX5_scramble 10 = .ok (.iconst (-1), 1) := by decide +kernel
theorem dX5_scramble_11 : decode cX5_scramble 11 = .ok (.ireturn, 1) := by decide +kernel
theorem dX5_scramble_12 : decode cX5_scramble 12 = .ok (.iconst 0, 1) := by decide +kernel
theorem dX5_scramble_13 : decode cX5_scramble 13 = .ok (.istore_n 3, 1) := by decide +kernel
theorem dX5_scramble_14 : decode cX5_scramble 14 = .ok (.iload_n 1, 1) := by decide +kernel
theorem dX5_scramble_15 : decode cX5_scramble 15 = .ok (.istore 4, 2) := by decide +kernel
theorem dX5_scramble_17 : decode cX5_scramble 17 = .ok (.iconst 0, 1) := by decide +kernel
theorem dX5_scramble_18 : decode cX5_scramble 18 = .ok (.istore 5, 2) := by decide +kernel
theorem dX5_scramble_20 : decode cX5_scramble 20 = .ok (.iload 5, 2) := by decide +kernel
theorem dX5_scramble_22 : decode cX5_scramble 22 = .ok (.iload_n 2, 1) := by decide +kernel
theorem dX5_scramble_23 : decode cX5_scramble 23 = .ok (.if_icmp .ge 39, 3) := by decide +kernel
theorem dX5_scramble_26 : decode cX5_scramble 26 = .ok (.iload 4, 2) := by decide +kernel
theorem dX5_scramble_28 : decode cX5_scramble 28 = .ok (.ldc 198, 2) := by decide +kernel
theorem dX5_scramble_30 : decode cX5_scramble 30 = .ok (.imul, 1) := by decide +kernel
theorem dX5_scramble_31 : decode cX5_scramble 31 = .ok (.sipush 12345, 3) := by decide +kernel
theorem dX5_scramble_34 : decode cX5_scramble 34 = .ok (.iadd, 1) := by decide +kernel
theorem dX5_scramble_35 : decode cX5_scramble 35 = .ok (.istore 4, 2) := by decide +kernel
theorem dX5_scramble_37 : decode cX5_scramble 37 = .ok (.aload_n 0, 1) := by decide +kernel
theorem dX5_scramble_38 : decode cX5_scramble 38 = .ok (.iload 4, 2) := by decide +kernel
theorem dX5_scramble_40 : decode cX5_scramble 40 = .ok (.bipush 16, 2) := by decide +kernel
theorem dX5_scramble_42 : decode cX5_scramble 42 = .ok (.iushr, 1) := by decide +kernel
theorem dX5_scramble_43 : decode cX5_scramble 43 = .ok (.sipush 32767, 3) := by decide +kernel
theorem dX5_scramble_46 : decode cX5_scramble 46 = .ok (.iand, 1) := by decide +kernel
theorem dX5_scramble_47 : decode cX5_scramble 47 = .ok (.invokevirtual 199, 3) := by decide +kernel
theorem dX5_scramble_50 : decode cX5_scramble 50 = .ok (.ifCond .eq 6, 3) := by decide +kernel
theorem dX5_scramble_53 : decode cX5_scramble 53 = .ok (.iinc 3 1, 3) := by decide +kernel
theorem dX5_scramble_56 : decode cX5_scramble 56 = .ok (.iinc 5 1, 3) := by decide +kernel
theorem dX5_scramble_59 : decode cX5_scramble 59 = .ok (.goto (-39), 3) := by decide +kernel
theorem dX5_scramble_62 : decode cX5_scramble 62 = .ok (.iload_n 3, 1) := by decide +kernel
theorem dX5_scramble_63 : decode cX5_scramble 63 = .ok (.ireturn, 1) := by decide +kernel
theorem dX5_turn_0 : decode cX5_turn 0 = .ok (.iload_n 1, 1) := by decide +kernel
theorem dX5_turn_1 : decode cX5_turn 1 = .ok (.tableswitch 57 0 2 #[27, 37, 47], 27) := by decide +kernel
theorem dX5_turn_28 : decode cX5_turn 28 = .ok (.aload_n 0, 1) := by decide +kernel
theorem dX5_turn_29 : decode cX5_turn 29 = .ok (.getfield 19, 3) := by decide +kernel
theorem dX5_turn_32 : decode cX5_turn 32 = .ok (.invokevirtual 202, 3) := by decide +kernel
theorem dX5_turn_35 : decode cX5_turn 35 = .ok (.goto 25, 3) := by decide +kernel
theorem dX5_turn_38 : decode cX5_turn 38 = .ok (.aload_n 0, 1) := by decide +kernel
theorem dX5_turn_39 : decode cX5_turn 39 = .ok (.getfield 19, 3) := by decide +kernel
theorem dX5_turn_42 : decode cX5_turn 42 = .ok (.invokevirtual 205, 3) := by decide +kernel
theorem dX5_turn_45 : decode cX5_turn 45 = .ok (.goto 15, 3) := by decide +kernel
theorem dX5_turn_48 : decode cX5_turn 48 = .ok (.aload_n 0, 1) := by decide +kernel
theorem dX5_turn_49 : decode cX5_turn 49 = .ok (.getfield 19, 3) := by decide +kernel
theorem dX5_turn_52 : decode cX5_turn 52 = .ok (.invokevirtual 208, 3) := by decide +kernel
theorem dX5_turn_55 : decode cX5_turn 55 = .ok (.goto 5, 3) := by decide +kernel
theorem dX5_turn_58 : decode cX5_turn 58 = .ok (.iconst (-1), 1) := by decide +kernel
theorem dX5_turn_59 : decode cX5_turn 59 = .ok (.ireturn, 1) := by decide +kernel
theorem dX5_turn_60 : decode cX5_turn 60 = .ok (.aload_n 0, 1) := by decide +kernel
theorem dX5_turn_61 : decode cX5_turn 61 = .ok (.getfield 19, 3) := by decide +kernel
theorem dX5_turn_64 : decode cX5_turn 64 = .ok (.invokevirtual 170, 3) := by decide +kernel
theorem dX5_turn_67 : decode cX5_turn 67 = .ok (.ireturn, 1) := by decide +kernel
theorem dX5_mixByNumber_0 : decode cX5_mixByNumber 0 = .ok (.iload_n 1, 1) := by decide +kernel
theorem dX5_mixByNumber_1 : decode cX5_mixByNumber 1 = .ok (.iconst 2, 1) := by decide +kernel
theorem dX5_mixByNumber_2 : decode cX5_mixByNumber 2 = .ok (.irem, 1) := by decide +kernel
theorem dX5_mixByNumber_3 : decode cX5_mixByNumber 3 = .ok (.istore_n 2, 1) := by decide +kernel
theorem dX5_mixByNumber_4 : decode cX5_mixByNumber 4 = .ok (.aload_n 0, 1) := by decide +kernel
theorem dX5_mixByNumber_5 : decode cX5_mixByNumber 5 = .ok (.getfield 19, 3) := by decide +kernel
theorem dX5_mixByNumber_8 : decode cX5_mixByNumber 8 = .ok (.iload_n 2, 1) := by decide +kernel
theorem dX5_mixByNumber_9 : decode cX5_mixByNumber 9 = .ok (.invokevirtual 162, 3) := by decide +kernel
theorem dX5_mixByNumber_12 : decode cX5_mixByNumber 12 = .ok (.istore_n 3, 1) := by decide +kernel
theorem dX5_mixByNumber_13 : decode cX5_mixByNumber 13 = .ok (.iload_n 3, 1) := by decide +kernel
theorem dX5_mixByNumber_14 : decode cX5_mixByNumber 14 = .ok (.ifCond .ne 5, 3) := by decide +kernel
theorem dX5_mixByNumber_17 : decode cX5_mixByNumber 17 = .ok (.iconst 0, 1) := by decide +kernel
theorem dX5_mixByNumber_18 : decode cX5_mixByNumber 18 = .ok (.ireturn, 1) := by decide +kernel
theorem dX5_mixByNumber_19 : decode cX5_mixByNumber 19 = .ok (.iload_n 1, 1) := by decide +kernel
theorem dX5_mixByNumber_20 : decode cX5_mixByNumber 20 = .ok (.iconst 2, 1) := by decide +kernel
theorem dX5_mixByNumber_21 : decode cX5_mixByNumber 21 = .ok (.idiv, 1) := by decide +kernel
theorem dX5_mixByNumber_22 : decode cX5_mixByNumber 22 = .ok (.iload_n 3, 1) := by decide +kernel
theorem dX5_mixByNumber_23 : decode cX5_mixByNumber 23 = .ok (.invokestatic 211, 3) := by decide +kernel
theorem dX5_mixByNumber_26 : decode cX5_mixByNumber 26 = .ok (.istore 4, 2) := by decide +kernel
theorem dX5_mixByNumber_28 : decode cX5_mixByNumber 28 = .ok (.iload_n 1, 1) := by decide +kernel
theorem dX5_mixByNumber_29 : decode cX5_mixByNumber 29 = .ok (.bipush 8, 2) := by decide +kernel
theorem dX5_mixByNumber_31 : decode cX5_mixByNumber 31 = .ok (.idiv, 1) := by decide +kernel
theorem dX5_mixByNumber_32 : decode cX5_mixByNumber 32 = .ok (.iload_n 3, 1) := by decide +kernel
theorem dX5_mixByNumber_33 : decode cX5_mixByNumber 33 = .ok (.invokestatic 211, 3) := by decide +kernel
theorem dX5_mixByNumber_36 : decode cX5_mixByNumber 36 = .ok (.istore 5, 2) := by decide +kernel
theorem dX5_mixByNumber_38 : decode cX5_mixByNumber 38 = .ok (.iload_n 1, 1) := by decide +kernel
theorem dX5_mixByNumber_39 : decode cX5_mixByNumber 39 = .ok (.bipush 32, 2) := by decide +kernel
theorem dX5_mixByNumber_41 : decode cX5_mixByNumber 41 = .ok (.idiv, 1) := by decide +kernel
theorem dX5_mixByNumber_42 : decode cX5_mixByNumber 42 = .ok (.aload_n 0, 1) := by decide +kernel
theorem dX5_mixByNumber_43 : decode cX5_mixByNumber 43 = .ok (.getfield 19, 3) := by decide +kernel
theorem dX5_mixByNumber_46 : decode cX5_mixByNumber 46 = .ok (.getfield 88, 3) := by decide +kernel
theorem dX5_mixByNumber_49 : decode cX5_mixByNumber 49 = .ok (.invokestatic 211, 3) := by decide +kernel
theorem dX5_mixByNumber_52 : decode cX5_mixByNumber 52 = .ok (.istore 6, 2) := by decide +kernel
theorem dX5_mixByNumber_54 : decode cX5_mixByNumber 54 = .ok (.aload_n 0, 1) := by decide +kernel
theorem dX5_mixByNumber_55 : decode cX5_mixByNumber 55 = .ok (.iload_n 2, 1) := by decide +kernel
theorem dX5_mixByNumber_56 : decode cX5_mixByNumber 56 = .ok (.iload 4, 2) := by decide +kernel
theorem dX5_mixByNumber_58 : decode cX5_mixByNumber 58 = .ok (.iload 5, 2) := by decide +kernel
theorem dX5_mixByNumber_60 : decode cX5_mixByNumber 60 = .ok (.iload 6, 2) := by decide +kernel
theorem dX5_mixByNumber_62 : decode cX5_mixByNumber 62 = .ok (.invokevirtual 178, 3) := by decide +kernel
theorem dX5_mixByNumber_65 : decode cX5_mixByNumber 65 = .ok (.ifCond .ne 5, 3) := by decide +kernel
theorem dX5_mixByNumber_68 : decode cX5_mixByNumber 68 = .ok (.iconst 0, 1) := by decide +kernel
theorem dX5_mixByNumber_69 : decode cX5_mixByNumber 69 = .ok (.ireturn, 1) := by decide +kernel
theorem dX5_mixByNumber_70 : decode cX5_mixByNumber 70 = .ok (.aload_n 0, 1) := by decide +kernel
theorem dX5_mixByNumber_71 : decode cX5_mixByNumber 71 = .ok (.getfield 19, 3) := by decide +kernel
theorem dX5_mixByNumber_74 : decode cX5_mixByNumber 74 = .ok (.iload_n 2, 1) := by decide +kernel
theorem dX5_mixByNumber_75 : decode cX5_mixByNumber 75 = .ok (.iload 4, 2) := by decide +kernel
theorem dX5_mixByNumber_77 : decode cX5_mixByNumber 77 = .ok (.iload 5, 2) := by decide +kernel
theorem dX5_mixByNumber_79 : decode cX5_mixByNumber 79 = .ok (.iload 6, 2) := by decide +kernel
theorem dX5_mixByNumber_81 : decode cX5_mixByNumber 81 = .ok (.invokevirtual 181, 3) := by decide +kernel
theorem dX5_mixByNumber_84 : decode cX5_mixByNumber 84 = .ok (.iconst 1, 1) := by decide +kernel
theorem dX5_mixByNumber_85 : decode cX5_mixByNumber 85 = .ok (.ireturn, 1) := by decide +kernel
theorem dX5_maySet_0 : decode cX5_maySet 0 = .ok (.aload_n 0, 1) := by decide +kernel
theorem dX5_maySet_1 : decode cX5_maySet 1 = .ok (.getfield 19, 3) := by decide +kernel
theorem dX5_maySet_4 : decode cX5_maySet 4 = .ok (.iload_n 1, 1) := by decide +kernel
theorem dX5_maySet_5 : decode cX5_maySet 5 = .ok (.iload_n 2, 1) := by decide +kernel
theorem dX5_maySet_6 : decode cX5_maySet 6 = .ok (.iload_n 3, 1) := by decide +kernel
theorem dX5_maySet_7 : decode cX5_maySet 7 = .ok (.invokevirtual 105, 3) := by decide +kernel
theorem dX5_maySet_10 : decode cX5_maySet 10 = .ok (.ifCond .eq 24, 3) := by decide +kernel
theorem dX5_maySet_13 : decode cX5_maySet 13 = .ok (.iload 4, 2) := by decide +kernel
theorem dX5_maySet_15 : decode cX5_maySet 15 = .ok (.ifCond .lt 19, 3) := by decide +kernel
theorem dX5_maySet_18 : decode cX5_maySet 18 = .ok (.iload 4, 2) := by decide +kernel
theorem dX5_maySet_20 : decode cX5_maySet 20 = .ok (.aload_n 0, 1) := by decide +kernel
theorem dX5_maySet_21 : decode cX5_maySet 21 = .ok (.getfield 19, 3) := by decide +kernel
theorem dX5_maySet_24 : decode cX5_maySet 24 = .ok (.getfield 88, 3) := by decide +kernel
theorem dX5_maySet_27 : decode cX5_maySet 27 = .ok (.if_icmp .ge 7, 3) := by decide +kernel
theorem dX5_maySet_30 : decode cX5_maySet 30 = .ok (.iconst 1, 1) := by decide +kernel
theorem dX5_maySet_31 : decode cX5_maySet 31 = .ok (.goto 4, 3) := by decide +kernel
theorem dX5_maySet_34 : decode cX5_maySet 34 = .ok (.iconst 0, 1) := by decide +kernel
theorem dX5_maySet_35 : decode cX5_maySet 35 = .ok (.ireturn, 1) := by decide +kernel
theorem dX5_mayMix_0 : decode cX5_mayMix 0 = .ok (.iload_n 2, 1) := by decide +kernel
theorem dX5_mayMix_1 : decode cX5_mayMix 1 = .ok (.iload_n 3, 1) := by decide +kernel
theorem dX5_mayMix_2 : decode cX5_mayMix 2 = .ok (.if_icmp .eq 40, 3) := by decide +kernel
theorem dX5_mayMix_5 : decode cX5_mayMix 5 = .ok (.aload_n 0, 1) := by decide +kernel
theorem dX5_mayMix_6 : decode cX5_mayMix 6 = .ok (.getfield 19, 3) := by decide +kernel
theorem dX5_mayMix_9 : decode cX5_mayMix 9 = .ok (.iload_n 1, 1) := by decide +kernel
theorem dX5_mayMix_10 : decode cX5_mayMix 10 = .ok (.iload_n 2, 1) := by decide +kernel
theorem dX5_mayMix_11 : decode cX5_mayMix 11 = .ok (.invokevirtual 184, 3) := by decide +kernel
theorem dX5_mayMix_14 : decode cX5_mayMix 14 = .ok (.ifCond .eq 28, 3) := by decide +kernel
theorem dX5_mayMix_17 : decode cX5_mayMix 17 = .ok (.aload_n 0, 1) := by decide +kernel
theorem dX5_mayMix_18 : decode cX5_mayMix 18 = .ok (.getfield 19, 3) := by decide +kernel
theorem dX5_mayMix_21 : decode cX5_mayMix 21 = .ok (.iload_n 1, 1) := by decide +kernel
theorem dX5_mayMix_22 : decode cX5_mayMix 22 = .ok (.iload_n 3, 1) := by decide +kernel
theorem dX5_mayMix_23 : decode cX5_mayMix 23 = .ok (.invokevirtual 184, 3) := by decide +kernel
theorem dX5_mayMix_26 : decode cX5_mayMix 26 = .ok (.ifCond .eq 16, 3) := by decide +kernel
theorem dX5_mayMix_29 : decode cX5_mayMix 29 = .ok (.aload_n 0, 1) := by decide +kernel
theorem dX5_mayMix_30 : decode cX5_mayMix 30 = .ok (.iload 4, 2) := by decide +kernel
theorem dX5_mayMix_32 : decode cX5_mayMix 32 = .ok (.invokevirtual 188, 3) := by decide +kernel
theorem dX5_mayMix_35 : decode cX5_mayMix 35 = .ok (.ifCond .eq 7, 3) := by decide +kernel
theorem dX5_mayMix_38 : decode cX5_mayMix 38 = .ok (.iconst 1, 1) := by decide +kernel
theorem dX5_mayMix_39 : decode cX5_mayMix 39 = .ok (.goto 4, 3) := by decide +kernel
theorem dX5_mayMix_42 : decode cX5_mayMix 42 = .ok (.iconst 0, 1) := by decide +kernel
theorem dX5_mayMix_43 : decode cX5_mayMix 43 = .ok (.ireturn, 1) := by decide +kernel
theorem dX5_isFactor_0 : decode cX5_isFactor 0 = .ok (.iload_n 1, 1) := by decide +kernel
theorem dX5_isFactor_1 : decode cX5_isFactor 1 = .ok (.iconst 1, 1) := by decide +kernel
theorem dX5_isFactor_2 : decode cX5_isFactor 2 = .ok (.if_icmp .lt 18, 3) := by decide +kernel
theorem dX5_isFactor_5 : decode cX5_isFactor 5 = .ok (.iload_n 1, 1) := by decide +kernel
theorem dX5_isFactor_6 : decode cX5_isFactor 6 = .ok (.aload_n 0, 1) := by decide +kernel
theorem dX5_isFactor_7 : decode cX5_isFactor 7 = .ok (.getfield 19, 3) := by decide +kernel
theorem dX5_isFactor_10 : decode cX5_isFactor 10 = .ok (.getfield 88, 3) := by decide +kernel
theorem dX5_isFactor_13 : decode cX5_isFactor 13 = .ok (.if_icmp .ge 7, 3) := by decide +kernel
theorem dX5_isFactor_16 : decode cX5_isFactor 16 = .ok (.iconst 1, 1) := by decide +kernel
theorem dX5_isFactor_17 : decode cX5_isFactor 17 = .ok (.goto 4, 3) := by decide +kernel
theorem dX5_isFactor_20 : decode cX5_isFactor 20 = .ok (.iconst 0, 1) := by decide +kernel
theorem dX5_isFactor_21 : decode cX5_isFactor 21 = .ok (.ireturn, 1) := by decide +kernel
theorem dX5_keep_0 : decode cX5_keep 0 = .ok (.iload_n 1, 1) := by decide +kernel
theorem dX5_keep_1 : decode cX5_keep 1 = .ok (.invokestatic 215, 3) := by decide +kernel
theorem dX5_keep_4 : decode cX5_keep 4 = .ok (.ifCond .ne 5, 3) := by decide +kernel
theorem dX5_keep_7 : decode cX5_keep 7 = .ok (.iconst (-1), 1) := by decide +kernel
theorem dX5_keep_8 : decode cX5_keep 8 = .ok (.ireturn, 1) := by decide +kernel
theorem dX5_keep_9 : decode cX5_keep 9 = .ok (.aload_n 0, 1) := by decide +kernel
theorem dX5_keep_10 : decode cX5_keep 10 = .ok (.getfield 27, 3) := by decide +kernel
theorem dX5_keep_13 : decode cX5_keep 13 = .ok (.iload_n 1, 1) := by decide +kernel
theorem dX5_keep_14 : decode cX5_keep 14 = .ok (.baload, 1) := by decide +kernel
theorem dX5_keep_15 : decode cX5_keep 15 = .ok (.ifCond .eq 7, 3) := by decide +kernel
theorem dX5_keep_18 : decode cX5_keep 18 = .ok (.iconst 1, 1) := by decide +kernel
theorem dX5_keep_19 : decode cX5_keep 19 = .ok (.goto 4, 3) := by decide +kernel
theorem dX5_keep_22 : decode cX5_keep 22 = .ok (.iconst 0, 1) := by decide +kernel
theorem dX5_keep_23 : decode cX5_keep 23 = .ok (.istore_n 2, 1) := by decide +kernel
theorem dX5_keep_24 : decode cX5_keep 24 = .ok (.aload_n 0, 1) := by decide +kernel
theorem dX5_keep_25 : decode cX5_keep 25 = .ok (.getfield 23, 3) := by decide +kernel
theorem dX5_keep_28 : decode cX5_keep 28 = .ok (.iload_n 1, 1) := by decide +kernel
theorem dX5_keep_29 : decode cX5_keep 29 = .ok (.aaload, 1) := by decide +kernel
theorem dX5_keep_30 : decode cX5_keep 30 = .ok (.aload_n 0, 1) := by decide +kernel
theorem dX5_keep_31 : decode cX5_keep 31 = .ok (.getfield 19, 3) := by decide +kernel
theorem dX5_keep_34 : decode cX5_keep 34 = .ok (.invokevirtual 75, 3) := by decide +kernel
theorem dX5_keep_37 : decode cX5_keep 37 = .ok (.aload_n 0, 1) := by decide +kernel
theorem dX5_keep_38 : decode cX5_keep 38 = .ok (.getfield 27, 3) := by decide +kernel
theorem dX5_keep_41 : decode cX5_keep 41 = .ok (.iload_n 1, 1) := by decide +kernel
theorem dX5_keep_42 : decode cX5_keep 42 = .ok (.iconst 1, 1) := by decide +kernel
theorem dX5_keep_43 : decode cX5_keep 43 = .ok (.bastore, 1) := by decide +kernel
theorem dX5_keep_44 : decode cX5_keep 44 = .ok (.iload_n 2, 1) := by decide +kernel
theorem dX5_keep_45 : decode cX5_keep 45 = .ok (.ireturn, 1) := by decide +kernel
theorem dX5_back_0 : decode cX5_back 0 = .ok (.iload_n 1, 1) := by decide +kernel
theorem dX5_back_1 : decode cX5_back 1 = .ok (.invokestatic 215, 3) := by decide +kernel
theorem dX5_back_4 : decode cX5_back 4 = .ok (.ifCond .ne 5, 3) := by decide +kernel
theorem dX5_back_7 : decode cX5_back 7 = .ok (.iconst (-1), 1) := by decide +kernel
theorem dX5_back_8 : decode cX5_back 8 = .ok (.ireturn, 1) := by decide +kernel
theorem dX5_back_9 : decode cX5_back 9 = .ok (.aload_n 0, 1) := by decide +kernel
theorem dX5_back_10 : decode cX5_back 10 = .ok (.getfield 27, 3) := by decide +kernel
theorem dX5_back_13 : decode cX5_back 13 = .ok (.iload_n 1, 1) := by decide +kernel
theorem dX5_back_14 : decode cX5_back 14 = .ok (.baload, 1) := by decide +kernel
theorem dX5_back_15 : decode cX5_back 15 = .ok (.ifCond .ne 6, 3) := by decide +kernel
theorem dX5_back_18 : decode cX5_back 18 = .ok (.bipush (-2), 2) := by decide +kernel
theorem dX5_back_20 : decode cX5_back 20 = .ok (.ireturn, 1) := by decide +kernel
theorem dX5_back_21 : decode cX5_back 21 = .ok (.aload_n 0, 1) := by decide +kernel
theorem dX5_back_22 : decode cX5_back 22 = .ok (.getfield 19, 3) := by decide +kernel
theorem dX5_back_25 : decode cX5_back 25 = .ok (.aload_n 0, 1) := by decide +kernel
theorem dX5_back_26 : decode cX5_back 26 = .ok (.getfield 23, 3) := by decide +kernel
theorem dX5_back_29 : decode cX5_back 29 = .ok (.iload_n 1, 1) := by decide +kernel
theorem dX5_back_30 : decode cX5_back 30 = .ok (.aaload, 1) := by decide +kernel
theorem dX5_back_31 : decode cX5_back 31 = .ok (.invokevirtual 75, 3) := by decide +kernel
theorem dX5_back_34 : decode cX5_back 34 = .ok (.aload_n 0, 1) := by decide +kernel
theorem dX5_back_35 : decode cX5_back 35 = .ok (.getfield 19, 3) := by decide +kernel
theorem dX5_back_38 : decode cX5_back 38 = .ok (.invokevirtual 170, 3) := by decide +kernel
theorem dX5_back_41 : decode cX5_back 41 = .ok (.ireturn, 1) := by decide +kernel
theorem dX5_alike_0 : decode cX5_alike 0 = .ok (.iload_n 1, 1) := by decide +kernel
theorem dX5_alike_1 : decode cX5_alike 1 = .ok (.invokestatic 215, 3) := by decide +kernel
theorem dX5_alike_4 : decode cX5_alike 4 = .ok (.ifCond .ne 5, 3) := by decide +kernel
theorem dX5_alike_7 : decode cX5_alike 7 = .ok (.iconst (-1), 1) := by decide +kernel
theorem dX5_alike_8 : decode cX5_alike 8 = .ok (.ireturn, 1) := by decide +kernel
theorem dX5_alike_9 : decode cX5_alike 9 = .ok (.aload_n 0, 1) := by decide +kernel
theorem dX5_alike_10 : decode cX5_alike 10 = .ok (.getfield 27, 3) := by decide +kernel
theorem dX5_alike_13 : decode cX5_alike 13 = .ok (.iload_n 1, 1) := by decide +kernel
theorem dX5_alike_14 : decode cX5_alike 14 = .ok (.baload, 1) := by decide +kernel
theorem dX5_alike_15 : decode cX5_alike 15 = .ok (.ifCond .ne 6, 3) := by decide +kernel
theorem dX5_alike_18 : decode cX5_alike 18 = .ok (.bipush (-2), 2) := by decide +kernel
theorem dX5_alike_20 : decode cX5_alike 20 = .ok (.ireturn, 1) := by decide +kernel
theorem dX5_alike_21 : decode cX5_alike 21 = .ok (.aload_n 0, 1) := by decide +kernel
theorem dX5_alike_22 : decode cX5_alike 22 = .ok (.getfield 41, 3) := by decide +kernel
theorem dX5_alike_25 : decode cX5_alike 25 = .ok (.aload_n 0, 1) := by decide +kernel
theorem dX5_alike_26 : decode cX5_alike 26 = .ok (.getfield 19, 3) := by decide +kernel
theorem dX5_alike_29 : decode cX5_alike 29 = .ok (.aload_n 0, 1) := by decide +kernel
theorem dX5_alike_30 : decode cX5_alike 30 = .ok (.getfield 45, 3) := by decide +kernel
theorem dX5_alike_33 : decode cX5_alike 33 = .ok (.invokevirtual 218, 3) := by decide +kernel
theorem dX5_alike_36 : decode cX5_alike 36 = .ok (.aload_n 0, 1) := by decide +kernel
theorem dX5_alike_37 : decode cX5_alike 37 = .ok (.getfield 41, 3) := by decide +kernel
theorem dX5_alike_40 : decode cX5_alike 40 = .ok (.aload_n 0, 1) := by decide +kernel
theorem dX5_alike_41 : decode cX5_alike 41 = .ok (.getfield 23, 3) := by decide +kernel
theorem dX5_alike_44 : decode cX5_alike 44 = .ok (.iload_n 1, 1) := by decide +kernel
theorem dX5_alike_45 : decode cX5_alike 45 = .ok (.aaload, 1) := by decide +kernel
theorem dX5_alike_46 : decode cX5_alike 46 = .ok (.aload_n 0, 1) := by decide +kernel
theorem dX5_alike_47 : decode cX5_alike 47 = .ok (.getfield 49, 3) := by decide +kernel
theorem dX5_alike_50 : decode cX5_alike 50 = .ok (.invokevirtual 218, 3) := by decide +kernel
theorem dX5_alike_53 : decode cX5_alike 53 = .ok (.iconst 0, 1) := by decide +kernel
theorem dX5_alike_54 : decode cX5_alike 54 = .ok (.istore_n 2, 1) := by decide +kernel
theorem dX5_alike_55 : decode cX5_alike 55 = .ok (.iload_n 2, 1) := by decide +kernel
theorem dX5_alike_56 : decode cX5_alike 56 = .ok (.bipush 45, 2) := by decide +kernel
theorem dX5_alike_58 : decode cX5_alike 58 = .ok (.if_icmp .ge 26, 3) := by decide +kernel
theorem dX5_alike_61 : decode cX5_alike 61 = .ok (.aload_n 0, 1) := by decide +kernel
theorem dX5_alike_62 : decode cX5_alike 62 = .ok (.getfield 45, 3) := by decide +kernel
theorem dX5_alike_65 : decode cX5_alike 65 = .ok (.iload_n 2, 1) := by decide +kernel
theorem dX5_alike_66 : decode cX5_alike 66 = .ok (.iaload, 1) := by decide +kernel
theorem dX5_alike_67 : decode cX5_alike 67 = .ok (.aload_n 0, 1) := by decide +kernel
theorem dX5_alike_68 : decode cX5_alike 68 = .ok (.getfield 49, 3) := by decide +kernel
theorem dX5_alike_71 : decode cX5_alike 71 = .ok (.iload_n 2, 1) := by decide +kernel
theorem dX5_alike_72 : decode cX5_alike 72 = .ok (.iaload, 1) := by decide +kernel
theorem dX5_alike_73 : decode cX5_alike 73 = .ok (.if_icmp .eq 5, 3) := by decide +kernel
theorem dX5_alike_76 : decode cX5_alike 76 = .ok (.iconst 0, 1) := by decide +kernel
theorem dX5_alike_77 : decode cX5_alike 77 = .ok (.ireturn, 1) := by decide +kernel
theorem dX5_alike_78 : decode cX5_alike 78 = .ok (.iinc 2 1, 3) := by decide +kernel
theorem dX5_alike_81 : decode cX5_alike 81 = .ok (.goto (-26), 3) := by decide +kernel
theorem dX5_alike_84 : decode cX5_alike 84 = .ok (.iconst 1, 1) := by decide +kernel
theorem dX5_alike_85 : decode cX5_alike 85 = .ok (.ireturn, 1) := by decide +kernel
theorem dX5_isImage_0 : decode cX5_isImage 0 = .ok (.iload_n 0, 1) := by decide +kernel
theorem dX5_isImage_1 : decode cX5_isImage 1 = .ok (.ifCond .lt 12, 3) := by decide +kernel
theorem dX5_isImage_4 : decode cX5_isImage 4 = .ok (.iload_n 0, 1) := by decide +kernel
theorem dX5_isImage_5 : decode cX5_isImage 5 = .ok (.iconst 2, 1) := by decide +kernel
theorem dX5_isImage_6 : decode cX5_isImage 6 = .ok (.if_icmp .ge 7, 3) := by decide +kernel
theorem dX5_isImage_9 : decode cX5_isImage 9 = .ok (.iconst 1, 1) := by decide +kernel
theorem dX5_isImage_10 : decode cX5_isImage 10 = .ok (.goto 4, 3) := by decide +kernel
theorem dX5_isImage_13 : decode cX5_isImage 13 = .ok (.iconst 0, 1) := by decide +kernel
theorem dX5_isImage_14 : decode cX5_isImage 14 = .ok (.ireturn, 1) := by decide +kernel
theorem dX5_sheet_0 : decode cX5_sheet 0 = .ok (.iload_n 1, 1) := by decide +kernel
theorem dX5_sheet_1 : decode cX5_sheet 1 = .ok (.invokestatic 222, 3) := by decide +kernel
theorem dX5_sheet_4 : decode cX5_sheet 4 = .ok (.ifCond .eq 16, 3) := by decide +kernel
theorem dX5_sheet_7 : decode cX5_sheet 7 = .ok (.iload_n 2, 1) := by decide +kernel
theorem dX5_sheet_8 : decode cX5_sheet 8 = .ok (.invokestatic 225, 3) := by decide +kernel
theorem dX5_sheet_11 : decode cX5_sheet 11 = .ok (.ifCond .eq 9, 3) := by decide +kernel
theorem dX5_sheet_14 : decode cX5_sheet 14 = .ok (.iload_n 3, 1) := by decide +kernel
theorem dX5_sheet_15 : decode cX5_sheet 15 = .ok (.bipush 40, 2) := by decide +kernel
theorem dX5_sheet_17 : decode cX5_sheet 17 = .ok (.if_icmp .le 5, 3) := by decide +kernel
theorem dX5_sheet_20 : decode cX5_sheet 20 = .ok (.iconst (-1), 1) := by decide +kernel
theorem dX5_sheet_21 : decode cX5_sheet 21 = .ok (.ireturn, 1) := by decide +kernel
theorem dX5_sheet_22 : decode cX5_sheet 22 = .ok (.iload_n 3, 1) := by decide +kernel
theorem dX5_sheet_23 : decode cX5_sheet 23 = .ok (.ifCond .ge 6, 3) := by decide +kernel
theorem dX5_sheet_26 : decode cX5_sheet 26 = .ok (.bipush (-14), 2) := by decide +kernel
theorem dX5_sheet_28 : decode cX5_sheet 28 = .ok (.ireturn, 1) := by decide +kernel
theorem dX5_sheet_29 : decode cX5_sheet 29 = .ok (.aload_n 0, 1) := by decide +kernel
theorem dX5_sheet_30 : decode cX5_sheet 30 = .ok (.getfield 33, 3) := by decide +kernel
theorem dX5_sheet_33 : decode cX5_sheet 33 = .ok (.iload_n 1, 1) := by decide +kernel
theorem dX5_sheet_34 : decode cX5_sheet 34 = .ok (.aaload, 1) := by decide +kernel
theorem dX5_sheet_35 : decode cX5_sheet 35 = .ok (.iload_n 2, 1) := by decide +kernel
theorem dX5_sheet_36 : decode cX5_sheet 36 = .ok (.iload_n 3, 1) := by decide +kernel
theorem dX5_sheet_37 : decode cX5_sheet 37 = .ok (.invokevirtual 228, 3) := by decide +kernel
theorem dX5_sheet_40 : decode cX5_sheet 40 = .ok (.iconst 1, 1) := by decide +kernel
theorem dX5_sheet_41 : decode cX5_sheet 41 = .ok (.ireturn, 1) := by decide +kernel
theorem dX5_lay_0 : decode cX5_lay 0 = .ok (.iload_n 1, 1) := by decide +kernel
theorem dX5_lay_1 : decode cX5_lay 1 = .ok (.invokestatic 222, 3) := by decide +kernel
theorem dX5_lay_4 : decode cX5_lay 4 = .ok (.ifCond .ne 5, 3) := by decide +kernel
theorem dX5_lay_7 : decode cX5_lay 7 = .ok (.iconst (-1), 1) := by decide +kernel
theorem dX5_lay_8 : decode cX5_lay 8 = .ok (.ireturn, 1) := by decide +kernel
theorem dX5_lay_9 : decode cX5_lay 9 = .ok (.aload_n 0, 1) := by decide +kernel
theorem dX5_lay_10 : decode cX5_lay 10 = .ok (.getfield 33, 3) := by decide +kernel
theorem dX5_lay_13 : decode cX5_lay 13 = .ok (.iload_n 1, 1) := by decide +kernel
theorem dX5_lay_14 : decode cX5_lay 14 = .ok (.aaload, 1) := by decide +kernel
theorem dX5_lay_15 : decode cX5_lay 15 = .ok (.iload_n 2, 1) := by decide +kernel
theorem dX5_lay_16 : decode cX5_lay 16 = .ok (.invokevirtual 231, 3) := by decide +kernel
theorem dX5_lay_19 : decode cX5_lay 19 = .ok (.istore 4, 2) := by decide +kernel
theorem dX5_lay_21 : decode cX5_lay 21 = .ok (.iload 4, 2) := by decide +kernel
theorem dX5_lay_23 : decode cX5_lay 23 = .ok (.ifCond .eq 9, 3) := by decide +kernel
theorem dX5_lay_26 : decode cX5_lay 26 = .ok (.bipush (-10), 2) := by decide +kernel
theorem dX5_lay_28 : decode cX5_lay 28 = .ok (.iload 4, 2) := by decide +kernel
theorem dX5_lay_30 : decode cX5_lay 30 = .ok (.isub, 1) := by decide +kernel
theorem dX5_lay_31 : decode cX5_lay 31 = .ok (.ireturn, 1) := by decide +kernel
theorem dX5_lay_32 : decode cX5_lay 32 = .ok (.aload_n 0, 1) := by decide +kernel
theorem dX5_lay_33 : decode cX5_lay 33 = .ok (.getfield 33, 3) := by decide +kernel
theorem dX5_lay_36 : decode cX5_lay 36 = .ok (.iload_n 1, 1) := by decide +kernel
theorem dX5_lay_37 : decode cX5_lay 37 = .ok (.aaload, 1) := by decide +kernel
theorem dX5_lay_38 : decode cX5_lay 38 = .ok (.iload_n 2, 1) := by decide +kernel
theorem dX5_lay_39 : decode cX5_lay 39 = .ok (.iload_n 3, 1) := by decide +kernel
theorem dX5_lay_40 : decode cX5_lay 40 = .ok (.invokevirtual 234, 3) := by decide +kernel
theorem dX5_lay_43 : decode cX5_lay 43 = .ok (.iconst 1, 1) := by decide +kernel
theorem dX5_lay_44 : decode cX5_lay 44 = .ok (.ireturn, 1) := by decide +kernel
theorem dX5_read_0 : decode cX5_read 0 = .ok (.iload_n 1, 1) := by decide +kernel
theorem dX5_read_1 : decode cX5_read 1 = .ok (.invokestatic 222, 3) := by decide +kernel
theorem dX5_read_4 : decode cX5_read 4 = .ok (.ifCond .eq 22, 3) := by decide +kernel
theorem dX5_read_7 : decode cX5_read 7 = .ok (.iload_n 2, 1) := by decide +kernel
theorem dX5_read_8 : decode cX5_read 8 = .ok (.invokestatic 225, 3) := by decide +kernel
theorem dX5_read_11 : decode cX5_read 11 = .ok (.ifCond .eq 15, 3) := by decide +kernel
theorem dX5_read_14 : decode cX5_read 14 = .ok (.iload 4, 2) := by decide +kernel
theorem dX5_read_16 : decode cX5_read 16 = .ok (.ifCond .lt 10, 3) := by decide +kernel
theorem dX5_read_19 : decode cX5_read 19 = .ok (.iload 4, 2) := by decide +kernel
theorem dX5_read_21 : decode cX5_read 21 = .ok (.bipush 10, 2) := by decide +kernel
theorem dX5_read_23 : decode cX5_read 23 = .ok (.if_icmp .le 5, 3) := by decide +kernel
theorem dX5_read_26 : decode cX5_read 26 = .ok (.iconst (-1), 1) := by decide +kernel
theorem dX5_read_27 : decode cX5_read 27 = .ok (.ireturn, 1) := by decide +kernel
theorem dX5_read_28 : decode cX5_read 28 = .ok (.aload_n 0, 1) := by decide +kernel
theorem dX5_read_29 : decode cX5_read 29 = .ok (.getfield 33, 3) := by decide +kernel
theorem dX5_read_32 : decode cX5_read 32 = .ok (.iload_n 1, 1) := by decide +kernel
theorem dX5_read_33 : decode cX5_read 33 = .ok (.aaload, 1) := by decide +kernel
theorem dX5_read_34 : decode cX5_read 34 = .ok (.astore 5, 2) := by decide +kernel
theorem dX5_read_36 : decode cX5_read 36 = .ok (.iconst 0, 1) := by decide +kernel
theorem dX5_read_37 : decode cX5_read 37 = .ok (.istore 6, 2) := by decide +kernel
theorem dX5_read_39 : decode cX5_read 39 = .ok (.iconst 0, 1) := by decide +kernel
theorem dX5_read_40 : decode cX5_read 40 = .ok (.istore 7, 2) := by decide +kernel
theorem dX5_read_42 : decode cX5_read 42 = .ok (.iconst 0, 1) := by decide +kernel
theorem dX5_read_43 : decode cX5_read 43 = .ok (.istore 8, 2) := by decide +kernel
theorem dX5_read_45 : decode cX5_read 45 = .ok (.iload 8, 2) := by decide +kernel
theorem dX5_read_47 : decode cX5_read 47 = .ok (.iload 4, 2) := by decide +kernel
theorem dX5_read_49 : decode cX5_read 49 = .ok (.if_icmp .ge 57, 3) := by decide +kernel
theorem dX5_read_52 : decode cX5_read 52 = .ok (.iload 7, 2) := by decide +kernel
theorem dX5_read_54 : decode cX5_read 54 = .ok (.ifCond .ne 52, 3) := by decide +kernel
theorem dX5_read_57 : decode cX5_read 57 = .ok (.iload_n 3, 1) := by decide +kernel
theorem dX5_read_58 : decode cX5_read 58 = .ok (.iconst 4, 1) := by decide +kernel
theorem dX5_read_59 : decode cX5_read 59 = .ok (.iload 8, 2) := by decide +kernel
theorem dX5_read_61 : decode cX5_read 61 = .ok (.imul, 1) := by decide +kernel
theorem dX5_read_62 : decode cX5_read 62 = .ok (.iadd, 1) := by decide +kernel
theorem dX5_read_63 : decode cX5_read 63 = .ok (.istore 9, 2) := by decide +kernel
theorem dX5_read_65 : decode cX5_read 65 = .ok (.aload 5, 2) := by decide +kernel
theorem dX5_read_67 : decode cX5_read 67 = .ok (.iload_n 2, 1) := by decide +kernel
theorem dX5_read_68 : decode cX5_read 68 = .ok (.iload 9, 2) := by decide +kernel
theorem dX5_read_70 : decode cX5_read 70 = .ok (.invokevirtual 237, 3) := by decide +kernel
theorem dX5_read_73 : decode cX5_read 73 = .ok (.istore 7, 2) := by decide +kernel
theorem dX5_read_75 : decode cX5_read 75 = .ok (.iload 7, 2) := by decide +kernel
theorem dX5_read_77 : decode cX5_read 77 = .ok (.ifCond .ne 23, 3) := by decide +kernel
theorem dX5_read_80 : decode cX5_read 80 = .ok (.aload_n 0, 1) := by decide +kernel
theorem dX5_read_81 : decode cX5_read 81 = .ok (.aload 5, 2) := by decide +kernel
theorem dX5_read_83 : decode cX5_read 83 = .ok (.iload 9, 2) := by decide +kernel
theorem dX5_read_85 : decode cX5_read 85 = .ok (.invokevirtual 240, 3) := by decide +kernel
theorem dX5_read_88 : decode cX5_read 88 = .ok (.ifCond .ne 9, 3) := by decide +kernel
theorem dX5_read_91 : decode cX5_read 91 = .ok (.bipush (-20), 2) := by decide +kernel
theorem dX5_read_93 : decode cX5_read 93 = .ok (.iload 8, 2) := by decide +kernel
theorem dX5_read_95 : decode cX5_read 95 = .ok (.isub, 1) := by decide +kernel
theorem dX5_read_96 : decode cX5_read 96 = .ok (.ireturn, 1) := by decide +kernel
theorem dX5_read_97 : decode cX5_read 97 = .ok (.iinc 6 1, 3) := by decide +kernel
theorem dX5_read_100 : decode cX5_read 100 = .ok (.iinc 8 1, 3) := by decide +kernel
theorem dX5_read_103 : decode cX5_read 103 = .ok (.goto (-58), 3) := by decide +kernel
theorem dX5_read_106 : decode cX5_read 106 = .ok (.iconst 0, 1) := by decide +kernel
