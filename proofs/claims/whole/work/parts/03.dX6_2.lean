theorem dX6_startsSteps_20 : decode cX6_startsSteps 20 = .ok (.if_icmp .ge 47, 3) := by decide +kernel
theorem dX6_startsSteps_23 : decode cX6_startsSteps 23 = .ok (.iload_n 2, 1) := by decide +kernel
theorem dX6_startsSteps_24 : decode cX6_startsSteps 24 = .ok (.ifCond .eq 9, 3) := by decide +kernel
theorem dX6_startsSteps_27 : decode cX6_startsSteps 27 = .ok (.iload_n 3, 1) := by decide +kernel
theorem dX6_startsSteps_28 : decode cX6_startsSteps 28 = .ok (.iconst 1, 1) := by decide +kernel
theorem dX6_startsSteps_29 : decode cX6_startsSteps 29 = .ok (.isub, 1) := by decide +kernel
theorem dX6_startsSteps_30 : decode cX6_startsSteps 30 = .ok (.goto 4, 3) := by decide +kernel
theorem dX6_startsSteps_33 : decode cX6_startsSteps 33 = .ok (.iload_n 3, 1) := by decide +kernel
theorem dX6_startsSteps_34 : decode cX6_startsSteps 34 = .ok (.istore 4, 2) := by decide +kernel
theorem dX6_startsSteps_36 : decode cX6_startsSteps 36 = .ok (.iload 4, 2) := by decide +kernel
theorem dX6_startsSteps_38 : decode cX6_startsSteps 38 = .ok (.ifCond .lt 12, 3) := by decide +kernel
theorem dX6_startsSteps_41 : decode cX6_startsSteps 41 = .ok (.aload_n 0, 1) := by decide +kernel
theorem dX6_startsSteps_42 : decode cX6_startsSteps 42 = .ok (.iload_n 3, 1) := by decide +kernel
theorem dX6_startsSteps_43 : decode cX6_startsSteps 43 = .ok (.iload 4, 2) := by decide +kernel
theorem dX6_startsSteps_45 : decode cX6_startsSteps 45 = .ok (.iconst (-1), 1) := by decide +kernel
theorem dX6_startsSteps_46 : decode cX6_startsSteps 46 = .ok (.iconst 0, 1) := by decide +kernel
theorem dX6_startsSteps_47 : decode cX6_startsSteps 47 = .ok (.invokevirtual 191, 3) := by decide +kernel
theorem dX6_startsSteps_50 : decode cX6_startsSteps 50 = .ok (.aload_n 0, 1) := by decide +kernel
theorem dX6_startsSteps_51 : decode cX6_startsSteps 51 = .ok (.iload_n 3, 1) := by decide +kernel
theorem dX6_startsSteps_52 : decode cX6_startsSteps 52 = .ok (.iload 4, 2) := by decide +kernel
theorem dX6_startsSteps_54 : decode cX6_startsSteps 54 = .ok (.iconst 1, 1) := by decide +kernel
theorem dX6_startsSteps_55 : decode cX6_startsSteps 55 = .ok (.iadd, 1) := by decide +kernel
theorem dX6_startsSteps_56 : decode cX6_startsSteps 56 = .ok (.iconst 0, 1) := by decide +kernel
theorem dX6_startsSteps_57 : decode cX6_startsSteps 57 = .ok (.iconst 1, 1) := by decide +kernel
theorem dX6_startsSteps_58 : decode cX6_startsSteps 58 = .ok (.invokevirtual 191, 3) := by decide +kernel
theorem dX6_startsSteps_61 : decode cX6_startsSteps 61 = .ok (.iinc 3 1, 3) := by decide +kernel
theorem dX6_startsSteps_64 : decode cX6_startsSteps 64 = .ok (.goto (-46), 3) := by decide +kernel
theorem dX6_startsSteps_67 : decode cX6_startsSteps 67 = .ok (.return_, 1) := by decide +kernel
theorem dX6_steps_0 : decode cX6_steps 0 = .ok (.iload_n 1, 1) := by decide +kernel
theorem dX6_steps_1 : decode cX6_steps 1 = .ok (.i2l, 1) := by decide +kernel
theorem dX6_steps_2 : decode cX6_steps 2 = .ok (.lconst 0, 1) := by decide +kernel
theorem dX6_steps_3 : decode cX6_steps 3 = .ok (.ldc2_w 243, 3) := by decide +kernel
theorem dX6_steps_6 : decode cX6_steps 6 = .ok (.invokestatic 64, 3) := by decide +kernel
theorem dX6_steps_9 : decode cX6_steps 9 = .ok (.ifCond .eq 10, 3) := by decide +kernel
theorem dX6_steps_12 : decode cX6_steps 12 = .ok (.iload_n 2, 1) := by decide +kernel
theorem dX6_steps_13 : decode cX6_steps 13 = .ok (.invokestatic 252, 3) := by decide +kernel
theorem dX6_steps_16 : decode cX6_steps 16 = .ok (.ifCond .ne 5, 3) := by decide +kernel
theorem dX6_steps_19 : decode cX6_steps 19 = .ok (.iconst (-1), 1) := by decide +kernel
theorem dX6_steps_20 : decode cX6_steps 20 = .ok (.ireturn, 1) := by decide +kernel
theorem dX6_steps_21 : decode cX6_steps 21 = .ok (.aload_n 0, 1) := by decide +kernel
theorem dX6_steps_22 : decode cX6_steps 22 = .ok (.iload_n 1, 1) := by decide +kernel
theorem dX6_steps_23 : decode cX6_steps 23 = .ok (.iconst 0, 1) := by decide +kernel
theorem dX6_steps_24 : decode cX6_steps 24 = .ok (.invokevirtual 255, 3) := by decide +kernel
theorem dX6_steps_27 : decode cX6_steps 27 = .ok (.aload_n 0, 1) := by decide +kernel
theorem dX6_steps_28 : decode cX6_steps 28 = .ok (.invokevirtual 194, 3) := by decide +kernel
theorem dX6_steps_31 : decode cX6_steps 31 = .ok (.istore_n 3, 1) := by decide +kernel
theorem dX6_steps_32 : decode cX6_steps 32 = .ok (.iload_n 2, 1) := by decide +kernel
theorem dX6_steps_33 : decode cX6_steps 33 = .ok (.ifCond .ne 5, 3) := by decide +kernel
theorem dX6_steps_36 : decode cX6_steps 36 = .ok (.iload_n 3, 1) := by decide +kernel
theorem dX6_steps_37 : decode cX6_steps 37 = .ok (.ireturn, 1) := by decide +kernel
theorem dX6_steps_38 : decode cX6_steps 38 = .ok (.aload_n 0, 1) := by decide +kernel
theorem dX6_steps_39 : decode cX6_steps 39 = .ok (.iload_n 1, 1) := by decide +kernel
theorem dX6_steps_40 : decode cX6_steps 40 = .ok (.iconst 1, 1) := by decide +kernel
theorem dX6_steps_41 : decode cX6_steps 41 = .ok (.invokevirtual 255, 3) := by decide +kernel
theorem dX6_steps_44 : decode cX6_steps 44 = .ok (.iload_n 3, 1) := by decide +kernel
theorem dX6_steps_45 : decode cX6_steps 45 = .ok (.aload_n 0, 1) := by decide +kernel
theorem dX6_steps_46 : decode cX6_steps 46 = .ok (.invokevirtual 194, 3) := by decide +kernel
theorem dX6_steps_49 : decode cX6_steps 49 = .ok (.isub, 1) := by decide +kernel
theorem dX6_steps_50 : decode cX6_steps 50 = .ok (.ireturn, 1) := by decide +kernel
theorem dX6_isColumn_0 : decode cX6_isColumn 0 = .ok (.iload_n 1, 1) := by decide +kernel
theorem dX6_isColumn_1 : decode cX6_isColumn 1 = .ok (.istore_n 2, 1) := by decide +kernel
theorem dX6_isColumn_2 : decode cX6_isColumn 2 = .ok (.iload_n 1, 1) := by decide +kernel
theorem dX6_isColumn_3 : decode cX6_isColumn 3 = .ok (.ifCond .lt 7, 3) := by decide +kernel
theorem dX6_isColumn_6 : decode cX6_isColumn 6 = .ok (.iconst 1, 1) := by decide +kernel
theorem dX6_isColumn_7 : decode cX6_isColumn 7 = .ok (.goto 4, 3) := by decide +kernel
theorem dX6_isColumn_10 : decode cX6_isColumn 10 = .ok (.iconst 0, 1) := by decide +kernel
theorem dX6_isColumn_11 : decode cX6_isColumn 11 = .ok (.istore_n 3, 1) := by decide +kernel
theorem dX6_isColumn_12 : decode cX6_isColumn 12 = .ok (.iconst 0, 1) := by decide +kernel
theorem dX6_isColumn_13 : decode cX6_isColumn 13 = .ok (.istore 4, 2) := by decide +kernel
theorem dX6_isColumn_15 : decode cX6_isColumn 15 = .ok (.iload 4, 2) := by decide +kernel
theorem dX6_isColumn_17 : decode cX6_isColumn 17 = .ok (.aload_n 0, 1) := by decide +kernel
theorem dX6_isColumn_18 : decode cX6_isColumn 18 = .ok (.getfield 7, 3) := by decide +kernel
theorem dX6_isColumn_21 : decode cX6_isColumn 21 = .ok (.iconst 2, 1) := by decide +kernel
theorem dX6_isColumn_22 : decode cX6_isColumn 22 = .ok (.iaload, 1) := by decide +kernel
theorem dX6_isColumn_23 : decode cX6_isColumn 23 = .ok (.if_icmp .ge 51, 3) := by decide +kernel
theorem dX6_isColumn_26 : decode cX6_isColumn 26 = .ok (.aload_n 0, 1) := by decide +kernel
theorem dX6_isColumn_27 : decode cX6_isColumn 27 = .ok (.getfield 38, 3) := by decide +kernel
theorem dX6_isColumn_30 : decode cX6_isColumn 30 = .ok (.iload 4, 2) := by decide +kernel
theorem dX6_isColumn_32 : decode cX6_isColumn 32 = .ok (.iload_n 2, 1) := by decide +kernel
theorem dX6_isColumn_33 : decode cX6_isColumn 33 = .ok (.bipush 10, 2) := by decide +kernel
theorem dX6_isColumn_35 : decode cX6_isColumn 35 = .ok (.irem, 1) := by decide +kernel
theorem dX6_isColumn_36 : decode cX6_isColumn 36 = .ok (.iastore, 1) := by decide +kernel
theorem dX6_isColumn_37 : decode cX6_isColumn 37 = .ok (.iload_n 3, 1) := by decide +kernel
theorem dX6_isColumn_38 : decode cX6_isColumn 38 = .ok (.ifCond .eq 23, 3) := by decide +kernel
theorem dX6_isColumn_41 : decode cX6_isColumn 41 = .ok (.aload_n 0, 1) := by decide +kernel
theorem dX6_isColumn_42 : decode cX6_isColumn 42 = .ok (.getfield 38, 3) := by decide +kernel
theorem dX6_isColumn_45 : decode cX6_isColumn 45 = .ok (.iload 4, 2) := by decide +kernel
theorem dX6_isColumn_47 : decode cX6_isColumn 47 = .ok (.iaload, 1) := by decide +kernel
theorem dX6_isColumn_48 : decode cX6_isColumn 48 = .ok (.aload_n 0, 1) := by decide +kernel
theorem dX6_isColumn_49 : decode cX6_isColumn 49 = .ok (.getfield 7, 3) := by decide +kernel
theorem dX6_isColumn_52 : decode cX6_isColumn 52 = .ok (.iconst 0, 1) := by decide +kernel
theorem dX6_isColumn_53 : decode cX6_isColumn 53 = .ok (.iaload, 1) := by decide +kernel
theorem dX6_isColumn_54 : decode cX6_isColumn 54 = .ok (.if_icmp .ge 7, 3) := by decide +kernel
theorem dX6_isColumn_57 : decode cX6_isColumn 57 = .ok (.iconst 1, 1) := by decide +kernel
theorem dX6_isColumn_58 : decode cX6_isColumn 58 = .ok (.goto 4, 3) := by decide +kernel
theorem dX6_isColumn_61 : decode cX6_isColumn 61 = .ok (.iconst 0, 1) := by decide +kernel
theorem dX6_isColumn_62 : decode cX6_isColumn 62 = .ok (.istore_n 3, 1) := by decide +kernel
theorem dX6_isColumn_63 : decode cX6_isColumn 63 = .ok (.iload_n 2, 1) := by decide +kernel
theorem dX6_isColumn_64 : decode cX6_isColumn 64 = .ok (.bipush 10, 2) := by decide +kernel
theorem dX6_isColumn_66 : decode cX6_isColumn 66 = .ok (.idiv, 1) := by decide +kernel
theorem dX6_isColumn_67 : decode cX6_isColumn 67 = .ok (.istore_n 2, 1) := by decide +kernel
theorem dX6_isColumn_68 : decode cX6_isColumn 68 = .ok (.iinc 4 1, 3) := by decide +kernel
theorem dX6_isColumn_71 : decode cX6_isColumn 71 = .ok (.goto (-56), 3) := by decide +kernel
theorem dX6_isColumn_74 : decode cX6_isColumn 74 = .ok (.iload_n 3, 1) := by decide +kernel
theorem dX6_isColumn_75 : decode cX6_isColumn 75 = .ok (.ifCond .eq 11, 3) := by decide +kernel
theorem dX6_isColumn_78 : decode cX6_isColumn 78 = .ok (.iload_n 2, 1) := by decide +kernel
theorem dX6_isColumn_79 : decode cX6_isColumn 79 = .ok (.ifCond .ne 7, 3) := by decide +kernel
theorem dX6_isColumn_82 : decode cX6_isColumn 82 = .ok (.iconst 1, 1) := by decide +kernel
theorem dX6_isColumn_83 : decode cX6_isColumn 83 = .ok (.goto 4, 3) := by decide +kernel
theorem dX6_isColumn_86 : decode cX6_isColumn 86 = .ok (.iconst 0, 1) := by decide +kernel
theorem dX6_isColumn_87 : decode cX6_isColumn 87 = .ok (.ireturn, 1) := by decide +kernel
theorem dX6_go_0 : decode cX6_go 0 = .ok (.aload_n 0, 1) := by decide +kernel
theorem dX6_go_1 : decode cX6_go 1 = .ok (.iload_n 1, 1) := by decide +kernel
theorem dX6_go_2 : decode cX6_go 2 = .ok (.invokevirtual 259, 3) := by decide +kernel
theorem dX6_go_5 : decode cX6_go 5 = .ok (.ifCond .eq 15, 3) := by decide +kernel
theorem dX6_go_8 : decode cX6_go 8 = .ok (.iload_n 2, 1) := by decide +kernel
theorem dX6_go_9 : decode cX6_go 9 = .ok (.i2l, 1) := by decide +kernel
theorem dX6_go_10 : decode cX6_go 10 = .ok (.lconst 0, 1) := by decide +kernel
theorem dX6_go_11 : decode cX6_go 11 = .ok (.ldc2_w 243, 3) := by decide +kernel
theorem dX6_go_14 : decode cX6_go 14 = .ok (.invokestatic 64, 3) := by decide +kernel
theorem dX6_go_17 : decode cX6_go 17 = .ok (.ifCond .ne 5, 3) := by decide +kernel
theorem dX6_go_20 : decode cX6_go 20 = .ok (.iconst (-1), 1) := by decide +kernel
theorem dX6_go_21 : decode cX6_go 21 = .ok (.ireturn, 1) := by decide +kernel
theorem dX6_go_22 : decode cX6_go 22 = .ok (.iload_n 2, 1) := by decide +kernel
theorem dX6_go_23 : decode cX6_go 23 = .ok (.ifCond .ne 5, 3) := by decide +kernel
theorem dX6_go_26 : decode cX6_go 26 = .ok (.iconst 1, 1) := by decide +kernel
theorem dX6_go_27 : decode cX6_go 27 = .ok (.ireturn, 1) := by decide +kernel
theorem dX6_go_28 : decode cX6_go 28 = .ok (.aload_n 0, 1) := by decide +kernel
theorem dX6_go_29 : decode cX6_go 29 = .ok (.iload_n 2, 1) := by decide +kernel
theorem dX6_go_30 : decode cX6_go 30 = .ok (.iconst 1, 1) := by decide +kernel
theorem dX6_go_31 : decode cX6_go 31 = .ok (.invokevirtual 255, 3) := by decide +kernel
theorem dX6_go_34 : decode cX6_go 34 = .ok (.iconst 0, 1) := by decide +kernel
theorem dX6_go_35 : decode cX6_go 35 = .ok (.istore_n 3, 1) := by decide +kernel
theorem dX6_go_36 : decode cX6_go 36 = .ok (.iload_n 3, 1) := by decide +kernel
theorem dX6_go_37 : decode cX6_go 37 = .ok (.aload_n 0, 1) := by decide +kernel
theorem dX6_go_38 : decode cX6_go 38 = .ok (.getfield 7, 3) := by decide +kernel
theorem dX6_go_41 : decode cX6_go 41 = .ok (.iconst 1, 1) := by decide +kernel
theorem dX6_go_42 : decode cX6_go 42 = .ok (.iaload, 1) := by decide +kernel
theorem dX6_go_43 : decode cX6_go 43 = .ok (.if_icmp .ge 73, 3) := by decide +kernel
theorem dX6_go_46 : decode cX6_go 46 = .ok (.iconst 0, 1) := by decide +kernel
theorem dX6_go_47 : decode cX6_go 47 = .ok (.istore 4, 2) := by decide +kernel
theorem dX6_go_49 : decode cX6_go 49 = .ok (.iconst 0, 1) := by decide +kernel
theorem dX6_go_50 : decode cX6_go 50 = .ok (.istore 5, 2) := by decide +kernel
theorem dX6_go_52 : decode cX6_go 52 = .ok (.iload 5, 2) := by decide +kernel
theorem dX6_go_54 : decode cX6_go 54 = .ok (.aload_n 0, 1) := by decide +kernel
theorem dX6_go_55 : decode cX6_go 55 = .ok (.getfield 7, 3) := by decide +kernel
theorem dX6_go_58 : decode cX6_go 58 = .ok (.iconst 2, 1) := by decide +kernel
theorem dX6_go_59 : decode cX6_go 59 = .ok (.iaload, 1) := by decide +kernel
theorem dX6_go_60 : decode cX6_go 60 = .ok (.if_icmp .ge 30, 3) := by decide +kernel
theorem dX6_go_63 : decode cX6_go 63 = .ok (.iload 4, 2) := by decide +kernel
theorem dX6_go_65 : decode cX6_go 65 = .ok (.aload_n 0, 1) := by decide +kernel
theorem dX6_go_66 : decode cX6_go 66 = .ok (.iconst 0, 1) := by decide +kernel
theorem dX6_go_67 : decode cX6_go 67 = .ok (.iload_n 3, 1) := by decide +kernel
theorem dX6_go_68 : decode cX6_go 68 = .ok (.iload 5, 2) := by decide +kernel
theorem dX6_go_70 : decode cX6_go 70 = .ok (.invokevirtual 150, 3) := by decide +kernel
theorem dX6_go_73 : decode cX6_go 73 = .ok (.aload_n 0, 1) := by decide +kernel
theorem dX6_go_74 : decode cX6_go 74 = .ok (.getfield 38, 3) := by decide +kernel
theorem dX6_go_77 : decode cX6_go 77 = .ok (.iload 5, 2) := by decide +kernel
theorem dX6_go_79 : decode cX6_go 79 = .ok (.iaload, 1) := by decide +kernel
theorem dX6_go_80 : decode cX6_go 80 = .ok (.imul, 1) := by decide +kernel
theorem dX6_go_81 : decode cX6_go 81 = .ok (.iadd, 1) := by decide +kernel
theorem dX6_go_82 : decode cX6_go 82 = .ok (.istore 4, 2) := by decide +kernel
theorem dX6_go_84 : decode cX6_go 84 = .ok (.iinc 5 1, 3) := by decide +kernel
theorem dX6_go_87 : decode cX6_go 87 = .ok (.goto (-35), 3) := by decide +kernel
theorem dX6_go_90 : decode cX6_go 90 = .ok (.aload_n 0, 1) := by decide +kernel
theorem dX6_go_91 : decode cX6_go 91 = .ok (.getfield 26, 3) := by decide +kernel
theorem dX6_go_94 : decode cX6_go 94 = .ok (.bipush 21, 2) := by decide +kernel
theorem dX6_go_96 : decode cX6_go 96 = .ok (.iload_n 3, 1) := by decide +kernel
theorem dX6_go_97 : decode cX6_go 97 = .ok (.imul, 1) := by decide +kernel
theorem dX6_go_98 : decode cX6_go 98 = .ok (.aload_n 0, 1) := by decide +kernel
theorem dX6_go_99 : decode cX6_go 99 = .ok (.getfield 163, 3) := by decide +kernel
theorem dX6_go_102 : decode cX6_go 102 = .ok (.iadd, 1) := by decide +kernel
theorem dX6_go_103 : decode cX6_go 103 = .ok (.aload_n 0, 1) := by decide +kernel
theorem dX6_go_104 : decode cX6_go 104 = .ok (.iload 4, 2) := by decide +kernel
theorem dX6_go_106 : decode cX6_go 106 = .ok (.invokevirtual 169, 3) := by decide +kernel
theorem dX6_go_109 : decode cX6_go 109 = .ok (.iastore, 1) := by decide +kernel
theorem dX6_go_110 : decode cX6_go 110 = .ok (.iinc 3 1, 3) := by decide +kernel
theorem dX6_go_113 : decode cX6_go 113 = .ok (.goto (-77), 3) := by decide +kernel
theorem dX6_go_116 : decode cX6_go 116 = .ok (.aload_n 0, 1) := by decide +kernel
theorem dX6_go_117 : decode cX6_go 117 = .ok (.aload_n 0, 1) := by decide +kernel
theorem dX6_go_118 : decode cX6_go 118 = .ok (.getfield 163, 3) := by decide +kernel
theorem dX6_go_121 : decode cX6_go 121 = .ok (.invokevirtual 185, 3) := by decide +kernel
theorem dX6_go_124 : decode cX6_go 124 = .ok (.istore_n 3, 1) := by decide +kernel
theorem dX6_go_125 : decode cX6_go 125 = .ok (.aload_n 0, 1) := by decide +kernel
theorem dX6_go_126 : decode cX6_go 126 = .ok (.iload_n 3, 1) := by decide +kernel
theorem dX6_go_127 : decode cX6_go 127 = .ok (.invokevirtual 262, 3) := by decide +kernel
theorem dX6_go_130 : decode cX6_go 130 = .ok (.invokestatic 214, 3) := by decide +kernel
theorem dX6_go_133 : decode cX6_go 133 = .ok (.ireturn, 1) := by decide +kernel
theorem dX6_rankFrom_0 : decode cX6_rankFrom 0 = .ok (.iconst 1, 1) := by decide +kernel
theorem dX6_rankFrom_1 : decode cX6_rankFrom 1 = .ok (.istore_n 2, 1) := by decide +kernel
theorem dX6_rankFrom_2 : decode cX6_rankFrom 2 = .ok (.iload_n 1, 1) := by decide +kernel
theorem dX6_rankFrom_3 : decode cX6_rankFrom 3 = .ok (.istore_n 3, 1) := by decide +kernel
theorem dX6_rankFrom_4 : decode cX6_rankFrom 4 = .ok (.iload_n 3, 1) := by decide +kernel
theorem dX6_rankFrom_5 : decode cX6_rankFrom 5 = .ok (.aload_n 0, 1) := by decide +kernel
theorem dX6_rankFrom_6 : decode cX6_rankFrom 6 = .ok (.getfield 157, 3) := by decide +kernel
theorem dX6_rankFrom_9 : decode cX6_rankFrom 9 = .ok (.if_icmp .ge 36, 3) := by decide +kernel
theorem dX6_rankFrom_12 : decode cX6_rankFrom 12 = .ok (.iload_n 2, 1) := by decide +kernel
theorem dX6_rankFrom_13 : decode cX6_rankFrom 13 = .ok (.ifCond .eq 24, 3) := by decide +kernel
theorem dX6_rankFrom_16 : decode cX6_rankFrom 16 = .ok (.aload_n 0, 1) := by decide +kernel
theorem dX6_rankFrom_17 : decode cX6_rankFrom 17 = .ok (.getfield 26, 3) := by decide +kernel
theorem dX6_rankFrom_20 : decode cX6_rankFrom 20 = .ok (.bipush 21, 2) := by decide +kernel
theorem dX6_rankFrom_22 : decode cX6_rankFrom 22 = .ok (.iload_n 3, 1) := by decide +kernel
theorem dX6_rankFrom_23 : decode cX6_rankFrom 23 = .ok (.imul, 1) := by decide +kernel
theorem dX6_rankFrom_24 : decode cX6_rankFrom 24 = .ok (.aload_n 0, 1) := by decide +kernel
theorem dX6_rankFrom_25 : decode cX6_rankFrom 25 = .ok (.getfield 163, 3) := by decide +kernel
theorem dX6_rankFrom_28 : decode cX6_rankFrom 28 = .ok (.iadd, 1) := by decide +kernel
theorem dX6_rankFrom_29 : decode cX6_rankFrom 29 = .ok (.iaload, 1) := by decide +kernel
theorem dX6_rankFrom_30 : decode cX6_rankFrom 30 = .ok (.ifCond .ne 7, 3) := by decide +kernel
theorem dX6_rankFrom_33 : decode cX6_rankFrom 33 = .ok (.iconst 1, 1) := by decide +kernel
theorem dX6_rankFrom_34 : decode cX6_rankFrom 34 = .ok (.goto 4, 3) := by decide +kernel
theorem dX6_rankFrom_37 : decode cX6_rankFrom 37 = .ok (.iconst 0, 1) := by decide +kernel
theorem dX6_rankFrom_38 : decode cX6_rankFrom 38 = .ok (.istore_n 2, 1) := by decide +kernel
theorem dX6_rankFrom_39 : decode cX6_rankFrom 39 = .ok (.iinc 3 1, 3) := by decide +kernel
theorem dX6_rankFrom_42 : decode cX6_rankFrom 42 = .ok (.goto (-38), 3) := by decide +kernel
theorem dX6_rankFrom_45 : decode cX6_rankFrom 45 = .ok (.iload_n 2, 1) := by decide +kernel
theorem dX6_rankFrom_46 : decode cX6_rankFrom 46 = .ok (.ireturn, 1) := by decide +kernel
theorem dX6_set_0 : decode cX6_set 0 = .ok (.aload_n 0, 1) := by decide +kernel
theorem dX6_set_1 : decode cX6_set 1 = .ok (.iload_n 1, 1) := by decide +kernel
theorem dX6_set_2 : decode cX6_set 2 = .ok (.invokevirtual 233, 3) := by decide +kernel
theorem dX6_set_5 : decode cX6_set 5 = .ok (.ifCond .eq 31, 3) := by decide +kernel
theorem dX6_set_8 : decode cX6_set 8 = .ok (.aload_n 0, 1) := by decide +kernel
theorem dX6_set_9 : decode cX6_set 9 = .ok (.iload_n 2, 1) := by decide +kernel
theorem dX6_set_10 : decode cX6_set 10 = .ok (.iload_n 3, 1) := by decide +kernel
theorem dX6_set_11 : decode cX6_set 11 = .ok (.invokevirtual 236, 3) := by decide +kernel
theorem dX6_set_14 : decode cX6_set 14 = .ok (.ifCond .eq 22, 3) := by decide +kernel
theorem dX6_set_17 : decode cX6_set 17 = .ok (.iload 4, 2) := by decide +kernel
theorem dX6_set_19 : decode cX6_set 19 = .ok (.i2l, 1) := by decide +kernel
theorem dX6_set_20 : decode cX6_set 20 = .ok (.lconst 0, 1) := by decide +kernel
theorem dX6_set_21 : decode cX6_set 21 = .ok (.aload_n 0, 1) := by decide +kernel
theorem dX6_set_22 : decode cX6_set 22 = .ok (.getfield 7, 3) := by decide +kernel
theorem dX6_set_25 : decode cX6_set 25 = .ok (.iconst 0, 1) := by decide +kernel
theorem dX6_set_26 : decode cX6_set 26 = .ok (.iaload, 1) := by decide +kernel
theorem dX6_set_27 : decode cX6_set 27 = .ok (.iconst 1, 1) := by decide +kernel
theorem dX6_set_28 : decode cX6_set 28 = .ok (.isub, 1) := by decide +kernel
theorem dX6_set_29 : decode cX6_set 29 = .ok (.i2l, 1) := by decide +kernel
theorem dX6_set_30 : decode cX6_set 30 = .ok (.invokestatic 64, 3) := by decide +kernel
theorem dX6_set_33 : decode cX6_set 33 = .ok (.ifCond .ne 5, 3) := by decide +kernel
theorem dX6_set_36 : decode cX6_set 36 = .ok (.iconst (-1), 1) := by decide +kernel
theorem dX6_set_37 : decode cX6_set 37 = .ok (.ireturn, 1) := by decide +kernel
theorem dX6_set_38 : decode cX6_set 38 = .ok (.aload_n 0, 1) := by decide +kernel
theorem dX6_set_39 : decode cX6_set 39 = .ok (.iload_n 1, 1) := by decide +kernel
theorem dX6_set_40 : decode cX6_set 40 = .ok (.iload_n 2, 1) := by decide +kernel
theorem dX6_set_41 : decode cX6_set 41 = .ok (.iload_n 3, 1) := by decide +kernel
theorem dX6_set_42 : decode cX6_set 42 = .ok (.invokevirtual 150, 3) := by decide +kernel
theorem dX6_set_45 : decode cX6_set 45 = .ok (.istore 5, 2) := by decide +kernel
theorem dX6_set_47 : decode cX6_set 47 = .ok (.aload_n 0, 1) := by decide +kernel
theorem dX6_set_48 : decode cX6_set 48 = .ok (.iload_n 1, 1) := by decide +kernel
theorem dX6_set_49 : decode cX6_set 49 = .ok (.iload_n 2, 1) := by decide +kernel
theorem dX6_set_50 : decode cX6_set 50 = .ok (.iload_n 3, 1) := by decide +kernel
theorem dX6_set_51 : decode cX6_set 51 = .ok (.iload 4, 2) := by decide +kernel
theorem dX6_set_53 : decode cX6_set 53 = .ok (.invokevirtual 265, 3) := by decide +kernel
theorem dX6_set_56 : decode cX6_set 56 = .ok (.iload 5, 2) := by decide +kernel
theorem dX6_set_58 : decode cX6_set 58 = .ok (.ireturn, 1) := by decide +kernel
theorem dX6_open_0 : decode cX6_open 0 = .ok (.iload_n 1, 1) := by decide +kernel
theorem dX6_open_1 : decode cX6_open 1 = .ok (.invokestatic 252, 3) := by decide +kernel
theorem dX6_open_4 : decode cX6_open 4 = .ok (.ifCond .ne 5, 3) := by decide +kernel
theorem dX6_open_7 : decode cX6_open 7 = .ok (.iconst (-1), 1) := by decide +kernel
theorem dX6_open_8 : decode cX6_open 8 = .ok (.ireturn, 1) := by decide +kernel
theorem dX6_open_9 : decode cX6_open 9 = .ok (.aload_n 0, 1) := by decide +kernel
theorem dX6_open_10 : decode cX6_open 10 = .ok (.getfield 7, 3) := by decide +kernel
theorem dX6_open_13 : decode cX6_open 13 = .ok (.iconst 1, 1) := by decide +kernel
theorem dX6_open_14 : decode cX6_open 14 = .ok (.iload_n 1, 1) := by decide +kernel
theorem dX6_open_15 : decode cX6_open 15 = .ok (.iadd, 1) := by decide +kernel
theorem dX6_open_16 : decode cX6_open 16 = .ok (.iaload, 1) := by decide +kernel
theorem dX6_open_17 : decode cX6_open 17 = .ok (.istore_n 2, 1) := by decide +kernel
theorem dX6_open_18 : decode cX6_open 18 = .ok (.iload_n 2, 1) := by decide +kernel
theorem dX6_open_19 : decode cX6_open 19 = .ok (.iconst 4, 1) := by decide +kernel
theorem dX6_open_20 : decode cX6_open 20 = .ok (.if_icmp .ne 6, 3) := by decide +kernel
theorem dX6_open_23 : decode cX6_open 23 = .ok (.bipush (-3), 2) := by decide +kernel
theorem dX6_open_25 : decode cX6_open 25 = .ok (.ireturn, 1) := by decide +kernel
theorem dX6_open_26 : decode cX6_open 26 = .ok (.iconst 0, 1) := by decide +kernel
theorem dX6_open_27 : decode cX6_open 27 = .ok (.istore_n 3, 1) := by decide +kernel
theorem dX6_open_28 : decode cX6_open 28 = .ok (.iload_n 3, 1) := by decide +kernel
theorem dX6_open_29 : decode cX6_open 29 = .ok (.iconst 4, 1) := by decide +kernel
theorem dX6_open_30 : decode cX6_open 30 = .ok (.if_icmp .ge 49, 3) := by decide +kernel
theorem dX6_open_33 : decode cX6_open 33 = .ok (.iconst 0, 1) := by decide +kernel
theorem dX6_open_34 : decode cX6_open 34 = .ok (.istore 4, 2) := by decide +kernel
theorem dX6_open_36 : decode cX6_open 36 = .ok (.iload 4, 2) := by decide +kernel
theorem dX6_open_38 : decode cX6_open 38 = .ok (.iconst 2, 1) := by decide +kernel
theorem dX6_open_39 : decode cX6_open 39 = .ok (.if_icmp .ge 34, 3) := by decide +kernel
theorem dX6_open_42 : decode cX6_open 42 = .ok (.aload_n 0, 1) := by decide +kernel
theorem dX6_open_43 : decode cX6_open 43 = .ok (.iload 4, 2) := by decide +kernel
theorem dX6_open_45 : decode cX6_open 45 = .ok (.iload_n 1, 1) := by decide +kernel
theorem dX6_open_46 : decode cX6_open 46 = .ok (.ifCond .ne 7, 3) := by decide +kernel
theorem dX6_open_49 : decode cX6_open 49 = .ok (.iload_n 2, 1) := by decide +kernel
theorem dX6_open_50 : decode cX6_open 50 = .ok (.goto 4, 3) := by decide +kernel
theorem dX6_open_53 : decode cX6_open 53 = .ok (.iload_n 3, 1) := by decide +kernel
theorem dX6_open_54 : decode cX6_open 54 = .ok (.iload_n 1, 1) := by decide +kernel
theorem dX6_open_55 : decode cX6_open 55 = .ok (.ifCond .ne 7, 3) := by decide +kernel
theorem dX6_open_58 : decode cX6_open 58 = .ok (.iload_n 3, 1) := by decide +kernel
theorem dX6_open_59 : decode cX6_open 59 = .ok (.goto 4, 3) := by decide +kernel
theorem dX6_open_62 : decode cX6_open 62 = .ok (.iload_n 2, 1) := by decide +kernel
theorem dX6_open_63 : decode cX6_open 63 = .ok (.iconst 0, 1) := by decide +kernel
theorem dX6_open_64 : decode cX6_open 64 = .ok (.invokevirtual 265, 3) := by decide +kernel
theorem dX6_open_67 : decode cX6_open 67 = .ok (.iinc 4 1, 3) := by decide +kernel
theorem dX6_open_70 : decode cX6_open 70 = .ok (.goto (-34), 3) := by decide +kernel
theorem dX6_open_73 : decode cX6_open 73 = .ok (.iinc 3 1, 3) := by decide +kernel
theorem dX6_open_76 : decode cX6_open 76 = .ok (.goto (-48), 3) := by decide +kernel
theorem dX6_open_79 : decode cX6_open 79 = .ok (.aload_n 0, 1) := by decide +kernel
theorem dX6_open_80 : decode cX6_open 80 = .ok (.getfield 7, 3) := by decide +kernel
theorem dX6_open_83 : decode cX6_open 83 = .ok (.iconst 1, 1) := by decide +kernel
theorem dX6_open_84 : decode cX6_open 84 = .ok (.iload_n 1, 1) := by decide +kernel
theorem dX6_open_85 : decode cX6_open 85 = .ok (.iadd, 1) := by decide +kernel
theorem dX6_open_86 : decode cX6_open 86 = .ok (.iload_n 2, 1) := by decide +kernel
theorem dX6_open_87 : decode cX6_open 87 = .ok (.iconst 1, 1) := by decide +kernel
theorem dX6_open_88 : decode cX6_open 88 = .ok (.iadd, 1) := by decide +kernel
theorem dX6_open_89 : decode cX6_open 89 = .ok (.iastore, 1) := by decide +kernel
theorem dX6_open_90 : decode cX6_open 90 = .ok (.iload_n 2, 1) := by decide +kernel
theorem dX6_open_91 : decode cX6_open 91 = .ok (.iconst 1, 1) := by decide +kernel
theorem dX6_open_92 : decode cX6_open 92 = .ok (.iadd, 1) := by decide +kernel
theorem dX6_open_93 : decode cX6_open 93 = .ok (.ireturn, 1) := by decide +kernel
theorem dX6_shape_0 : decode cX6_shape 0 = .ok (.bipush 10, 2) := by decide +kernel
theorem dX6_shape_2 : decode cX6_shape 2 = .ok (.aload_n 0, 1) := by decide +kernel
theorem dX6_shape_3 : decode cX6_shape 3 = .ok (.getfield 7, 3) := by decide +kernel
theorem dX6_shape_6 : decode cX6_shape 6 = .ok (.iconst 1, 1) := by decide +kernel
theorem dX6_shape_7 : decode cX6_shape 7 = .ok (.iaload, 1) := by decide +kernel
theorem dX6_shape_8 : decode cX6_shape 8 = .ok (.imul, 1) := by decide +kernel
theorem dX6_shape_9 : decode cX6_shape 9 = .ok (.aload_n 0, 1) := by decide +kernel
theorem dX6_shape_10 : decode cX6_shape 10 = .ok (.getfield 7, 3) := by decide +kernel
theorem dX6_shape_13 : decode cX6_shape 13 = .ok (.iconst 2, 1) := by decide +kernel
theorem dX6_shape_14 : decode cX6_shape 14 = .ok (.iaload, 1) := by decide +kernel
theorem dX6_shape_15 : decode cX6_shape 15 = .ok (.iadd, 1) := by decide +kernel
theorem dX6_shape_16 : decode cX6_shape 16 = .ok (.ireturn, 1) := by decide +kernel
theorem dX6_cut_0 : decode cX6_cut 0 = .ok (.iload_n 1, 1) := by decide +kernel
theorem dX6_cut_1 : decode cX6_cut 1 = .ok (.i2l, 1) := by decide +kernel
theorem dX6_cut_2 : decode cX6_cut 2 = .ok (.lconst 0, 1) := by decide +kernel
theorem dX6_cut_3 : decode cX6_cut 3 = .ok (.aload_n 0, 1) := by decide +kernel
theorem dX6_cut_4 : decode cX6_cut 4 = .ok (.getfield 7, 3) := by decide +kernel
theorem dX6_cut_7 : decode cX6_cut 7 = .ok (.iconst 1, 1) := by decide +kernel
theorem dX6_cut_8 : decode cX6_cut 8 = .ok (.iaload, 1) := by decide +kernel
theorem dX6_cut_9 : decode cX6_cut 9 = .ok (.i2l, 1) := by decide +kernel
theorem dX6_cut_10 : decode cX6_cut 10 = .ok (.invokestatic 64, 3) := by decide +kernel
theorem dX6_cut_13 : decode cX6_cut 13 = .ok (.ifCond .eq 19, 3) := by decide +kernel
theorem dX6_cut_16 : decode cX6_cut 16 = .ok (.iload_n 2, 1) := by decide +kernel
theorem dX6_cut_17 : decode cX6_cut 17 = .ok (.i2l, 1) := by decide +kernel
theorem dX6_cut_18 : decode cX6_cut 18 = .ok (.lconst 0, 1) := by decide +kernel
theorem dX6_cut_19 : decode cX6_cut 19 = .ok (.aload_n 0, 1) := by decide +kernel
theorem dX6_cut_20 : decode cX6_cut 20 = .ok (.getfield 7, 3) := by decide +kernel
theorem dX6_cut_23 : decode cX6_cut 23 = .ok (.iconst 2, 1) := by decide +kernel
theorem dX6_cut_24 : decode cX6_cut 24 = .ok (.iaload, 1) := by decide +kernel
theorem dX6_cut_25 : decode cX6_cut 25 = .ok (.i2l, 1) := by decide +kernel
theorem dX6_cut_26 : decode cX6_cut 26 = .ok (.invokestatic 64, 3) := by decide +kernel
theorem dX6_cut_29 : decode cX6_cut 29 = .ok (.ifCond .ne 5, 3) := by decide +kernel
theorem dX6_cut_32 : decode cX6_cut 32 = .ok (.iconst (-1), 1) := by decide +kernel
theorem dX6_cut_33 : decode cX6_cut 33 = .ok (.ireturn, 1) := by decide +kernel
theorem dX6_cut_34 : decode cX6_cut 34 = .ok (.aload_n 0, 1) := by decide +kernel
theorem dX6_cut_35 : decode cX6_cut 35 = .ok (.invokevirtual 268, 3) := by decide +kernel
theorem dX6_cut_38 : decode cX6_cut 38 = .ok (.istore_n 3, 1) := by decide +kernel
theorem dX6_cut_39 : decode cX6_cut 39 = .ok (.aload_n 0, 1) := by decide +kernel
theorem dX6_cut_40 : decode cX6_cut 40 = .ok (.getfield 7, 3) := by decide +kernel
theorem dX6_cut_43 : decode cX6_cut 43 = .ok (.iconst 1, 1) := by decide +kernel
theorem dX6_cut_44 : decode cX6_cut 44 = .ok (.iload_n 1, 1) := by decide +kernel
theorem dX6_cut_45 : decode cX6_cut 45 = .ok (.iastore, 1) := by decide +kernel
theorem dX6_cut_46 : decode cX6_cut 46 = .ok (.aload_n 0, 1) := by decide +kernel
theorem dX6_cut_47 : decode cX6_cut 47 = .ok (.getfield 7, 3) := by decide +kernel
theorem dX6_cut_50 : decode cX6_cut 50 = .ok (.iconst 2, 1) := by decide +kernel
theorem dX6_cut_51 : decode cX6_cut 51 = .ok (.iload_n 2, 1) := by decide +kernel
theorem dX6_cut_52 : decode cX6_cut 52 = .ok (.iastore, 1) := by decide +kernel
theorem dX6_cut_53 : decode cX6_cut 53 = .ok (.iload_n 3, 1) := by decide +kernel
theorem dX6_cut_54 : decode cX6_cut 54 = .ok (.ireturn, 1) := by decide +kernel
theorem dX6_isLine_0 : decode cX6_isLine 0 = .ok (.iload_n 1, 1) := by decide +kernel
theorem dX6_isLine_1 : decode cX6_isLine 1 = .ok (.invokestatic 252, 3) := by decide +kernel
theorem dX6_isLine_4 : decode cX6_isLine 4 = .ok (.ifCond .eq 27, 3) := by decide +kernel
theorem dX6_isLine_7 : decode cX6_isLine 7 = .ok (.iload_n 2, 1) := by decide +kernel
theorem dX6_isLine_8 : decode cX6_isLine 8 = .ok (.i2l, 1) := by decide +kernel
theorem dX6_isLine_9 : decode cX6_isLine 9 = .ok (.lconst 0, 1) := by decide +kernel
theorem dX6_isLine_10 : decode cX6_isLine 10 = .ok (.aload_n 0, 1) := by decide +kernel
theorem dX6_isLine_11 : decode cX6_isLine 11 = .ok (.getfield 7, 3) := by decide +kernel
theorem dX6_isLine_14 : decode cX6_isLine 14 = .ok (.iconst 1, 1) := by decide +kernel
theorem dX6_isLine_15 : decode cX6_isLine 15 = .ok (.iload_n 1, 1) := by decide +kernel
theorem dX6_isLine_16 : decode cX6_isLine 16 = .ok (.iadd, 1) := by decide +kernel
theorem dX6_isLine_17 : decode cX6_isLine 17 = .ok (.iaload, 1) := by decide +kernel
theorem dX6_isLine_18 : decode cX6_isLine 18 = .ok (.iconst 1, 1) := by decide +kernel
theorem dX6_isLine_19 : decode cX6_isLine 19 = .ok (.isub, 1) := by decide +kernel
theorem dX6_isLine_20 : decode cX6_isLine 20 = .ok (.i2l, 1) := by decide +kernel
theorem dX6_isLine_21 : decode cX6_isLine 21 = .ok (.invokestatic 64, 3) := by decide +kernel
theorem dX6_isLine_24 : decode cX6_isLine 24 = .ok (.ifCond .eq 7, 3) := by decide +kernel
theorem dX6_isLine_27 : decode cX6_isLine 27 = .ok (.iconst 1, 1) := by decide +kernel
theorem dX6_isLine_28 : decode cX6_isLine 28 = .ok (.goto 4, 3) := by decide +kernel
theorem dX6_isLine_31 : decode cX6_isLine 31 = .ok (.iconst 0, 1) := by decide +kernel
theorem dX6_isLine_32 : decode cX6_isLine 32 = .ok (.ireturn, 1) := by decide +kernel
theorem dX6_isTimes_0 : decode cX6_isTimes 0 = .ok (.iload_n 1, 1) := by decide +kernel
theorem dX6_isTimes_1 : decode cX6_isTimes 1 = .ok (.i2l, 1) := by decide +kernel
theorem dX6_isTimes_2 : decode cX6_isTimes 2 = .ok (.lconst 1, 1) := by decide +kernel
theorem dX6_isTimes_3 : decode cX6_isTimes 3 = .ok (.aload_n 0, 1) := by decide +kernel
theorem dX6_isTimes_4 : decode cX6_isTimes 4 = .ok (.getfield 7, 3) := by decide +kernel
theorem dX6_isTimes_7 : decode cX6_isTimes 7 = .ok (.iconst 0, 1) := by decide +kernel
theorem dX6_isTimes_8 : decode cX6_isTimes 8 = .ok (.iaload, 1) := by decide +kernel
theorem dX6_isTimes_9 : decode cX6_isTimes 9 = .ok (.iconst 1, 1) := by decide +kernel
theorem dX6_isTimes_10 : decode cX6_isTimes 10 = .ok (.isub, 1) := by decide +kernel
theorem dX6_isTimes_11 : decode cX6_isTimes 11 = .ok (.i2l, 1) := by decide +kernel
theorem dX6_isTimes_12 : decode cX6_isTimes 12 = .ok (.invokestatic 64, 3) := by decide +kernel
theorem dX6_isTimes_15 : decode cX6_isTimes 15 = .ok (.ireturn, 1) := by decide +kernel
theorem dX6_lineOf_0 : decode cX6_lineOf 0 = .ok (.iload_n 2, 1) := by decide +kernel
theorem dX6_lineOf_1 : decode cX6_lineOf 1 = .ok (.ifCond .ne 14, 3) := by decide +kernel
theorem dX6_lineOf_4 : decode cX6_lineOf 4 = .ok (.aload_n 0, 1) := by decide +kernel
theorem dX6_lineOf_5 : decode cX6_lineOf 5 = .ok (.iload_n 1, 1) := by decide +kernel
theorem dX6_lineOf_6 : decode cX6_lineOf 6 = .ok (.iload_n 3, 1) := by decide +kernel
theorem dX6_lineOf_7 : decode cX6_lineOf 7 = .ok (.iload 4, 2) := by decide +kernel
theorem dX6_lineOf_9 : decode cX6_lineOf 9 = .ok (.invokevirtual 150, 3) := by decide +kernel
theorem dX6_lineOf_12 : decode cX6_lineOf 12 = .ok (.goto 11, 3) := by decide +kernel
theorem dX6_lineOf_15 : decode cX6_lineOf 15 = .ok (.aload_n 0, 1) := by decide +kernel
theorem dX6_lineOf_16 : decode cX6_lineOf 16 = .ok (.iload_n 1, 1) := by decide +kernel
theorem dX6_lineOf_17 : decode cX6_lineOf 17 = .ok (.iload 4, 2) := by decide +kernel
theorem dX6_lineOf_19 : decode cX6_lineOf 19 = .ok (.iload_n 3, 1) := by decide +kernel
theorem dX6_lineOf_20 : decode cX6_lineOf 20 = .ok (.invokevirtual 150, 3) := by decide +kernel
theorem dX6_lineOf_23 : decode cX6_lineOf 23 = .ok (.ireturn, 1) := by decide +kernel
theorem dX6_lineBecomes_0 : decode cX6_lineBecomes 0 = .ok (.aload_n 0, 1) := by decide +kernel
theorem dX6_lineBecomes_1 : decode cX6_lineBecomes 1 = .ok (.iload_n 1, 1) := by decide +kernel
theorem dX6_lineBecomes_2 : decode cX6_lineBecomes 2 = .ok (.iload_n 2, 1) := by decide +kernel
theorem dX6_lineBecomes_3 : decode cX6_lineBecomes 3 = .ok (.ifCond .ne 7, 3) := by decide +kernel
theorem dX6_lineBecomes_6 : decode cX6_lineBecomes 6 = .ok (.iload_n 3, 1) := by decide +kernel
theorem dX6_lineBecomes_7 : decode cX6_lineBecomes 7 = .ok (.goto 5, 3) := by decide +kernel
theorem dX6_lineBecomes_10 : decode cX6_lineBecomes 10 = .ok (.iload 4, 2) := by decide +kernel
theorem dX6_lineBecomes_12 : decode cX6_lineBecomes 12 = .ok (.iload_n 2, 1) := by decide +kernel
theorem dX6_lineBecomes_13 : decode cX6_lineBecomes 13 = .ok (.ifCond .ne 8, 3) := by decide +kernel
theorem dX6_lineBecomes_16 : decode cX6_lineBecomes 16 = .ok (.iload 4, 2) := by decide +kernel
theorem dX6_lineBecomes_18 : decode cX6_lineBecomes 18 = .ok (.goto 4, 3) := by decide +kernel
theorem dX6_lineBecomes_21 : decode cX6_lineBecomes 21 = .ok (.iload_n 3, 1) := by decide +kernel
theorem dX6_lineBecomes_22 : decode cX6_lineBecomes 22 = .ok (.aload_n 0, 1) := by decide +kernel
theorem dX6_lineBecomes_23 : decode cX6_lineBecomes 23 = .ok (.iload 5, 2) := by decide +kernel
theorem dX6_lineBecomes_25 : decode cX6_lineBecomes 25 = .ok (.invokevirtual 169, 3) := by decide +kernel
theorem dX6_lineBecomes_28 : decode cX6_lineBecomes 28 = .ok (.invokevirtual 265, 3) := by decide +kernel
theorem dX6_lineBecomes_31 : decode cX6_lineBecomes 31 = .ok (.return_, 1) := by decide +kernel
theorem dX6_mix_0 : decode cX6_mix 0 = .ok (.aload_n 0, 1) := by decide +kernel
theorem dX6_mix_1 : decode cX6_mix 1 = .ok (.iload_n 1, 1) := by decide +kernel
theorem dX6_mix_2 : decode cX6_mix 2 = .ok (.iload_n 2, 1) := by decide +kernel
theorem dX6_mix_3 : decode cX6_mix 3 = .ok (.invokevirtual 271, 3) := by decide +kernel
theorem dX6_mix_6 : decode cX6_mix 6 = .ok (.ifCond .eq 26, 3) := by decide +kernel
theorem dX6_mix_9 : decode cX6_mix 9 = .ok (.aload_n 0, 1) := by decide +kernel
theorem dX6_mix_10 : decode cX6_mix 10 = .ok (.iload_n 1, 1) := by decide +kernel
theorem dX6_mix_11 : decode cX6_mix 11 = .ok (.iload_n 3, 1) := by decide +kernel
theorem dX6_mix_12 : decode cX6_mix 12 = .ok (.invokevirtual 271, 3) := by decide +kernel
theorem dX6_mix_15 : decode cX6_mix 15 = .ok (.ifCond .eq 17, 3) := by decide +kernel
theorem dX6_mix_18 : decode cX6_mix 18 = .ok (.iload_n 2, 1) := by decide +kernel
theorem dX6_mix_19 : decode cX6_mix 19 = .ok (.iload_n 3, 1) := by decide +kernel
theorem dX6_mix_20 : decode cX6_mix 20 = .ok (.if_icmp .eq 12, 3) := by decide +kernel
theorem dX6_mix_23 : decode cX6_mix 23 = .ok (.aload_n 0, 1) := by decide +kernel
theorem dX6_mix_24 : decode cX6_mix 24 = .ok (.iload 4, 2) := by decide +kernel
theorem dX6_mix_26 : decode cX6_mix 26 = .ok (.invokevirtual 274, 3) := by decide +kernel
theorem dX6_mix_29 : decode cX6_mix 29 = .ok (.ifCond .ne 5, 3) := by decide +kernel
theorem dX6_mix_32 : decode cX6_mix 32 = .ok (.iconst (-1), 1) := by decide +kernel
theorem dX6_mix_33 : decode cX6_mix 33 = .ok (.ireturn, 1) := by decide +kernel
theorem dX6_mix_34 : decode cX6_mix 34 = .ok (.iconst 0, 1) := by decide +kernel
theorem dX6_mix_35 : decode cX6_mix 35 = .ok (.istore 5, 2) := by decide +kernel
theorem dX6_mix_37 : decode cX6_mix 37 = .ok (.iload 5, 2) := by decide +kernel
theorem dX6_mix_39 : decode cX6_mix 39 = .ok (.iconst 2, 1) := by decide +kernel
theorem dX6_mix_40 : decode cX6_mix 40 = .ok (.if_icmp .ge 65, 3) := by decide +kernel
theorem dX6_mix_43 : decode cX6_mix 43 = .ok (.iconst 0, 1) := by decide +kernel
theorem dX6_mix_44 : decode cX6_mix 44 = .ok (.istore 6, 2) := by decide +kernel
theorem dX6_mix_46 : decode cX6_mix 46 = .ok (.iload 6, 2) := by decide +kernel
theorem dX6_mix_48 : decode cX6_mix 48 = .ok (.aload_n 0, 1) := by decide +kernel
theorem dX6_mix_49 : decode cX6_mix 49 = .ok (.getfield 7, 3) := by decide +kernel
theorem dX6_mix_52 : decode cX6_mix 52 = .ok (.iconst 2, 1) := by decide +kernel
theorem dX6_mix_53 : decode cX6_mix 53 = .ok (.iload_n 1, 1) := by decide +kernel
theorem dX6_mix_54 : decode cX6_mix 54 = .ok (.isub, 1) := by decide +kernel
theorem dX6_mix_55 : decode cX6_mix 55 = .ok (.iaload, 1) := by decide +kernel
theorem dX6_mix_56 : decode cX6_mix 56 = .ok (.if_icmp .ge 43, 3) := by decide +kernel
theorem dX6_mix_59 : decode cX6_mix 59 = .ok (.aload_n 0, 1) := by decide +kernel
theorem dX6_mix_60 : decode cX6_mix 60 = .ok (.iload 5, 2) := by decide +kernel
theorem dX6_mix_62 : decode cX6_mix 62 = .ok (.iload_n 1, 1) := by decide +kernel
theorem dX6_mix_63 : decode cX6_mix 63 = .ok (.iload_n 2, 1) := by decide +kernel
theorem dX6_mix_64 : decode cX6_mix 64 = .ok (.iload 6, 2) := by decide +kernel
theorem dX6_mix_66 : decode cX6_mix 66 = .ok (.aload_n 0, 1) := by decide +kernel
theorem dX6_mix_67 : decode cX6_mix 67 = .ok (.iload 5, 2) := by decide +kernel
theorem dX6_mix_69 : decode cX6_mix 69 = .ok (.iload_n 1, 1) := by decide +kernel
theorem dX6_mix_70 : decode cX6_mix 70 = .ok (.iload_n 2, 1) := by decide +kernel
theorem dX6_mix_71 : decode cX6_mix 71 = .ok (.iload 6, 2) := by decide +kernel
theorem dX6_mix_73 : decode cX6_mix 73 = .ok (.invokevirtual 277, 3) := by decide +kernel
theorem dX6_mix_76 : decode cX6_mix 76 = .ok (.iload 4, 2) := by decide +kernel
theorem dX6_mix_78 : decode cX6_mix 78 = .ok (.aload_n 0, 1) := by decide +kernel
theorem dX6_mix_79 : decode cX6_mix 79 = .ok (.iload 5, 2) := by decide +kernel
theorem dX6_mix_81 : decode cX6_mix 81 = .ok (.iload_n 1, 1) := by decide +kernel
theorem dX6_mix_82 : decode cX6_mix 82 = .ok (.iload_n 3, 1) := by decide +kernel
theorem dX6_mix_83 : decode cX6_mix 83 = .ok (.iload 6, 2) := by decide +kernel
theorem dX6_mix_85 : decode cX6_mix 85 = .ok (.invokevirtual 277, 3) := by decide +kernel
theorem dX6_mix_88 : decode cX6_mix 88 = .ok (.imul, 1) := by decide +kernel
theorem dX6_mix_89 : decode cX6_mix 89 = .ok (.iadd, 1) := by decide +kernel
theorem dX6_mix_90 : decode cX6_mix 90 = .ok (.invokevirtual 281, 3) := by decide +kernel
theorem dX6_mix_93 : decode cX6_mix 93 = .ok (.iinc 6 1, 3) := by decide +kernel
theorem dX6_mix_96 : decode cX6_mix 96 = .ok (.goto (-50), 3) := by decide +kernel
theorem dX6_mix_99 : decode cX6_mix 99 = .ok (.iinc 5 1, 3) := by decide +kernel
theorem dX6_mix_102 : decode cX6_mix 102 = .ok (.goto (-65), 3) := by decide +kernel
theorem dX6_mix_105 : decode cX6_mix 105 = .ok (.iconst 1, 1) := by decide +kernel
theorem dX6_mix_106 : decode cX6_mix 106 = .ok (.ireturn, 1) := by decide +kernel
theorem dX6_times_0 : decode cX6_times 0 = .ok (.aload_n 0, 1) := by decide +kernel
theorem dX6_times_1 : decode cX6_times 1 = .ok (.iload_n 1, 1) := by decide +kernel
theorem dX6_times_2 : decode cX6_times 2 = .ok (.iload_n 2, 1) := by decide +kernel
theorem dX6_times_3 : decode cX6_times 3 = .ok (.invokevirtual 271, 3) := by decide +kernel
theorem dX6_times_6 : decode cX6_times 6 = .ok (.ifCond .eq 11, 3) := by decide +kernel
theorem dX6_times_9 : decode cX6_times 9 = .ok (.aload_n 0, 1) := by decide +kernel
theorem dX6_times_10 : decode cX6_times 10 = .ok (.iload_n 3, 1) := by decide +kernel
theorem dX6_times_11 : decode cX6_times 11 = .ok (.invokevirtual 274, 3) := by decide +kernel
theorem dX6_times_14 : decode cX6_times 14 = .ok (.ifCond .ne 5, 3) := by decide +kernel
theorem dX6_times_17 : decode cX6_times 17 = .ok (.iconst (-1), 1) := by decide +kernel
theorem dX6_times_18 : decode cX6_times 18 = .ok (.ireturn, 1) := by decide +kernel
theorem dX6_times_19 : decode cX6_times 19 = .ok (.iconst 0, 1) := by decide +kernel
theorem dX6_times_20 : decode cX6_times 20 = .ok (.istore 4, 2) := by decide +kernel
theorem dX6_times_22 : decode cX6_times 22 = .ok (.iload 4, 2) := by decide +kernel
theorem dX6_times_24 : decode cX6_times 24 = .ok (.iconst 2, 1) := by decide +kernel
theorem dX6_times_25 : decode cX6_times 25 = .ok (.if_icmp .ge 53, 3) := by decide +kernel
theorem dX6_times_28 : decode cX6_times 28 = .ok (.iconst 0, 1) := by decide +kernel
theorem dX6_times_29 : decode cX6_times 29 = .ok (.istore 5, 2) := by decide +kernel
theorem dX6_times_31 : decode cX6_times 31 = .ok (.iload 5, 2) := by decide +kernel
theorem dX6_times_33 : decode cX6_times 33 = .ok (.aload_n 0, 1) := by decide +kernel
theorem dX6_times_34 : decode cX6_times 34 = .ok (.getfield 7, 3) := by decide +kernel
theorem dX6_times_37 : decode cX6_times 37 = .ok (.iconst 2, 1) := by decide +kernel
theorem dX6_times_38 : decode cX6_times 38 = .ok (.iload_n 1, 1) := by decide +kernel
theorem dX6_times_39 : decode cX6_times 39 = .ok (.isub, 1) := by decide +kernel
theorem dX6_times_40 : decode cX6_times 40 = .ok (.iaload, 1) := by decide +kernel
theorem dX6_times_41 : decode cX6_times 41 = .ok (.if_icmp .ge 31, 3) := by decide +kernel
theorem dX6_times_44 : decode cX6_times 44 = .ok (.aload_n 0, 1) := by decide +kernel
theorem dX6_times_45 : decode cX6_times 45 = .ok (.iload 4, 2) := by decide +kernel
theorem dX6_times_47 : decode cX6_times 47 = .ok (.iload_n 1, 1) := by decide +kernel
theorem dX6_times_48 : decode cX6_times 48 = .ok (.iload_n 2, 1) := by decide +kernel
theorem dX6_times_49 : decode cX6_times 49 = .ok (.iload 5, 2) := by decide +kernel
theorem dX6_times_51 : decode cX6_times 51 = .ok (.iload_n 3, 1) := by decide +kernel
theorem dX6_times_52 : decode cX6_times 52 = .ok (.aload_n 0, 1) := by decide +kernel
theorem dX6_times_53 : decode cX6_times 53 = .ok (.iload 4, 2) := by decide +kernel
theorem dX6_times_55 : decode cX6_times 55 = .ok (.iload_n 1, 1) := by decide +kernel
theorem dX6_times_56 : decode cX6_times 56 = .ok (.iload_n 2, 1) := by decide +kernel
theorem dX6_times_57 : decode cX6_times 57 = .ok (.iload 5, 2) := by decide +kernel
theorem dX6_times_59 : decode cX6_times 59 = .ok (.invokevirtual 277, 3) := by decide +kernel
theorem dX6_times_62 : decode cX6_times 62 = .ok (.imul, 1) := by decide +kernel
theorem dX6_times_63 : decode cX6_times 63 = .ok (.invokevirtual 281, 3) := by decide +kernel
theorem dX6_times_66 : decode cX6_times 66 = .ok (.iinc 5 1, 3) := by decide +kernel
theorem dX6_times_69 : decode cX6_times 69 = .ok (.goto (-38), 3) := by decide +kernel
theorem dX6_times_72 : decode cX6_times 72 = .ok (.iinc 4 1, 3) := by decide +kernel
theorem dX6_times_75 : decode cX6_times 75 = .ok (.goto (-53), 3) := by decide +kernel
theorem dX6_times_78 : decode cX6_times 78 = .ok (.iconst 1, 1) := by decide +kernel
theorem dX6_times_79 : decode cX6_times 79 = .ok (.ireturn, 1) := by decide +kernel
theorem dX6_swap_0 : decode cX6_swap 0 = .ok (.aload_n 0, 1) := by decide +kernel
theorem dX6_swap_1 : decode cX6_swap 1 = .ok (.iload_n 1, 1) := by decide +kernel
theorem dX6_swap_2 : decode cX6_swap 2 = .ok (.iload_n 2, 1) := by decide +kernel
theorem dX6_swap_3 : decode cX6_swap 3 = .ok (.invokevirtual 271, 3) := by decide +kernel
theorem dX6_swap_6 : decode cX6_swap 6 = .ok (.ifCond .eq 12, 3) := by decide +kernel
theorem dX6_swap_9 : decode cX6_swap 9 = .ok (.aload_n 0, 1) := by decide +kernel
theorem dX6_swap_10 : decode cX6_swap 10 = .ok (.iload_n 1, 1) := by decide +kernel
theorem dX6_swap_11 : decode cX6_swap 11 = .ok (.iload_n 3, 1) := by decide +kernel
theorem dX6_swap_12 : decode cX6_swap 12 = .ok (.invokevirtual 271, 3) := by decide +kernel
theorem dX6_swap_15 : decode cX6_swap 15 = .ok (.ifCond .ne 5, 3) := by decide +kernel
theorem dX6_swap_18 : decode cX6_swap 18 = .ok (.iconst (-1), 1) := by decide +kernel
theorem dX6_swap_19 : decode cX6_swap 19 = .ok (.ireturn, 1) := by decide +kernel
theorem dX6_swap_20 : decode cX6_swap 20 = .ok (.iconst 0, 1) := by decide +kernel
theorem dX6_swap_21 : decode cX6_swap 21 = .ok (.istore 4, 2) := by decide +kernel
theorem dX6_swap_23 : decode cX6_swap 23 = .ok (.iload 4, 2) := by decide +kernel
theorem dX6_swap_25 : decode cX6_swap 25 = .ok (.iconst 2, 1) := by decide +kernel
theorem dX6_swap_26 : decode cX6_swap 26 = .ok (.if_icmp .ge 75, 3) := by decide +kernel
theorem dX6_swap_29 : decode cX6_swap 29 = .ok (.iconst 0, 1) := by decide +kernel
theorem dX6_swap_30 : decode cX6_swap 30 = .ok (.istore 5, 2) := by decide +kernel
theorem dX6_swap_32 : decode cX6_swap 32 = .ok (.iload 5, 2) := by decide +kernel
theorem dX6_swap_34 : decode cX6_swap 34 = .ok (.aload_n 0, 1) := by decide +kernel
theorem dX6_swap_35 : decode cX6_swap 35 = .ok (.getfield 7, 3) := by decide +kernel
theorem dX6_swap_38 : decode cX6_swap 38 = .ok (.iconst 2, 1) := by decide +kernel
theorem dX6_swap_39 : decode cX6_swap 39 = .ok (.iload_n 1, 1) := by decide +kernel
theorem dX6_swap_40 : decode cX6_swap 40 = .ok (.isub, 1) := by decide +kernel
theorem dX6_swap_41 : decode cX6_swap 41 = .ok (.iaload, 1) := by decide +kernel
theorem dX6_swap_42 : decode cX6_swap 42 = .ok (.if_icmp .ge 53, 3) := by decide +kernel
theorem dX6_swap_45 : decode cX6_swap 45 = .ok (.aload_n 0, 1) := by decide +kernel
theorem dX6_swap_46 : decode cX6_swap 46 = .ok (.iload 4, 2) := by decide +kernel
theorem dX6_swap_48 : decode cX6_swap 48 = .ok (.iload_n 1, 1) := by decide +kernel
theorem dX6_swap_49 : decode cX6_swap 49 = .ok (.iload_n 2, 1) := by decide +kernel
theorem dX6_swap_50 : decode cX6_swap 50 = .ok (.iload 5, 2) := by decide +kernel
theorem dX6_swap_52 : decode cX6_swap 52 = .ok (.invokevirtual 277, 3) := by decide +kernel
theorem dX6_swap_55 : decode cX6_swap 55 = .ok (.istore 6, 2) := by decide +kernel
theorem dX6_swap_57 : decode cX6_swap 57 = .ok (.aload_n 0, 1) := by decide +kernel
theorem dX6_swap_58 : decode cX6_swap 58 = .ok (.iload 4, 2) := by decide +kernel
theorem dX6_swap_60 : decode cX6_swap 60 = .ok (.iload_n 1, 1) := by decide +kernel
theorem dX6_swap_61 : decode cX6_swap 61 = .ok (.iload_n 2, 1) := by decide +kernel
theorem dX6_swap_62 : decode cX6_swap 62 = .ok (.iload 5, 2) := by decide +kernel
theorem dX6_swap_64 : decode cX6_swap 64 = .ok (.aload_n 0, 1) := by decide +kernel
theorem dX6_swap_65 : decode cX6_swap 65 = .ok (.iload 4, 2) := by decide +kernel
theorem dX6_swap_67 : decode cX6_swap 67 = .ok (.iload_n 1, 1) := by decide +kernel
theorem dX6_swap_68 : decode cX6_swap 68 = .ok (.iload_n 3, 1) := by decide +kernel
theorem dX6_swap_69 : decode cX6_swap 69 = .ok (.iload 5, 2) := by decide +kernel
theorem dX6_swap_71 : decode cX6_swap 71 = .ok (.invokevirtual 277, 3) := by decide +kernel
theorem dX6_swap_74 : decode cX6_swap 74 = .ok (.invokevirtual 281, 3) := by decide +kernel
theorem dX6_swap_77 : decode cX6_swap 77 = .ok (.aload_n 0, 1) := by decide +kernel
theorem dX6_swap_78 : decode cX6_swap 78 = .ok (.iload 4, 2) := by decide +kernel
theorem dX6_swap_80 : decode cX6_swap 80 = .ok (.iload_n 1, 1) := by decide +kernel
theorem dX6_swap_81 : decode cX6_swap 81 = .ok (.iload_n 3, 1) := by decide +kernel
theorem dX6_swap_82 : decode cX6_swap 82 = .ok (.iload 5, 2) := by decide +kernel
theorem dX6_swap_84 : decode cX6_swap 84 = .ok (.iload 6, 2) := by decide +kernel
theorem dX6_swap_86 : decode cX6_swap 86 = .ok (.invokevirtual 281, 3) := by decide +kernel
theorem dX6_swap_89 : decode cX6_swap 89 = .ok (.iinc 5 1, 3) := by decide +kernel
theorem dX6_swap_92 : decode cX6_swap 92 = .ok (.goto (-60), 3) := by decide +kernel
theorem dX6_swap_95 : decode cX6_swap 95 = .ok (.iinc 4 1, 3) := by decide +kernel
theorem dX6_swap_98 : decode cX6_swap 98 = .ok (.goto (-75), 3) := by decide +kernel
theorem dX6_swap_101 : decode cX6_swap 101 = .ok (.iconst 1, 1) := by decide +kernel
theorem dX6_swap_102 : decode cX6_swap 102 = .ok (.ireturn, 1) := by decide +kernel
theorem dX6_scramble_0 : decode cX6_scramble 0 = .ok (.iload_n 2, 1) := by decide +kernel
theorem dX6_scramble_1 : decode cX6_scramble 1 = .ok (.i2l, 1) := by decide +kernel
theorem dX6_scramble_2 : decode cX6_scramble 2 = .ok (.lconst 0, 1) := by decide +kernel
theorem dX6_scramble_3 : decode cX6_scramble 3 = .ok (.ldc2_w 285, 3) := by decide +kernel
theorem dX6_scramble_6 : decode cX6_scramble 6 = .ok (.invokestatic 64, 3) := by decide +kernel
theorem dX6_scramble_9 : decode cX6_scramble 9 = .ok (.ifCond .ne 5, 3) := by decide +kernel
theorem dX6_scramble_12 : decode cX6_scramble 12 = .ok (.iconst (-1), 1) := by decide +kernel
theorem dX6_scramble_13 : decode cX6_scramble 13 = .ok (.ireturn, 1) := by decide +kernel
theorem dX6_scramble_14 : decode cX6_scramble 14 = .ok (.iload_n 1, 1) := by decide +kernel
theorem dX6_scramble_15 : decode cX6_scramble 15 = .ok (.istore_n 3, 1) := by decide +kernel
theorem dX6_scramble_16 : decode cX6_scramble 16 = .ok (.iconst 0, 1) := by decide +kernel
theorem dX6_scramble_17 : decode cX6_scramble 17 = .ok (.istore 4, 2) := by decide +kernel
theorem dX6_scramble_19 : decode cX6_scramble 19 = .ok (.iconst 0, 1) := by decide +kernel
theorem dX6_scramble_20 : decode cX6_scramble 20 = .ok (.istore 5, 2) := by decide +kernel
theorem dX6_scramble_22 : decode cX6_scramble 22 = .ok (.iload 5, 2) := by decide +kernel
theorem dX6_scramble_24 : decode cX6_scramble 24 = .ok (.iload_n 2, 1) := by decide +kernel
theorem dX6_scramble_25 : decode cX6_scramble 25 = .ok (.if_icmp .ge 101, 3) := by decide +kernel
theorem dX6_scramble_28 : decode cX6_scramble 28 = .ok (.iload_n 3, 1) := by decide +kernel
theorem dX6_scramble_29 : decode cX6_scramble 29 = .ok (.ldc_w 287, 3) := by decide +kernel
theorem dX6_scramble_32 : decode cX6_scramble 32 = .ok (.imul, 1) := by decide +kernel
theorem dX6_scramble_33 : decode cX6_scramble 33 = .ok (.sipush 12345, 3) := by decide +kernel
theorem dX6_scramble_36 : decode cX6_scramble 36 = .ok (.iadd, 1) := by decide +kernel
theorem dX6_scramble_37 : decode cX6_scramble 37 = .ok (.istore_n 3, 1) := by decide +kernel
theorem dX6_scramble_38 : decode cX6_scramble 38 = .ok (.iload_n 3, 1) := by decide +kernel
theorem dX6_scramble_39 : decode cX6_scramble 39 = .ok (.bipush 16, 2) := by decide +kernel
theorem dX6_scramble_41 : decode cX6_scramble 41 = .ok (.ishr, 1) := by decide +kernel
theorem dX6_scramble_42 : decode cX6_scramble 42 = .ok (.sipush 32767, 3) := by decide +kernel
theorem dX6_scramble_45 : decode cX6_scramble 45 = .ok (.iand, 1) := by decide +kernel
theorem dX6_scramble_46 : decode cX6_scramble 46 = .ok (.istore 6, 2) := by decide +kernel
theorem dX6_scramble_48 : decode cX6_scramble 48 = .ok (.iload 6, 2) := by decide +kernel
theorem dX6_scramble_50 : decode cX6_scramble 50 = .ok (.iconst 2, 1) := by decide +kernel
theorem dX6_scramble_51 : decode cX6_scramble 51 = .ok (.irem, 1) := by decide +kernel
theorem dX6_scramble_52 : decode cX6_scramble 52 = .ok (.istore 7, 2) := by decide +kernel
theorem dX6_scramble_54 : decode cX6_scramble 54 = .ok (.aload_n 0, 1) := by decide +kernel
theorem dX6_scramble_55 : decode cX6_scramble 55 = .ok (.getfield 7, 3) := by decide +kernel
theorem dX6_scramble_58 : decode cX6_scramble 58 = .ok (.iconst 1, 1) := by decide +kernel
theorem dX6_scramble_59 : decode cX6_scramble 59 = .ok (.iload 7, 2) := by decide +kernel
theorem dX6_scramble_61 : decode cX6_scramble 61 = .ok (.iadd, 1) := by decide +kernel
theorem dX6_scramble_62 : decode cX6_scramble 62 = .ok (.iaload, 1) := by decide +kernel
theorem dX6_scramble_63 : decode cX6_scramble 63 = .ok (.istore 8, 2) := by decide +kernel
theorem dX6_scramble_65 : decode cX6_scramble 65 = .ok (.iload 8, 2) := by decide +kernel
theorem dX6_scramble_67 : decode cX6_scramble 67 = .ok (.ifCond .le 53, 3) := by decide +kernel
theorem dX6_scramble_70 : decode cX6_scramble 70 = .ok (.iload 4, 2) := by decide +kernel
theorem dX6_scramble_72 : decode cX6_scramble 72 = .ok (.aload_n 0, 1) := by decide +kernel
theorem dX6_scramble_73 : decode cX6_scramble 73 = .ok (.iload 7, 2) := by decide +kernel
theorem dX6_scramble_75 : decode cX6_scramble 75 = .ok (.iload 6, 2) := by decide +kernel
theorem dX6_scramble_77 : decode cX6_scramble 77 = .ok (.iconst 2, 1) := by decide +kernel
theorem dX6_scramble_78 : decode cX6_scramble 78 = .ok (.idiv, 1) := by decide +kernel
theorem dX6_scramble_79 : decode cX6_scramble 79 = .ok (.iload 8, 2) := by decide +kernel
theorem dX6_scramble_81 : decode cX6_scramble 81 = .ok (.irem, 1) := by decide +kernel
theorem dX6_scramble_82 : decode cX6_scramble 82 = .ok (.iload 6, 2) := by decide +kernel
theorem dX6_scramble_84 : decode cX6_scramble 84 = .ok (.bipush 8, 2) := by decide +kernel
theorem dX6_scramble_86 : decode cX6_scramble 86 = .ok (.idiv, 1) := by decide +kernel
theorem dX6_scramble_87 : decode cX6_scramble 87 = .ok (.iload 8, 2) := by decide +kernel
theorem dX6_scramble_89 : decode cX6_scramble 89 = .ok (.irem, 1) := by decide +kernel
theorem dX6_scramble_90 : decode cX6_scramble 90 = .ok (.iload 6, 2) := by decide +kernel
theorem dX6_scramble_92 : decode cX6_scramble 92 = .ok (.bipush 32, 2) := by decide +kernel
theorem dX6_scramble_94 : decode cX6_scramble 94 = .ok (.idiv, 1) := by decide +kernel
theorem dX6_scramble_95 : decode cX6_scramble 95 = .ok (.aload_n 0, 1) := by decide +kernel
theorem dX6_scramble_96 : decode cX6_scramble 96 = .ok (.getfield 7, 3) := by decide +kernel
theorem dX6_scramble_99 : decode cX6_scramble 99 = .ok (.iconst 0, 1) := by decide +kernel
theorem dX6_scramble_100 : decode cX6_scramble 100 = .ok (.iaload, 1) := by decide +kernel
theorem dX6_scramble_101 : decode cX6_scramble 101 = .ok (.irem, 1) := by decide +kernel
theorem dX6_scramble_102 : decode cX6_scramble 102 = .ok (.invokevirtual 288, 3) := by decide +kernel
theorem dX6_scramble_105 : decode cX6_scramble 105 = .ok (.iconst 1, 1) := by decide +kernel
theorem dX6_scramble_106 : decode cX6_scramble 106 = .ok (.if_icmp .ne 7, 3) := by decide +kernel
theorem dX6_scramble_109 : decode cX6_scramble 109 = .ok (.iconst 1, 1) := by decide +kernel
theorem dX6_scramble_110 : decode cX6_scramble 110 = .ok (.goto 4, 3) := by decide +kernel
theorem dX6_scramble_113 : decode cX6_scramble 113 = .ok (.iconst 0, 1) := by decide +kernel
theorem dX6_scramble_114 : decode cX6_scramble 114 = .ok (.invokestatic 214, 3) := by decide +kernel
theorem dX6_scramble_117 : decode cX6_scramble 117 = .ok (.iadd, 1) := by decide +kernel
theorem dX6_scramble_118 : decode cX6_scramble 118 = .ok (.istore 4, 2) := by decide +kernel
theorem dX6_scramble_120 : decode cX6_scramble 120 = .ok (.iinc 5 1, 3) := by decide +kernel
theorem dX6_scramble_123 : decode cX6_scramble 123 = .ok (.goto (-101), 3) := by decide +kernel
theorem dX6_scramble_126 : decode cX6_scramble 126 = .ok (.iload 4, 2) := by decide +kernel
theorem dX6_scramble_128 : decode cX6_scramble 128 = .ok (.ireturn, 1) := by decide +kernel
theorem dX6_sets1_0 : decode cX6_sets1 0 = .ok (.aload_n 0, 1) := by decide +kernel
theorem dX6_sets1_1 : decode cX6_sets1 1 = .ok (.getfield 41, 3) := by decide +kernel
theorem dX6_sets1_4 : decode cX6_sets1 4 = .ok (.iconst 3, 1) := by decide +kernel
theorem dX6_sets1_5 : decode cX6_sets1 5 = .ok (.bipush 16, 2) := by decide +kernel
theorem dX6_sets1_7 : decode cX6_sets1 7 = .ok (.iload_n 1, 1) := by decide +kernel
theorem dX6_sets1_8 : decode cX6_sets1 8 = .ok (.imul, 1) := by decide +kernel
theorem dX6_sets1_9 : decode cX6_sets1 9 = .ok (.iadd, 1) := by decide +kernel
theorem dX6_sets1_10 : decode cX6_sets1 10 = .ok (.iconst 4, 1) := by decide +kernel
theorem dX6_sets1_11 : decode cX6_sets1 11 = .ok (.iload_n 2, 1) := by decide +kernel
theorem dX6_sets1_12 : decode cX6_sets1 12 = .ok (.imul, 1) := by decide +kernel
theorem dX6_sets1_13 : decode cX6_sets1 13 = .ok (.iadd, 1) := by decide +kernel
theorem dX6_sets1_14 : decode cX6_sets1 14 = .ok (.iload_n 3, 1) := by decide +kernel
theorem dX6_sets1_15 : decode cX6_sets1 15 = .ok (.iadd, 1) := by decide +kernel
theorem dX6_sets1_16 : decode cX6_sets1 16 = .ok (.iload 4, 2) := by decide +kernel
theorem dX6_sets1_18 : decode cX6_sets1 18 = .ok (.iastore, 1) := by decide +kernel
theorem dX6_sets1_19 : decode cX6_sets1 19 = .ok (.return_, 1) := by decide +kernel
theorem dX6_turn_0 : decode cX6_turn 0 = .ok (.iload_n 1, 1) := by decide +kernel
theorem dX6_turn_1 : decode cX6_turn 1 = .ok (.i2l, 1) := by decide +kernel
theorem dX6_turn_2 : decode cX6_turn 2 = .ok (.lconst 0, 1) := by decide +kernel
theorem dX6_turn_3 : decode cX6_turn 3 = .ok (.ldc2_w 291, 3) := by decide +kernel
theorem dX6_turn_6 : decode cX6_turn 6 = .ok (.invokestatic 64, 3) := by decide +kernel
theorem dX6_turn_9 : decode cX6_turn 9 = .ok (.ifCond .ne 5, 3) := by decide +kernel
theorem dX6_turn_12 : decode cX6_turn 12 = .ok (.iconst (-1), 1) := by decide +kernel
theorem dX6_turn_13 : decode cX6_turn 13 = .ok (.ireturn, 1) := by decide +kernel
theorem dX6_turn_14 : decode cX6_turn 14 = .ok (.iconst 0, 1) := by decide +kernel
theorem dX6_turn_15 : decode cX6_turn 15 = .ok (.istore_n 2, 1) := by decide +kernel
theorem dX6_turn_16 : decode cX6_turn 16 = .ok (.iload_n 2, 1) := by decide +kernel
theorem dX6_turn_17 : decode cX6_turn 17 = .ok (.iconst 4, 1) := by decide +kernel
theorem dX6_turn_18 : decode cX6_turn 18 = .ok (.if_icmp .ge 129, 3) := by decide +kernel
theorem dX6_turn_21 : decode cX6_turn 21 = .ok (.iconst 0, 1) := by decide +kernel
theorem dX6_turn_22 : decode cX6_turn 22 = .ok (.istore_n 3, 1) := by decide +kernel
theorem dX6_turn_23 : decode cX6_turn 23 = .ok (.iload_n 3, 1) := by decide +kernel
theorem dX6_turn_24 : decode cX6_turn 24 = .ok (.iconst 4, 1) := by decide +kernel
theorem dX6_turn_25 : decode cX6_turn 25 = .ok (.if_icmp .ge 116, 3) := by decide +kernel
theorem dX6_turn_28 : decode cX6_turn 28 = .ok (.aload_n 0, 1) := by decide +kernel
theorem dX6_turn_29 : decode cX6_turn 29 = .ok (.iconst 0, 1) := by decide +kernel
theorem dX6_turn_30 : decode cX6_turn 30 = .ok (.iload_n 2, 1) := by decide +kernel
theorem dX6_turn_31 : decode cX6_turn 31 = .ok (.iload_n 3, 1) := by decide +kernel
theorem dX6_turn_32 : decode cX6_turn 32 = .ok (.invokevirtual 150, 3) := by decide +kernel
theorem dX6_turn_35 : decode cX6_turn 35 = .ok (.istore 4, 2) := by decide +kernel
theorem dX6_turn_37 : decode cX6_turn 37 = .ok (.aload_n 0, 1) := by decide +kernel
theorem dX6_turn_38 : decode cX6_turn 38 = .ok (.iconst 1, 1) := by decide +kernel
theorem dX6_turn_39 : decode cX6_turn 39 = .ok (.iload_n 2, 1) := by decide +kernel
theorem dX6_turn_40 : decode cX6_turn 40 = .ok (.iload_n 3, 1) := by decide +kernel
theorem dX6_turn_41 : decode cX6_turn 41 = .ok (.invokevirtual 150, 3) := by decide +kernel
theorem dX6_turn_44 : decode cX6_turn 44 = .ok (.istore 5, 2) := by decide +kernel
theorem dX6_turn_46 : decode cX6_turn 46 = .ok (.aload_n 0, 1) := by decide +kernel
theorem dX6_turn_47 : decode cX6_turn 47 = .ok (.iconst 0, 1) := by decide +kernel
theorem dX6_turn_48 : decode cX6_turn 48 = .ok (.iload_n 1, 1) := by decide +kernel
theorem dX6_turn_49 : decode cX6_turn 49 = .ok (.iconst 1, 1) := by decide +kernel
theorem dX6_turn_50 : decode cX6_turn 50 = .ok (.if_icmp .ne 7, 3) := by decide +kernel
theorem dX6_turn_53 : decode cX6_turn 53 = .ok (.iload_n 3, 1) := by decide +kernel
theorem dX6_turn_54 : decode cX6_turn 54 = .ok (.goto 4, 3) := by decide +kernel
theorem dX6_turn_57 : decode cX6_turn 57 = .ok (.iload_n 2, 1) := by decide +kernel
theorem dX6_turn_58 : decode cX6_turn 58 = .ok (.iload_n 1, 1) := by decide +kernel
theorem dX6_turn_59 : decode cX6_turn 59 = .ok (.iconst 1, 1) := by decide +kernel
theorem dX6_turn_60 : decode cX6_turn 60 = .ok (.if_icmp .ne 7, 3) := by decide +kernel
theorem dX6_turn_63 : decode cX6_turn 63 = .ok (.iload_n 2, 1) := by decide +kernel
theorem dX6_turn_64 : decode cX6_turn 64 = .ok (.goto 4, 3) := by decide +kernel
theorem dX6_turn_67 : decode cX6_turn 67 = .ok (.iload_n 3, 1) := by decide +kernel
theorem dX6_turn_68 : decode cX6_turn 68 = .ok (.iload_n 1, 1) := by decide +kernel
theorem dX6_turn_69 : decode cX6_turn 69 = .ok (.ifCond .ne 8, 3) := by decide +kernel
theorem dX6_turn_72 : decode cX6_turn 72 = .ok (.iload 5, 2) := by decide +kernel
theorem dX6_turn_74 : decode cX6_turn 74 = .ok (.goto 22, 3) := by decide +kernel
theorem dX6_turn_77 : decode cX6_turn 77 = .ok (.iload_n 1, 1) := by decide +kernel
theorem dX6_turn_78 : decode cX6_turn 78 = .ok (.iconst 2, 1) := by decide +kernel
theorem dX6_turn_79 : decode cX6_turn 79 = .ok (.if_icmp .ne 15, 3) := by decide +kernel
theorem dX6_turn_82 : decode cX6_turn 82 = .ok (.aload_n 0, 1) := by decide +kernel
theorem dX6_turn_83 : decode cX6_turn 83 = .ok (.iload 4, 2) := by decide +kernel
theorem dX6_turn_85 : decode cX6_turn 85 = .ok (.iload 5, 2) := by decide +kernel
theorem dX6_turn_87 : decode cX6_turn 87 = .ok (.isub, 1) := by decide +kernel
theorem dX6_turn_88 : decode cX6_turn 88 = .ok (.invokevirtual 169, 3) := by decide +kernel
theorem dX6_turn_91 : decode cX6_turn 91 = .ok (.goto 5, 3) := by decide +kernel
theorem dX6_turn_94 : decode cX6_turn 94 = .ok (.iload 4, 2) := by decide +kernel
theorem dX6_turn_96 : decode cX6_turn 96 = .ok (.invokevirtual 293, 3) := by decide +kernel
theorem dX6_turn_99 : decode cX6_turn 99 = .ok (.aload_n 0, 1) := by decide +kernel
theorem dX6_turn_100 : decode cX6_turn 100 = .ok (.iconst 1, 1) := by decide +kernel
theorem dX6_turn_101 : decode cX6_turn 101 = .ok (.iload_n 1, 1) := by decide +kernel
theorem dX6_turn_102 : decode cX6_turn 102 = .ok (.iconst 1, 1) := by decide +kernel
theorem dX6_turn_103 : decode cX6_turn 103 = .ok (.if_icmp .ne 7, 3) := by decide +kernel
theorem dX6_turn_106 : decode cX6_turn 106 = .ok (.iload_n 3, 1) := by decide +kernel
theorem dX6_turn_107 : decode cX6_turn 107 = .ok (.goto 4, 3) := by decide +kernel
theorem dX6_turn_110 : decode cX6_turn 110 = .ok (.iload_n 2, 1) := by decide +kernel
theorem dX6_turn_111 : decode cX6_turn 111 = .ok (.iload_n 1, 1) := by decide +kernel
theorem dX6_turn_112 : decode cX6_turn 112 = .ok (.iconst 1, 1) := by decide +kernel
theorem dX6_turn_113 : decode cX6_turn 113 = .ok (.if_icmp .ne 7, 3) := by decide +kernel
theorem dX6_turn_116 : decode cX6_turn 116 = .ok (.iload_n 2, 1) := by decide +kernel
theorem dX6_turn_117 : decode cX6_turn 117 = .ok (.goto 4, 3) := by decide +kernel
theorem dX6_turn_120 : decode cX6_turn 120 = .ok (.iload_n 3, 1) := by decide +kernel
theorem dX6_turn_121 : decode cX6_turn 121 = .ok (.iload_n 1, 1) := by decide +kernel
theorem dX6_turn_122 : decode cX6_turn 122 = .ok (.ifCond .ne 8, 3) := by decide +kernel
theorem dX6_turn_125 : decode cX6_turn 125 = .ok (.iload 4, 2) := by decide +kernel
theorem dX6_turn_127 : decode cX6_turn 127 = .ok (.goto 5, 3) := by decide +kernel
theorem dX6_turn_130 : decode cX6_turn 130 = .ok (.iload 5, 2) := by decide +kernel
theorem dX6_turn_132 : decode cX6_turn 132 = .ok (.invokevirtual 293, 3) := by decide +kernel
theorem dX6_turn_135 : decode cX6_turn 135 = .ok (.iinc 3 1, 3) := by decide +kernel
theorem dX6_turn_138 : decode cX6_turn 138 = .ok (.goto (-115), 3) := by decide +kernel
theorem dX6_turn_141 : decode cX6_turn 141 = .ok (.iinc 2 1, 3) := by decide +kernel
theorem dX6_turn_144 : decode cX6_turn 144 = .ok (.goto (-128), 3) := by decide +kernel
theorem dX6_turn_147 : decode cX6_turn 147 = .ok (.iconst 3, 1) := by decide +kernel
theorem dX6_turn_148 : decode cX6_turn 148 = .ok (.istore_n 2, 1) := by decide +kernel
theorem dX6_turn_149 : decode cX6_turn 149 = .ok (.iload_n 2, 1) := by decide +kernel
theorem dX6_turn_150 : decode cX6_turn 150 = .ok (.bipush 35, 2) := by decide +kernel
theorem dX6_turn_152 : decode cX6_turn 152 = .ok (.if_icmp .ge 21, 3) := by decide +kernel
theorem dX6_turn_155 : decode cX6_turn 155 = .ok (.aload_n 0, 1) := by decide +kernel
theorem dX6_turn_156 : decode cX6_turn 156 = .ok (.getfield 7, 3) := by decide +kernel
theorem dX6_turn_159 : decode cX6_turn 159 = .ok (.iload_n 2, 1) := by decide +kernel
theorem dX6_turn_160 : decode cX6_turn 160 = .ok (.aload_n 0, 1) := by decide +kernel
theorem dX6_turn_161 : decode cX6_turn 161 = .ok (.getfield 41, 3) := by decide +kernel
theorem dX6_turn_164 : decode cX6_turn 164 = .ok (.iload_n 2, 1) := by decide +kernel
theorem dX6_turn_165 : decode cX6_turn 165 = .ok (.iaload, 1) := by decide +kernel
theorem dX6_turn_166 : decode cX6_turn 166 = .ok (.iastore, 1) := by decide +kernel
theorem dX6_turn_167 : decode cX6_turn 167 = .ok (.iinc 2 1, 3) := by decide +kernel
theorem dX6_turn_170 : decode cX6_turn 170 = .ok (.goto (-21), 3) := by decide +kernel
theorem dX6_turn_173 : decode cX6_turn 173 = .ok (.iload_n 1, 1) := by decide +kernel
theorem dX6_turn_174 : decode cX6_turn 174 = .ok (.iconst 1, 1) := by decide +kernel
theorem dX6_turn_175 : decode cX6_turn 175 = .ok (.if_icmp .ne 29, 3) := by decide +kernel
theorem dX6_turn_178 : decode cX6_turn 178 = .ok (.aload_n 0, 1) := by decide +kernel
theorem dX6_turn_179 : decode cX6_turn 179 = .ok (.getfield 7, 3) := by decide +kernel
theorem dX6_turn_182 : decode cX6_turn 182 = .ok (.iconst 1, 1) := by decide +kernel
theorem dX6_turn_183 : decode cX6_turn 183 = .ok (.iaload, 1) := by decide +kernel
theorem dX6_turn_184 : decode cX6_turn 184 = .ok (.istore_n 2, 1) := by decide +kernel
theorem dX6_turn_185 : decode cX6_turn 185 = .ok (.aload_n 0, 1) := by decide +kernel
theorem dX6_turn_186 : decode cX6_turn 186 = .ok (.getfield 7, 3) := by decide +kernel
theorem dX6_turn_189 : decode cX6_turn 189 = .ok (.iconst 1, 1) := by decide +kernel
theorem dX6_turn_190 : decode cX6_turn 190 = .ok (.aload_n 0, 1) := by decide +kernel
theorem dX6_turn_191 : decode cX6_turn 191 = .ok (.getfield 7, 3) := by decide +kernel
theorem dX6_turn_194 : decode cX6_turn 194 = .ok (.iconst 2, 1) := by decide +kernel
theorem dX6_turn_195 : decode cX6_turn 195 = .ok (.iaload, 1) := by decide +kernel
theorem dX6_turn_196 : decode cX6_turn 196 = .ok (.iastore, 1) := by decide +kernel
theorem dX6_turn_197 : decode cX6_turn 197 = .ok (.aload_n 0, 1) := by decide +kernel
theorem dX6_turn_198 : decode cX6_turn 198 = .ok (.getfield 7, 3) := by decide +kernel
theorem dX6_turn_201 : decode cX6_turn 201 = .ok (.iconst 2, 1) := by decide +kernel
theorem dX6_turn_202 : decode cX6_turn 202 = .ok (.iload_n 2, 1) := by decide +kernel
theorem dX6_turn_203 : decode cX6_turn 203 = .ok (.iastore, 1) := by decide +kernel
theorem dX6_turn_204 : decode cX6_turn 204 = .ok (.aload_n 0, 1) := by decide +kernel
theorem dX6_turn_205 : decode cX6_turn 205 = .ok (.invokevirtual 268, 3) := by decide +kernel
theorem dX6_turn_208 : decode cX6_turn 208 = .ok (.ireturn, 1) := by decide +kernel
theorem dX6_keep_0 : decode cX6_keep 0 = .ok (.iload_n 1, 1) := by decide +kernel
theorem dX6_keep_1 : decode cX6_keep 1 = .ok (.i2l, 1) := by decide +kernel
theorem dX6_keep_2 : decode cX6_keep 2 = .ok (.lconst 0, 1) := by decide +kernel
theorem dX6_keep_3 : decode cX6_keep 3 = .ok (.lconst 1, 1) := by decide +kernel
theorem dX6_keep_4 : decode cX6_keep 4 = .ok (.invokestatic 64, 3) := by decide +kernel
theorem dX6_keep_7 : decode cX6_keep 7 = .ok (.ifCond .ne 5, 3) := by decide +kernel
theorem dX6_keep_10 : decode cX6_keep 10 = .ok (.iconst (-1), 1) := by decide +kernel
theorem dX6_keep_11 : decode cX6_keep 11 = .ok (.ireturn, 1) := by decide +kernel
theorem dX6_keep_12 : decode cX6_keep 12 = .ok (.aload_n 0, 1) := by decide +kernel
theorem dX6_keep_13 : decode cX6_keep 13 = .ok (.getfield 16, 3) := by decide +kernel
theorem dX6_keep_16 : decode cX6_keep 16 = .ok (.iload_n 1, 1) := by decide +kernel
theorem dX6_keep_17 : decode cX6_keep 17 = .ok (.baload, 1) := by decide +kernel
theorem dX6_keep_18 : decode cX6_keep 18 = .ok (.invokestatic 214, 3) := by decide +kernel
theorem dX6_keep_21 : decode cX6_keep 21 = .ok (.istore_n 2, 1) := by decide +kernel
theorem dX6_keep_22 : decode cX6_keep 22 = .ok (.aload_n 0, 1) := by decide +kernel
theorem dX6_keep_23 : decode cX6_keep 23 = .ok (.getfield 16, 3) := by decide +kernel
theorem dX6_keep_26 : decode cX6_keep 26 = .ok (.iload_n 1, 1) := by decide +kernel
theorem dX6_keep_27 : decode cX6_keep 27 = .ok (.iconst 1, 1) := by decide +kernel
theorem dX6_keep_28 : decode cX6_keep 28 = .ok (.bastore, 1) := by decide +kernel
theorem dX6_keep_29 : decode cX6_keep 29 = .ok (.iconst 0, 1) := by decide +kernel
theorem dX6_keep_30 : decode cX6_keep 30 = .ok (.istore_n 3, 1) := by decide +kernel
theorem dX6_keep_31 : decode cX6_keep 31 = .ok (.iload_n 3, 1) := by decide +kernel
theorem dX6_keep_32 : decode cX6_keep 32 = .ok (.bipush 35, 2) := by decide +kernel
theorem dX6_keep_34 : decode cX6_keep 34 = .ok (.if_icmp .ge 26, 3) := by decide +kernel
theorem dX6_keep_37 : decode cX6_keep 37 = .ok (.aload_n 0, 1) := by decide +kernel
theorem dX6_keep_38 : decode cX6_keep 38 = .ok (.getfield 13, 3) := by decide +kernel
theorem dX6_keep_41 : decode cX6_keep 41 = .ok (.bipush 35, 2) := by decide +kernel
theorem dX6_keep_43 : decode cX6_keep 43 = .ok (.iload_n 1, 1) := by decide +kernel
theorem dX6_keep_44 : decode cX6_keep 44 = .ok (.imul, 1) := by decide +kernel
theorem dX6_keep_45 : decode cX6_keep 45 = .ok (.iload_n 3, 1) := by decide +kernel
theorem dX6_keep_46 : decode cX6_keep 46 = .ok (.iadd, 1) := by decide +kernel
theorem dX6_keep_47 : decode cX6_keep 47 = .ok (.aload_n 0, 1) := by decide +kernel
theorem dX6_keep_48 : decode cX6_keep 48 = .ok (.getfield 7, 3) := by decide +kernel
theorem dX6_keep_51 : decode cX6_keep 51 = .ok (.iload_n 3, 1) := by decide +kernel
theorem dX6_keep_52 : decode cX6_keep 52 = .ok (.iaload, 1) := by decide +kernel
theorem dX6_keep_53 : decode cX6_keep 53 = .ok (.iastore, 1) := by decide +kernel
theorem dX6_keep_54 : decode cX6_keep 54 = .ok (.iinc 3 1, 3) := by decide +kernel
theorem dX6_keep_57 : decode cX6_keep 57 = .ok (.goto (-26), 3) := by decide +kernel
theorem dX6_keep_60 : decode cX6_keep 60 = .ok (.iload_n 2, 1) := by decide +kernel
theorem dX6_keep_61 : decode cX6_keep 61 = .ok (.ireturn, 1) := by decide +kernel
theorem dX6_takes_0 : decode cX6_takes 0 = .ok (.iconst 0, 1) := by decide +kernel
theorem dX6_takes_1 : decode cX6_takes 1 = .ok (.istore_n 2, 1) := by decide +kernel
theorem dX6_takes_2 : decode cX6_takes 2 = .ok (.iload_n 2, 1) := by decide +kernel
theorem dX6_takes_3 : decode cX6_takes 3 = .ok (.bipush 35, 2) := by decide +kernel
theorem dX6_takes_5 : decode cX6_takes 5 = .ok (.if_icmp .ge 26, 3) := by decide +kernel
theorem dX6_takes_8 : decode cX6_takes 8 = .ok (.aload_n 0, 1) := by decide +kernel
theorem dX6_takes_9 : decode cX6_takes 9 = .ok (.getfield 7, 3) := by decide +kernel
theorem dX6_takes_12 : decode cX6_takes 12 = .ok (.iload_n 2, 1) := by decide +kernel
theorem dX6_takes_13 : decode cX6_takes 13 = .ok (.aload_n 0, 1) := by decide +kernel
theorem dX6_takes_14 : decode cX6_takes 14 = .ok (.getfield 13, 3) := by decide +kernel
theorem dX6_takes_17 : decode cX6_takes 17 = .ok (.bipush 35, 2) := by decide +kernel
theorem dX6_takes_19 : decode cX6_takes 19 = .ok (.iload_n 1, 1) := by decide +kernel
theorem dX6_takes_20 : decode cX6_takes 20 = .ok (.imul, 1) := by decide +kernel
theorem dX6_takes_21 : decode cX6_takes 21 = .ok (.iload_n 2, 1) := by decide +kernel
theorem dX6_takes_22 : decode cX6_takes 22 = .ok (.iadd, 1) := by decide +kernel
theorem dX6_takes_23 : decode cX6_takes 23 = .ok (.iaload, 1) := by decide +kernel
theorem dX6_takes_24 : decode cX6_takes 24 = .ok (.iastore, 1) := by decide +kernel
theorem dX6_takes_25 : decode cX6_takes 25 = .ok (.iinc 2 1, 3) := by decide +kernel
theorem dX6_takes_28 : decode cX6_takes 28 = .ok (.goto (-26), 3) := by decide +kernel
theorem dX6_takes_31 : decode cX6_takes 31 = .ok (.return_, 1) := by decide +kernel
theorem dX6_back_0 : decode cX6_back 0 = .ok (.iload_n 1, 1) := by decide +kernel
theorem dX6_back_1 : decode cX6_back 1 = .ok (.i2l, 1) := by decide +kernel
theorem dX6_back_2 : decode cX6_back 2 = .ok (.lconst 0, 1) := by decide +kernel
theorem dX6_back_3 : decode cX6_back 3 = .ok (.lconst 1, 1) := by decide +kernel
theorem dX6_back_4 : decode cX6_back 4 = .ok (.invokestatic 64, 3) := by decide +kernel
theorem dX6_back_7 : decode cX6_back 7 = .ok (.ifCond .ne 5, 3) := by decide +kernel
theorem dX6_back_10 : decode cX6_back 10 = .ok (.iconst (-1), 1) := by decide +kernel
theorem dX6_back_11 : decode cX6_back 11 = .ok (.ireturn, 1) := by decide +kernel
theorem dX6_back_12 : decode cX6_back 12 = .ok (.aload_n 0, 1) := by decide +kernel
theorem dX6_back_13 : decode cX6_back 13 = .ok (.getfield 16, 3) := by decide +kernel
theorem dX6_back_16 : decode cX6_back 16 = .ok (.iload_n 1, 1) := by decide +kernel
theorem dX6_back_17 : decode cX6_back 17 = .ok (.baload, 1) := by decide +kernel
theorem dX6_back_18 : decode cX6_back 18 = .ok (.ifCond .ne 6, 3) := by decide +kernel
theorem dX6_back_21 : decode cX6_back 21 = .ok (.bipush (-2), 2) := by decide +kernel
theorem dX6_back_23 : decode cX6_back 23 = .ok (.ireturn, 1) := by decide +kernel
theorem dX6_back_24 : decode cX6_back 24 = .ok (.aload_n 0, 1) := by decide +kernel
theorem dX6_back_25 : decode cX6_back 25 = .ok (.iload_n 1, 1) := by decide +kernel
theorem dX6_back_26 : decode cX6_back 26 = .ok (.invokevirtual 296, 3) := by decide +kernel
theorem dX6_back_29 : decode cX6_back 29 = .ok (.aload_n 0, 1) := by decide +kernel
theorem dX6_back_30 : decode cX6_back 30 = .ok (.invokevirtual 268, 3) := by decide +kernel
theorem dX6_back_33 : decode cX6_back 33 = .ok (.ireturn, 1) := by decide +kernel
theorem dX6_findForm_0 : decode cX6_findForm 0 = .ok (.aload_n 0, 1) := by decide +kernel
theorem dX6_findForm_1 : decode cX6_findForm 1 = .ok (.invokevirtual 227, 3) := by decide +kernel
theorem dX6_findForm_4 : decode cX6_findForm 4 = .ok (.iconst 0, 1) := by decide +kernel
theorem dX6_findForm_5 : decode cX6_findForm 5 = .ok (.istore_n 2, 1) := by decide +kernel
theorem dX6_findForm_6 : decode cX6_findForm 6 = .ok (.iload_n 2, 1) := by decide +kernel
theorem dX6_findForm_7 : decode cX6_findForm 7 = .ok (.bipush 45, 2) := by decide +kernel
theorem dX6_findForm_9 : decode cX6_findForm 9 = .ok (.if_icmp .ge 13, 3) := by decide +kernel
theorem dX6_findForm_12 : decode cX6_findForm 12 = .ok (.aload_n 1, 1) := by decide +kernel
theorem dX6_findForm_13 : decode cX6_findForm 13 = .ok (.iload_n 2, 1) := by decide +kernel
theorem dX6_findForm_14 : decode cX6_findForm 14 = .ok (.iconst 0, 1) := by decide +kernel
theorem dX6_findForm_15 : decode cX6_findForm 15 = .ok (.iastore, 1) := by decide +kernel
theorem dX6_findForm_16 : decode cX6_findForm 16 = .ok (.iinc 2 1, 3) := by decide +kernel
theorem dX6_findForm_19 : decode cX6_findForm 19 = .ok (.goto (-13), 3) := by decide +kernel
theorem dX6_findForm_22 : decode cX6_findForm 22 = .ok (.aload_n 1, 1) := by decide +kernel
theorem dX6_findForm_23 : decode cX6_findForm 23 = .ok (.iconst 0, 1) := by decide +kernel
