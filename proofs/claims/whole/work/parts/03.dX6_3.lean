theorem dX6_findForm_24 : decode cX6_findForm 24 = .ok (.aload_n 0, 1) := by decide +kernel
theorem dX6_findForm_25 : decode cX6_findForm 25 = .ok (.getfield 7, 3) := by decide +kernel
theorem dX6_findForm_28 : decode cX6_findForm 28 = .ok (.iconst 0, 1) := by decide +kernel
theorem dX6_findForm_29 : decode cX6_findForm 29 = .ok (.iaload, 1) := by decide +kernel
theorem dX6_findForm_30 : decode cX6_findForm 30 = .ok (.iastore, 1) := by decide +kernel
theorem dX6_findForm_31 : decode cX6_findForm 31 = .ok (.aload_n 1, 1) := by decide +kernel
theorem dX6_findForm_32 : decode cX6_findForm 32 = .ok (.iconst 1, 1) := by decide +kernel
theorem dX6_findForm_33 : decode cX6_findForm 33 = .ok (.aload_n 0, 1) := by decide +kernel
theorem dX6_findForm_34 : decode cX6_findForm 34 = .ok (.getfield 7, 3) := by decide +kernel
theorem dX6_findForm_37 : decode cX6_findForm 37 = .ok (.iconst 1, 1) := by decide +kernel
theorem dX6_findForm_38 : decode cX6_findForm 38 = .ok (.iaload, 1) := by decide +kernel
theorem dX6_findForm_39 : decode cX6_findForm 39 = .ok (.iastore, 1) := by decide +kernel
theorem dX6_findForm_40 : decode cX6_findForm 40 = .ok (.aload_n 1, 1) := by decide +kernel
theorem dX6_findForm_41 : decode cX6_findForm 41 = .ok (.iconst 2, 1) := by decide +kernel
theorem dX6_findForm_42 : decode cX6_findForm 42 = .ok (.aload_n 0, 1) := by decide +kernel
theorem dX6_findForm_43 : decode cX6_findForm 43 = .ok (.getfield 7, 3) := by decide +kernel
theorem dX6_findForm_46 : decode cX6_findForm 46 = .ok (.iconst 2, 1) := by decide +kernel
theorem dX6_findForm_47 : decode cX6_findForm 47 = .ok (.iaload, 1) := by decide +kernel
theorem dX6_findForm_48 : decode cX6_findForm 48 = .ok (.iastore, 1) := by decide +kernel
theorem dX6_findForm_49 : decode cX6_findForm 49 = .ok (.iconst 0, 1) := by decide +kernel
theorem dX6_findForm_50 : decode cX6_findForm 50 = .ok (.istore_n 2, 1) := by decide +kernel
theorem dX6_findForm_51 : decode cX6_findForm 51 = .ok (.iload_n 2, 1) := by decide +kernel
theorem dX6_findForm_52 : decode cX6_findForm 52 = .ok (.iconst 4, 1) := by decide +kernel
theorem dX6_findForm_53 : decode cX6_findForm 53 = .ok (.if_icmp .gt 32, 3) := by decide +kernel
theorem dX6_findForm_56 : decode cX6_findForm 56 = .ok (.aload_n 1, 1) := by decide +kernel
theorem dX6_findForm_57 : decode cX6_findForm 57 = .ok (.iconst 3, 1) := by decide +kernel
theorem dX6_findForm_58 : decode cX6_findForm 58 = .ok (.iload_n 2, 1) := by decide +kernel
theorem dX6_findForm_59 : decode cX6_findForm 59 = .ok (.iadd, 1) := by decide +kernel
theorem dX6_findForm_60 : decode cX6_findForm 60 = .ok (.aload_n 0, 1) := by decide +kernel
theorem dX6_findForm_61 : decode cX6_findForm 61 = .ok (.getfield 29, 3) := by decide +kernel
theorem dX6_findForm_64 : decode cX6_findForm 64 = .ok (.iload_n 2, 1) := by decide +kernel
theorem dX6_findForm_65 : decode cX6_findForm 65 = .ok (.iaload, 1) := by decide +kernel
theorem dX6_findForm_66 : decode cX6_findForm 66 = .ok (.iastore, 1) := by decide +kernel
theorem dX6_findForm_67 : decode cX6_findForm 67 = .ok (.aload_n 1, 1) := by decide +kernel
theorem dX6_findForm_68 : decode cX6_findForm 68 = .ok (.bipush 8, 2) := by decide +kernel
theorem dX6_findForm_70 : decode cX6_findForm 70 = .ok (.iload_n 2, 1) := by decide +kernel
theorem dX6_findForm_71 : decode cX6_findForm 71 = .ok (.iadd, 1) := by decide +kernel
theorem dX6_findForm_72 : decode cX6_findForm 72 = .ok (.aload_n 0, 1) := by decide +kernel
theorem dX6_findForm_73 : decode cX6_findForm 73 = .ok (.getfield 32, 3) := by decide +kernel
theorem dX6_findForm_76 : decode cX6_findForm 76 = .ok (.iload_n 2, 1) := by decide +kernel
theorem dX6_findForm_77 : decode cX6_findForm 77 = .ok (.iaload, 1) := by decide +kernel
theorem dX6_findForm_78 : decode cX6_findForm 78 = .ok (.iastore, 1) := by decide +kernel
theorem dX6_findForm_79 : decode cX6_findForm 79 = .ok (.iinc 2 1, 3) := by decide +kernel
theorem dX6_findForm_82 : decode cX6_findForm 82 = .ok (.goto (-31), 3) := by decide +kernel
theorem dX6_findForm_85 : decode cX6_findForm 85 = .ok (.iconst 0, 1) := by decide +kernel
theorem dX6_findForm_86 : decode cX6_findForm 86 = .ok (.istore_n 2, 1) := by decide +kernel
theorem dX6_findForm_87 : decode cX6_findForm 87 = .ok (.iload_n 2, 1) := by decide +kernel
theorem dX6_findForm_88 : decode cX6_findForm 88 = .ok (.aload_n 0, 1) := by decide +kernel
theorem dX6_findForm_89 : decode cX6_findForm 89 = .ok (.getfield 7, 3) := by decide +kernel
theorem dX6_findForm_92 : decode cX6_findForm 92 = .ok (.iconst 0, 1) := by decide +kernel
theorem dX6_findForm_93 : decode cX6_findForm 93 = .ok (.iaload, 1) := by decide +kernel
theorem dX6_findForm_94 : decode cX6_findForm 94 = .ok (.if_icmp .gt 45, 3) := by decide +kernel
theorem dX6_findForm_97 : decode cX6_findForm 97 = .ok (.aload_n 0, 1) := by decide +kernel
theorem dX6_findForm_98 : decode cX6_findForm 98 = .ok (.iload_n 2, 1) := by decide +kernel
theorem dX6_findForm_99 : decode cX6_findForm 99 = .ok (.invokevirtual 218, 3) := by decide +kernel
theorem dX6_findForm_102 : decode cX6_findForm 102 = .ok (.iconst 1, 1) := by decide +kernel
theorem dX6_findForm_103 : decode cX6_findForm 103 = .ok (.istore_n 3, 1) := by decide +kernel
theorem dX6_findForm_104 : decode cX6_findForm 104 = .ok (.iload_n 3, 1) := by decide +kernel
theorem dX6_findForm_105 : decode cX6_findForm 105 = .ok (.iconst 4, 1) := by decide +kernel
theorem dX6_findForm_106 : decode cX6_findForm 106 = .ok (.if_icmp .gt 27, 3) := by decide +kernel
theorem dX6_findForm_109 : decode cX6_findForm 109 = .ok (.aload_n 1, 1) := by decide +kernel
theorem dX6_findForm_110 : decode cX6_findForm 110 = .ok (.bipush 13, 2) := by decide +kernel
theorem dX6_findForm_112 : decode cX6_findForm 112 = .ok (.iconst 4, 1) := by decide +kernel
theorem dX6_findForm_113 : decode cX6_findForm 113 = .ok (.iload_n 2, 1) := by decide +kernel
theorem dX6_findForm_114 : decode cX6_findForm 114 = .ok (.imul, 1) := by decide +kernel
theorem dX6_findForm_115 : decode cX6_findForm 115 = .ok (.iadd, 1) := by decide +kernel
theorem dX6_findForm_116 : decode cX6_findForm 116 = .ok (.iload_n 3, 1) := by decide +kernel
theorem dX6_findForm_117 : decode cX6_findForm 117 = .ok (.iadd, 1) := by decide +kernel
theorem dX6_findForm_118 : decode cX6_findForm 118 = .ok (.iconst 1, 1) := by decide +kernel
theorem dX6_findForm_119 : decode cX6_findForm 119 = .ok (.isub, 1) := by decide +kernel
theorem dX6_findForm_120 : decode cX6_findForm 120 = .ok (.aload_n 0, 1) := by decide +kernel
theorem dX6_findForm_121 : decode cX6_findForm 121 = .ok (.getfield 35, 3) := by decide +kernel
theorem dX6_findForm_124 : decode cX6_findForm 124 = .ok (.iload_n 3, 1) := by decide +kernel
theorem dX6_findForm_125 : decode cX6_findForm 125 = .ok (.iaload, 1) := by decide +kernel
theorem dX6_findForm_126 : decode cX6_findForm 126 = .ok (.iastore, 1) := by decide +kernel
theorem dX6_findForm_127 : decode cX6_findForm 127 = .ok (.iinc 3 1, 3) := by decide +kernel
theorem dX6_findForm_130 : decode cX6_findForm 130 = .ok (.goto (-26), 3) := by decide +kernel
theorem dX6_findForm_133 : decode cX6_findForm 133 = .ok (.iinc 2 1, 3) := by decide +kernel
theorem dX6_findForm_136 : decode cX6_findForm 136 = .ok (.goto (-49), 3) := by decide +kernel
theorem dX6_findForm_139 : decode cX6_findForm 139 = .ok (.return_, 1) := by decide +kernel
theorem dX6_alike_0 : decode cX6_alike 0 = .ok (.iload_n 1, 1) := by decide +kernel
theorem dX6_alike_1 : decode cX6_alike 1 = .ok (.i2l, 1) := by decide +kernel
theorem dX6_alike_2 : decode cX6_alike 2 = .ok (.lconst 0, 1) := by decide +kernel
theorem dX6_alike_3 : decode cX6_alike 3 = .ok (.lconst 1, 1) := by decide +kernel
theorem dX6_alike_4 : decode cX6_alike 4 = .ok (.invokestatic 64, 3) := by decide +kernel
theorem dX6_alike_7 : decode cX6_alike 7 = .ok (.ifCond .ne 5, 3) := by decide +kernel
theorem dX6_alike_10 : decode cX6_alike 10 = .ok (.iconst (-1), 1) := by decide +kernel
theorem dX6_alike_11 : decode cX6_alike 11 = .ok (.ireturn, 1) := by decide +kernel
theorem dX6_alike_12 : decode cX6_alike 12 = .ok (.aload_n 0, 1) := by decide +kernel
theorem dX6_alike_13 : decode cX6_alike 13 = .ok (.getfield 16, 3) := by decide +kernel
theorem dX6_alike_16 : decode cX6_alike 16 = .ok (.iload_n 1, 1) := by decide +kernel
theorem dX6_alike_17 : decode cX6_alike 17 = .ok (.baload, 1) := by decide +kernel
theorem dX6_alike_18 : decode cX6_alike 18 = .ok (.ifCond .ne 6, 3) := by decide +kernel
theorem dX6_alike_21 : decode cX6_alike 21 = .ok (.bipush (-2), 2) := by decide +kernel
theorem dX6_alike_23 : decode cX6_alike 23 = .ok (.ireturn, 1) := by decide +kernel
theorem dX6_alike_24 : decode cX6_alike 24 = .ok (.iconst 0, 1) := by decide +kernel
theorem dX6_alike_25 : decode cX6_alike 25 = .ok (.istore_n 2, 1) := by decide +kernel
theorem dX6_alike_26 : decode cX6_alike 26 = .ok (.iload_n 2, 1) := by decide +kernel
theorem dX6_alike_27 : decode cX6_alike 27 = .ok (.bipush 35, 2) := by decide +kernel
theorem dX6_alike_29 : decode cX6_alike 29 = .ok (.if_icmp .ge 21, 3) := by decide +kernel
theorem dX6_alike_32 : decode cX6_alike 32 = .ok (.aload_n 0, 1) := by decide +kernel
theorem dX6_alike_33 : decode cX6_alike 33 = .ok (.getfield 41, 3) := by decide +kernel
theorem dX6_alike_36 : decode cX6_alike 36 = .ok (.iload_n 2, 1) := by decide +kernel
theorem dX6_alike_37 : decode cX6_alike 37 = .ok (.aload_n 0, 1) := by decide +kernel
theorem dX6_alike_38 : decode cX6_alike 38 = .ok (.getfield 7, 3) := by decide +kernel
theorem dX6_alike_41 : decode cX6_alike 41 = .ok (.iload_n 2, 1) := by decide +kernel
theorem dX6_alike_42 : decode cX6_alike 42 = .ok (.iaload, 1) := by decide +kernel
theorem dX6_alike_43 : decode cX6_alike 43 = .ok (.iastore, 1) := by decide +kernel
theorem dX6_alike_44 : decode cX6_alike 44 = .ok (.iinc 2 1, 3) := by decide +kernel
theorem dX6_alike_47 : decode cX6_alike 47 = .ok (.goto (-21), 3) := by decide +kernel
theorem dX6_alike_50 : decode cX6_alike 50 = .ok (.aload_n 0, 1) := by decide +kernel
theorem dX6_alike_51 : decode cX6_alike 51 = .ok (.aload_n 0, 1) := by decide +kernel
theorem dX6_alike_52 : decode cX6_alike 52 = .ok (.getfield 44, 3) := by decide +kernel
theorem dX6_alike_55 : decode cX6_alike 55 = .ok (.invokevirtual 299, 3) := by decide +kernel
theorem dX6_alike_58 : decode cX6_alike 58 = .ok (.aload_n 0, 1) := by decide +kernel
theorem dX6_alike_59 : decode cX6_alike 59 = .ok (.iload_n 1, 1) := by decide +kernel
theorem dX6_alike_60 : decode cX6_alike 60 = .ok (.invokevirtual 296, 3) := by decide +kernel
theorem dX6_alike_63 : decode cX6_alike 63 = .ok (.aload_n 0, 1) := by decide +kernel
theorem dX6_alike_64 : decode cX6_alike 64 = .ok (.aload_n 0, 1) := by decide +kernel
theorem dX6_alike_65 : decode cX6_alike 65 = .ok (.getfield 47, 3) := by decide +kernel
theorem dX6_alike_68 : decode cX6_alike 68 = .ok (.invokevirtual 299, 3) := by decide +kernel
theorem dX6_alike_71 : decode cX6_alike 71 = .ok (.iconst 0, 1) := by decide +kernel
theorem dX6_alike_72 : decode cX6_alike 72 = .ok (.istore_n 2, 1) := by decide +kernel
theorem dX6_alike_73 : decode cX6_alike 73 = .ok (.iload_n 2, 1) := by decide +kernel
theorem dX6_alike_74 : decode cX6_alike 74 = .ok (.bipush 35, 2) := by decide +kernel
theorem dX6_alike_76 : decode cX6_alike 76 = .ok (.if_icmp .ge 21, 3) := by decide +kernel
theorem dX6_alike_79 : decode cX6_alike 79 = .ok (.aload_n 0, 1) := by decide +kernel
theorem dX6_alike_80 : decode cX6_alike 80 = .ok (.getfield 7, 3) := by decide +kernel
theorem dX6_alike_83 : decode cX6_alike 83 = .ok (.iload_n 2, 1) := by decide +kernel
theorem dX6_alike_84 : decode cX6_alike 84 = .ok (.aload_n 0, 1) := by decide +kernel
theorem dX6_alike_85 : decode cX6_alike 85 = .ok (.getfield 41, 3) := by decide +kernel
theorem dX6_alike_88 : decode cX6_alike 88 = .ok (.iload_n 2, 1) := by decide +kernel
theorem dX6_alike_89 : decode cX6_alike 89 = .ok (.iaload, 1) := by decide +kernel
theorem dX6_alike_90 : decode cX6_alike 90 = .ok (.iastore, 1) := by decide +kernel
theorem dX6_alike_91 : decode cX6_alike 91 = .ok (.iinc 2 1, 3) := by decide +kernel
theorem dX6_alike_94 : decode cX6_alike 94 = .ok (.goto (-21), 3) := by decide +kernel
theorem dX6_alike_97 : decode cX6_alike 97 = .ok (.iconst 1, 1) := by decide +kernel
theorem dX6_alike_98 : decode cX6_alike 98 = .ok (.istore_n 2, 1) := by decide +kernel
theorem dX6_alike_99 : decode cX6_alike 99 = .ok (.iconst 0, 1) := by decide +kernel
theorem dX6_alike_100 : decode cX6_alike 100 = .ok (.istore_n 3, 1) := by decide +kernel
theorem dX6_alike_101 : decode cX6_alike 101 = .ok (.iload_n 3, 1) := by decide +kernel
theorem dX6_alike_102 : decode cX6_alike 102 = .ok (.bipush 45, 2) := by decide +kernel
theorem dX6_alike_104 : decode cX6_alike 104 = .ok (.if_icmp .ge 34, 3) := by decide +kernel
theorem dX6_alike_107 : decode cX6_alike 107 = .ok (.iload_n 2, 1) := by decide +kernel
theorem dX6_alike_108 : decode cX6_alike 108 = .ok (.ifCond .eq 22, 3) := by decide +kernel
theorem dX6_alike_111 : decode cX6_alike 111 = .ok (.aload_n 0, 1) := by decide +kernel
theorem dX6_alike_112 : decode cX6_alike 112 = .ok (.getfield 44, 3) := by decide +kernel
theorem dX6_alike_115 : decode cX6_alike 115 = .ok (.iload_n 3, 1) := by decide +kernel
theorem dX6_alike_116 : decode cX6_alike 116 = .ok (.iaload, 1) := by decide +kernel
theorem dX6_alike_117 : decode cX6_alike 117 = .ok (.aload_n 0, 1) := by decide +kernel
theorem dX6_alike_118 : decode cX6_alike 118 = .ok (.getfield 47, 3) := by decide +kernel
theorem dX6_alike_121 : decode cX6_alike 121 = .ok (.iload_n 3, 1) := by decide +kernel
theorem dX6_alike_122 : decode cX6_alike 122 = .ok (.iaload, 1) := by decide +kernel
theorem dX6_alike_123 : decode cX6_alike 123 = .ok (.if_icmp .ne 7, 3) := by decide +kernel
theorem dX6_alike_126 : decode cX6_alike 126 = .ok (.iconst 1, 1) := by decide +kernel
theorem dX6_alike_127 : decode cX6_alike 127 = .ok (.goto 4, 3) := by decide +kernel
theorem dX6_alike_130 : decode cX6_alike 130 = .ok (.iconst 0, 1) := by decide +kernel
theorem dX6_alike_131 : decode cX6_alike 131 = .ok (.istore_n 2, 1) := by decide +kernel
theorem dX6_alike_132 : decode cX6_alike 132 = .ok (.iinc 3 1, 3) := by decide +kernel
theorem dX6_alike_135 : decode cX6_alike 135 = .ok (.goto (-34), 3) := by decide +kernel
theorem dX6_alike_138 : decode cX6_alike 138 = .ok (.iload_n 2, 1) := by decide +kernel
theorem dX6_alike_139 : decode cX6_alike 139 = .ok (.invokestatic 214, 3) := by decide +kernel
theorem dX6_alike_142 : decode cX6_alike 142 = .ok (.ireturn, 1) := by decide +kernel
theorem dX6_isSheet_0 : decode cX6_isSheet 0 = .ok (.iload_n 0, 1) := by decide +kernel
theorem dX6_isSheet_1 : decode cX6_isSheet 1 = .ok (.i2l, 1) := by decide +kernel
theorem dX6_isSheet_2 : decode cX6_isSheet 2 = .ok (.lconst 0, 1) := by decide +kernel
theorem dX6_isSheet_3 : decode cX6_isSheet 3 = .ok (.ldc2_w 302, 3) := by decide +kernel
theorem dX6_isSheet_6 : decode cX6_isSheet 6 = .ok (.invokestatic 64, 3) := by decide +kernel
theorem dX6_isSheet_9 : decode cX6_isSheet 9 = .ok (.ifCond .eq 19, 3) := by decide +kernel
theorem dX6_isSheet_12 : decode cX6_isSheet 12 = .ok (.iload_n 1, 1) := by decide +kernel
theorem dX6_isSheet_13 : decode cX6_isSheet 13 = .ok (.i2l, 1) := by decide +kernel
theorem dX6_isSheet_14 : decode cX6_isSheet 14 = .ok (.lconst 0, 1) := by decide +kernel
theorem dX6_isSheet_15 : decode cX6_isSheet 15 = .ok (.ldc2_w 291, 3) := by decide +kernel
theorem dX6_isSheet_18 : decode cX6_isSheet 18 = .ok (.invokestatic 64, 3) := by decide +kernel
theorem dX6_isSheet_21 : decode cX6_isSheet 21 = .ok (.ifCond .eq 7, 3) := by decide +kernel
theorem dX6_isSheet_24 : decode cX6_isSheet 24 = .ok (.iconst 1, 1) := by decide +kernel
theorem dX6_isSheet_25 : decode cX6_isSheet 25 = .ok (.goto 4, 3) := by decide +kernel
theorem dX6_isSheet_28 : decode cX6_isSheet 28 = .ok (.iconst 0, 1) := by decide +kernel
theorem dX6_isSheet_29 : decode cX6_isSheet 29 = .ok (.ireturn, 1) := by decide +kernel
theorem dX6_sheet_0 : decode cX6_sheet 0 = .ok (.iload_n 1, 1) := by decide +kernel
theorem dX6_sheet_1 : decode cX6_sheet 1 = .ok (.iload_n 2, 1) := by decide +kernel
theorem dX6_sheet_2 : decode cX6_sheet 2 = .ok (.invokestatic 304, 3) := by decide +kernel
theorem dX6_sheet_5 : decode cX6_sheet 5 = .ok (.ifCond .eq 9, 3) := by decide +kernel
theorem dX6_sheet_8 : decode cX6_sheet 8 = .ok (.iload_n 3, 1) := by decide +kernel
theorem dX6_sheet_9 : decode cX6_sheet 9 = .ok (.bipush 40, 2) := by decide +kernel
theorem dX6_sheet_11 : decode cX6_sheet 11 = .ok (.if_icmp .le 5, 3) := by decide +kernel
theorem dX6_sheet_14 : decode cX6_sheet 14 = .ok (.iconst (-1), 1) := by decide +kernel
theorem dX6_sheet_15 : decode cX6_sheet 15 = .ok (.ireturn, 1) := by decide +kernel
theorem dX6_sheet_16 : decode cX6_sheet 16 = .ok (.iload_n 3, 1) := by decide +kernel
theorem dX6_sheet_17 : decode cX6_sheet 17 = .ok (.ifCond .ge 6, 3) := by decide +kernel
theorem dX6_sheet_20 : decode cX6_sheet 20 = .ok (.bipush (-14), 2) := by decide +kernel
theorem dX6_sheet_22 : decode cX6_sheet 22 = .ok (.ireturn, 1) := by decide +kernel
theorem dX6_sheet_23 : decode cX6_sheet 23 = .ok (.aload_n 0, 1) := by decide +kernel
theorem dX6_sheet_24 : decode cX6_sheet 24 = .ok (.getfield 50, 3) := by decide +kernel
theorem dX6_sheet_27 : decode cX6_sheet 27 = .ok (.iload_n 1, 1) := by decide +kernel
theorem dX6_sheet_28 : decode cX6_sheet 28 = .ok (.iload_n 2, 1) := by decide +kernel
theorem dX6_sheet_29 : decode cX6_sheet 29 = .ok (.iastore, 1) := by decide +kernel
theorem dX6_sheet_30 : decode cX6_sheet 30 = .ok (.aload_n 0, 1) := by decide +kernel
theorem dX6_sheet_31 : decode cX6_sheet 31 = .ok (.getfield 53, 3) := by decide +kernel
theorem dX6_sheet_34 : decode cX6_sheet 34 = .ok (.iload_n 1, 1) := by decide +kernel
theorem dX6_sheet_35 : decode cX6_sheet 35 = .ok (.iload_n 3, 1) := by decide +kernel
theorem dX6_sheet_36 : decode cX6_sheet 36 = .ok (.iastore, 1) := by decide +kernel
theorem dX6_sheet_37 : decode cX6_sheet 37 = .ok (.iconst 0, 1) := by decide +kernel
theorem dX6_sheet_38 : decode cX6_sheet 38 = .ok (.istore 4, 2) := by decide +kernel
theorem dX6_sheet_40 : decode cX6_sheet 40 = .ok (.iload 4, 2) := by decide +kernel
theorem dX6_sheet_42 : decode cX6_sheet 42 = .ok (.bipush 40, 2) := by decide +kernel
theorem dX6_sheet_44 : decode cX6_sheet 44 = .ok (.if_icmp .ge 22, 3) := by decide +kernel
theorem dX6_sheet_47 : decode cX6_sheet 47 = .ok (.aload_n 0, 1) := by decide +kernel
theorem dX6_sheet_48 : decode cX6_sheet 48 = .ok (.getfield 56, 3) := by decide +kernel
theorem dX6_sheet_51 : decode cX6_sheet 51 = .ok (.bipush 40, 2) := by decide +kernel
theorem dX6_sheet_53 : decode cX6_sheet 53 = .ok (.iload_n 1, 1) := by decide +kernel
theorem dX6_sheet_54 : decode cX6_sheet 54 = .ok (.imul, 1) := by decide +kernel
theorem dX6_sheet_55 : decode cX6_sheet 55 = .ok (.iload 4, 2) := by decide +kernel
theorem dX6_sheet_57 : decode cX6_sheet 57 = .ok (.iadd, 1) := by decide +kernel
theorem dX6_sheet_58 : decode cX6_sheet 58 = .ok (.iconst 0, 1) := by decide +kernel
theorem dX6_sheet_59 : decode cX6_sheet 59 = .ok (.iastore, 1) := by decide +kernel
theorem dX6_sheet_60 : decode cX6_sheet 60 = .ok (.iinc 4 1, 3) := by decide +kernel
theorem dX6_sheet_63 : decode cX6_sheet 63 = .ok (.goto (-23), 3) := by decide +kernel
theorem dX6_sheet_66 : decode cX6_sheet 66 = .ok (.iconst 1, 1) := by decide +kernel
theorem dX6_sheet_67 : decode cX6_sheet 67 = .ok (.ireturn, 1) := by decide +kernel
theorem dX6_lay_0 : decode cX6_lay 0 = .ok (.iload_n 1, 1) := by decide +kernel
theorem dX6_lay_1 : decode cX6_lay 1 = .ok (.iconst 0, 1) := by decide +kernel
theorem dX6_lay_2 : decode cX6_lay 2 = .ok (.invokestatic 304, 3) := by decide +kernel
theorem dX6_lay_5 : decode cX6_lay 5 = .ok (.ifCond .ne 5, 3) := by decide +kernel
theorem dX6_lay_8 : decode cX6_lay 8 = .ok (.iconst (-1), 1) := by decide +kernel
theorem dX6_lay_9 : decode cX6_lay 9 = .ok (.ireturn, 1) := by decide +kernel
theorem dX6_lay_10 : decode cX6_lay 10 = .ok (.aload_n 0, 1) := by decide +kernel
theorem dX6_lay_11 : decode cX6_lay 11 = .ok (.getfield 50, 3) := by decide +kernel
theorem dX6_lay_14 : decode cX6_lay 14 = .ok (.iload_n 1, 1) := by decide +kernel
theorem dX6_lay_15 : decode cX6_lay 15 = .ok (.iaload, 1) := by decide +kernel
theorem dX6_lay_16 : decode cX6_lay 16 = .ok (.bipush (-4), 2) := by decide +kernel
theorem dX6_lay_18 : decode cX6_lay 18 = .ok (.if_icmp .ne 6, 3) := by decide +kernel
theorem dX6_lay_21 : decode cX6_lay 21 = .ok (.bipush (-11), 2) := by decide +kernel
theorem dX6_lay_23 : decode cX6_lay 23 = .ok (.ireturn, 1) := by decide +kernel
theorem dX6_lay_24 : decode cX6_lay 24 = .ok (.iload_n 2, 1) := by decide +kernel
theorem dX6_lay_25 : decode cX6_lay 25 = .ok (.i2l, 1) := by decide +kernel
theorem dX6_lay_26 : decode cX6_lay 26 = .ok (.lconst 0, 1) := by decide +kernel
theorem dX6_lay_27 : decode cX6_lay 27 = .ok (.aload_n 0, 1) := by decide +kernel
theorem dX6_lay_28 : decode cX6_lay 28 = .ok (.getfield 53, 3) := by decide +kernel
theorem dX6_lay_31 : decode cX6_lay 31 = .ok (.iload_n 1, 1) := by decide +kernel
theorem dX6_lay_32 : decode cX6_lay 32 = .ok (.iaload, 1) := by decide +kernel
theorem dX6_lay_33 : decode cX6_lay 33 = .ok (.iconst 1, 1) := by decide +kernel
theorem dX6_lay_34 : decode cX6_lay 34 = .ok (.isub, 1) := by decide +kernel
theorem dX6_lay_35 : decode cX6_lay 35 = .ok (.i2l, 1) := by decide +kernel
theorem dX6_lay_36 : decode cX6_lay 36 = .ok (.invokestatic 64, 3) := by decide +kernel
theorem dX6_lay_39 : decode cX6_lay 39 = .ok (.ifCond .ne 6, 3) := by decide +kernel
theorem dX6_lay_42 : decode cX6_lay 42 = .ok (.bipush (-12), 2) := by decide +kernel
theorem dX6_lay_44 : decode cX6_lay 44 = .ok (.ireturn, 1) := by decide +kernel
theorem dX6_lay_45 : decode cX6_lay 45 = .ok (.aload_n 0, 1) := by decide +kernel
theorem dX6_lay_46 : decode cX6_lay 46 = .ok (.getfield 56, 3) := by decide +kernel
theorem dX6_lay_49 : decode cX6_lay 49 = .ok (.bipush 40, 2) := by decide +kernel
theorem dX6_lay_51 : decode cX6_lay 51 = .ok (.iload_n 1, 1) := by decide +kernel
theorem dX6_lay_52 : decode cX6_lay 52 = .ok (.imul, 1) := by decide +kernel
theorem dX6_lay_53 : decode cX6_lay 53 = .ok (.iload_n 2, 1) := by decide +kernel
theorem dX6_lay_54 : decode cX6_lay 54 = .ok (.iadd, 1) := by decide +kernel
theorem dX6_lay_55 : decode cX6_lay 55 = .ok (.aload_n 0, 1) := by decide +kernel
theorem dX6_lay_56 : decode cX6_lay 56 = .ok (.getfield 50, 3) := by decide +kernel
theorem dX6_lay_59 : decode cX6_lay 59 = .ok (.iload_n 1, 1) := by decide +kernel
theorem dX6_lay_60 : decode cX6_lay 60 = .ok (.iaload, 1) := by decide +kernel
theorem dX6_lay_61 : decode cX6_lay 61 = .ok (.ifCond .ne 8, 3) := by decide +kernel
theorem dX6_lay_64 : decode cX6_lay 64 = .ok (.iload_n 3, 1) := by decide +kernel
theorem dX6_lay_65 : decode cX6_lay 65 = .ok (.i2b, 1) := by decide +kernel
theorem dX6_lay_66 : decode cX6_lay 66 = .ok (.goto 19, 3) := by decide +kernel
theorem dX6_lay_69 : decode cX6_lay 69 = .ok (.aload_n 0, 1) := by decide +kernel
theorem dX6_lay_70 : decode cX6_lay 70 = .ok (.getfield 50, 3) := by decide +kernel
theorem dX6_lay_73 : decode cX6_lay 73 = .ok (.iload_n 1, 1) := by decide +kernel
theorem dX6_lay_74 : decode cX6_lay 74 = .ok (.iaload, 1) := by decide +kernel
theorem dX6_lay_75 : decode cX6_lay 75 = .ok (.iconst 1, 1) := by decide +kernel
theorem dX6_lay_76 : decode cX6_lay 76 = .ok (.if_icmp .ne 8, 3) := by decide +kernel
theorem dX6_lay_79 : decode cX6_lay 79 = .ok (.iload_n 3, 1) := by decide +kernel
theorem dX6_lay_80 : decode cX6_lay 80 = .ok (.i2s, 1) := by decide +kernel
theorem dX6_lay_81 : decode cX6_lay 81 = .ok (.goto 4, 3) := by decide +kernel
theorem dX6_lay_84 : decode cX6_lay 84 = .ok (.iload_n 3, 1) := by decide +kernel
theorem dX6_lay_85 : decode cX6_lay 85 = .ok (.iastore, 1) := by decide +kernel
theorem dX6_lay_86 : decode cX6_lay 86 = .ok (.iconst 1, 1) := by decide +kernel
theorem dX6_lay_87 : decode cX6_lay 87 = .ok (.ireturn, 1) := by decide +kernel
theorem dX6_read_0 : decode cX6_read 0 = .ok (.iload_n 1, 1) := by decide +kernel
theorem dX6_read_1 : decode cX6_read 1 = .ok (.iload_n 2, 1) := by decide +kernel
theorem dX6_read_2 : decode cX6_read 2 = .ok (.invokestatic 304, 3) := by decide +kernel
theorem dX6_read_5 : decode cX6_read 5 = .ok (.ifCond .eq 16, 3) := by decide +kernel
theorem dX6_read_8 : decode cX6_read 8 = .ok (.iload 4, 2) := by decide +kernel
theorem dX6_read_10 : decode cX6_read 10 = .ok (.i2l, 1) := by decide +kernel
theorem dX6_read_11 : decode cX6_read 11 = .ok (.lconst 0, 1) := by decide +kernel
theorem dX6_read_12 : decode cX6_read 12 = .ok (.ldc2_w 307, 3) := by decide +kernel
theorem dX6_read_15 : decode cX6_read 15 = .ok (.invokestatic 64, 3) := by decide +kernel
theorem dX6_read_18 : decode cX6_read 18 = .ok (.ifCond .ne 5, 3) := by decide +kernel
theorem dX6_read_21 : decode cX6_read 21 = .ok (.iconst (-1), 1) := by decide +kernel
theorem dX6_read_22 : decode cX6_read 22 = .ok (.ireturn, 1) := by decide +kernel
theorem dX6_read_23 : decode cX6_read 23 = .ok (.iconst 0, 1) := by decide +kernel
theorem dX6_read_24 : decode cX6_read 24 = .ok (.istore 5, 2) := by decide +kernel
theorem dX6_read_26 : decode cX6_read 26 = .ok (.iload 5, 2) := by decide +kernel
theorem dX6_read_28 : decode cX6_read 28 = .ok (.bipush 35, 2) := by decide +kernel
theorem dX6_read_30 : decode cX6_read 30 = .ok (.if_icmp .ge 23, 3) := by decide +kernel
theorem dX6_read_33 : decode cX6_read 33 = .ok (.aload_n 0, 1) := by decide +kernel
theorem dX6_read_34 : decode cX6_read 34 = .ok (.getfield 59, 3) := by decide +kernel
theorem dX6_read_37 : decode cX6_read 37 = .ok (.iload 5, 2) := by decide +kernel
theorem dX6_read_39 : decode cX6_read 39 = .ok (.aload_n 0, 1) := by decide +kernel
theorem dX6_read_40 : decode cX6_read 40 = .ok (.getfield 7, 3) := by decide +kernel
theorem dX6_read_43 : decode cX6_read 43 = .ok (.iload 5, 2) := by decide +kernel
theorem dX6_read_45 : decode cX6_read 45 = .ok (.iaload, 1) := by decide +kernel
theorem dX6_read_46 : decode cX6_read 46 = .ok (.iastore, 1) := by decide +kernel
theorem dX6_read_47 : decode cX6_read 47 = .ok (.iinc 5 1, 3) := by decide +kernel
theorem dX6_read_50 : decode cX6_read 50 = .ok (.goto (-24), 3) := by decide +kernel
theorem dX6_read_53 : decode cX6_read 53 = .ok (.iconst 0, 1) := by decide +kernel
theorem dX6_read_54 : decode cX6_read 54 = .ok (.istore 5, 2) := by decide +kernel
theorem dX6_read_56 : decode cX6_read 56 = .ok (.iconst 0, 1) := by decide +kernel
theorem dX6_read_57 : decode cX6_read 57 = .ok (.istore 6, 2) := by decide +kernel
theorem dX6_read_59 : decode cX6_read 59 = .ok (.iconst 0, 1) := by decide +kernel
theorem dX6_read_60 : decode cX6_read 60 = .ok (.istore 7, 2) := by decide +kernel
theorem dX6_read_62 : decode cX6_read 62 = .ok (.iload 7, 2) := by decide +kernel
theorem dX6_read_64 : decode cX6_read 64 = .ok (.iload 4, 2) := by decide +kernel
theorem dX6_read_66 : decode cX6_read 66 = .ok (.if_icmp .ge 202, 3) := by decide +kernel
theorem dX6_read_69 : decode cX6_read 69 = .ok (.iload 5, 2) := by decide +kernel
theorem dX6_read_71 : decode cX6_read 71 = .ok (.ifCond .ne 197, 3) := by decide +kernel
theorem dX6_read_74 : decode cX6_read 74 = .ok (.iconst 0, 1) := by decide +kernel
theorem dX6_read_75 : decode cX6_read 75 = .ok (.istore 8, 2) := by decide +kernel
theorem dX6_read_77 : decode cX6_read 77 = .ok (.iload 8, 2) := by decide +kernel
theorem dX6_read_79 : decode cX6_read 79 = .ok (.iconst 4, 1) := by decide +kernel
theorem dX6_read_80 : decode cX6_read 80 = .ok (.if_icmp .ge 84, 3) := by decide +kernel
theorem dX6_read_83 : decode cX6_read 83 = .ok (.iload 5, 2) := by decide +kernel
theorem dX6_read_85 : decode cX6_read 85 = .ok (.ifCond .ne 79, 3) := by decide +kernel
theorem dX6_read_88 : decode cX6_read 88 = .ok (.iload_n 3, 1) := by decide +kernel
theorem dX6_read_89 : decode cX6_read 89 = .ok (.i2l, 1) := by decide +kernel
theorem dX6_read_90 : decode cX6_read 90 = .ok (.iconst 4, 1) := by decide +kernel
theorem dX6_read_91 : decode cX6_read 91 = .ok (.iload 7, 2) := by decide +kernel
theorem dX6_read_93 : decode cX6_read 93 = .ok (.imul, 1) := by decide +kernel
theorem dX6_read_94 : decode cX6_read 94 = .ok (.i2l, 1) := by decide +kernel
theorem dX6_read_95 : decode cX6_read 95 = .ok (.ladd, 1) := by decide +kernel
theorem dX6_read_96 : decode cX6_read 96 = .ok (.iload 8, 2) := by decide +kernel
theorem dX6_read_98 : decode cX6_read 98 = .ok (.i2l, 1) := by decide +kernel
theorem dX6_read_99 : decode cX6_read 99 = .ok (.ladd, 1) := by decide +kernel
theorem dX6_read_100 : decode cX6_read 100 = .ok (.lstore 9, 2) := by decide +kernel
theorem dX6_read_102 : decode cX6_read 102 = .ok (.aload_n 0, 1) := by decide +kernel
theorem dX6_read_103 : decode cX6_read 103 = .ok (.getfield 50, 3) := by decide +kernel
theorem dX6_read_106 : decode cX6_read 106 = .ok (.iload_n 1, 1) := by decide +kernel
theorem dX6_read_107 : decode cX6_read 107 = .ok (.iaload, 1) := by decide +kernel
theorem dX6_read_108 : decode cX6_read 108 = .ok (.bipush (-4), 2) := by decide +kernel
theorem dX6_read_110 : decode cX6_read 110 = .ok (.if_icmp .ne 7, 3) := by decide +kernel
theorem dX6_read_113 : decode cX6_read 113 = .ok (.iconst 1, 1) := by decide +kernel
theorem dX6_read_114 : decode cX6_read 114 = .ok (.goto 42, 3) := by decide +kernel
theorem dX6_read_117 : decode cX6_read 117 = .ok (.aload_n 0, 1) := by decide +kernel
theorem dX6_read_118 : decode cX6_read 118 = .ok (.getfield 50, 3) := by decide +kernel
theorem dX6_read_121 : decode cX6_read 121 = .ok (.iload_n 1, 1) := by decide +kernel
theorem dX6_read_122 : decode cX6_read 122 = .ok (.iaload, 1) := by decide +kernel
theorem dX6_read_123 : decode cX6_read 123 = .ok (.iload_n 2, 1) := by decide +kernel
theorem dX6_read_124 : decode cX6_read 124 = .ok (.if_icmp .eq 7, 3) := by decide +kernel
theorem dX6_read_127 : decode cX6_read 127 = .ok (.iconst 3, 1) := by decide +kernel
theorem dX6_read_128 : decode cX6_read 128 = .ok (.goto 28, 3) := by decide +kernel
theorem dX6_read_131 : decode cX6_read 131 = .ok (.lload 9, 2) := by decide +kernel
theorem dX6_read_133 : decode cX6_read 133 = .ok (.lconst 0, 1) := by decide +kernel
theorem dX6_read_134 : decode cX6_read 134 = .ok (.lcmp, 1) := by decide +kernel
theorem dX6_read_135 : decode cX6_read 135 = .ok (.ifCond .lt 16, 3) := by decide +kernel
theorem dX6_read_138 : decode cX6_read 138 = .ok (.lload 9, 2) := by decide +kernel
theorem dX6_read_140 : decode cX6_read 140 = .ok (.aload_n 0, 1) := by decide +kernel
theorem dX6_read_141 : decode cX6_read 141 = .ok (.getfield 53, 3) := by decide +kernel
theorem dX6_read_144 : decode cX6_read 144 = .ok (.iload_n 1, 1) := by decide +kernel
theorem dX6_read_145 : decode cX6_read 145 = .ok (.iaload, 1) := by decide +kernel
theorem dX6_read_146 : decode cX6_read 146 = .ok (.i2l, 1) := by decide +kernel
theorem dX6_read_147 : decode cX6_read 147 = .ok (.lcmp, 1) := by decide +kernel
theorem dX6_read_148 : decode cX6_read 148 = .ok (.ifCond .lt 7, 3) := by decide +kernel
theorem dX6_read_151 : decode cX6_read 151 = .ok (.iconst 2, 1) := by decide +kernel
theorem dX6_read_152 : decode cX6_read 152 = .ok (.goto 4, 3) := by decide +kernel
theorem dX6_read_155 : decode cX6_read 155 = .ok (.iconst 0, 1) := by decide +kernel
theorem dX6_read_156 : decode cX6_read 156 = .ok (.istore 5, 2) := by decide +kernel
theorem dX6_read_158 : decode cX6_read 158 = .ok (.iinc 8 1, 3) := by decide +kernel
theorem dX6_read_161 : decode cX6_read 161 = .ok (.goto (-84), 3) := by decide +kernel
theorem dX6_read_164 : decode cX6_read 164 = .ok (.iload 5, 2) := by decide +kernel
theorem dX6_read_166 : decode cX6_read 166 = .ok (.ifCond .ne 96, 3) := by decide +kernel
theorem dX6_read_169 : decode cX6_read 169 = .ok (.bipush 40, 2) := by decide +kernel
theorem dX6_read_171 : decode cX6_read 171 = .ok (.iload_n 1, 1) := by decide +kernel
theorem dX6_read_172 : decode cX6_read 172 = .ok (.imul, 1) := by decide +kernel
theorem dX6_read_173 : decode cX6_read 173 = .ok (.iload_n 3, 1) := by decide +kernel
theorem dX6_read_174 : decode cX6_read 174 = .ok (.iadd, 1) := by decide +kernel
theorem dX6_read_175 : decode cX6_read 175 = .ok (.iconst 4, 1) := by decide +kernel
theorem dX6_read_176 : decode cX6_read 176 = .ok (.iload 7, 2) := by decide +kernel
theorem dX6_read_178 : decode cX6_read 178 = .ok (.imul, 1) := by decide +kernel
theorem dX6_read_179 : decode cX6_read 179 = .ok (.iadd, 1) := by decide +kernel
theorem dX6_read_180 : decode cX6_read 180 = .ok (.istore 8, 2) := by decide +kernel
theorem dX6_read_182 : decode cX6_read 182 = .ok (.aload_n 0, 1) := by decide +kernel
theorem dX6_read_183 : decode cX6_read 183 = .ok (.aload_n 0, 1) := by decide +kernel
theorem dX6_read_184 : decode cX6_read 184 = .ok (.getfield 56, 3) := by decide +kernel
theorem dX6_read_187 : decode cX6_read 187 = .ok (.iload 8, 2) := by decide +kernel
theorem dX6_read_189 : decode cX6_read 189 = .ok (.iaload, 1) := by decide +kernel
theorem dX6_read_190 : decode cX6_read 190 = .ok (.aload_n 0, 1) := by decide +kernel
theorem dX6_read_191 : decode cX6_read 191 = .ok (.getfield 56, 3) := by decide +kernel
theorem dX6_read_194 : decode cX6_read 194 = .ok (.iload 8, 2) := by decide +kernel
theorem dX6_read_196 : decode cX6_read 196 = .ok (.iconst 1, 1) := by decide +kernel
theorem dX6_read_197 : decode cX6_read 197 = .ok (.iadd, 1) := by decide +kernel
theorem dX6_read_198 : decode cX6_read 198 = .ok (.iaload, 1) := by decide +kernel
theorem dX6_read_199 : decode cX6_read 199 = .ok (.aload_n 0, 1) := by decide +kernel
theorem dX6_read_200 : decode cX6_read 200 = .ok (.getfield 56, 3) := by decide +kernel
theorem dX6_read_203 : decode cX6_read 203 = .ok (.iload 8, 2) := by decide +kernel
theorem dX6_read_205 : decode cX6_read 205 = .ok (.iconst 2, 1) := by decide +kernel
theorem dX6_read_206 : decode cX6_read 206 = .ok (.iadd, 1) := by decide +kernel
theorem dX6_read_207 : decode cX6_read 207 = .ok (.iaload, 1) := by decide +kernel
theorem dX6_read_208 : decode cX6_read 208 = .ok (.aload_n 0, 1) := by decide +kernel
theorem dX6_read_209 : decode cX6_read 209 = .ok (.getfield 56, 3) := by decide +kernel
theorem dX6_read_212 : decode cX6_read 212 = .ok (.iload 8, 2) := by decide +kernel
theorem dX6_read_214 : decode cX6_read 214 = .ok (.iconst 3, 1) := by decide +kernel
theorem dX6_read_215 : decode cX6_read 215 = .ok (.iadd, 1) := by decide +kernel
theorem dX6_read_216 : decode cX6_read 216 = .ok (.iaload, 1) := by decide +kernel
theorem dX6_read_217 : decode cX6_read 217 = .ok (.invokevirtual 309, 3) := by decide +kernel
theorem dX6_read_220 : decode cX6_read 220 = .ok (.ifCond .ge 39, 3) := by decide +kernel
theorem dX6_read_223 : decode cX6_read 223 = .ok (.iconst 0, 1) := by decide +kernel
theorem dX6_read_224 : decode cX6_read 224 = .ok (.istore 9, 2) := by decide +kernel
theorem dX6_read_226 : decode cX6_read 226 = .ok (.iload 9, 2) := by decide +kernel
theorem dX6_read_228 : decode cX6_read 228 = .ok (.bipush 35, 2) := by decide +kernel
theorem dX6_read_230 : decode cX6_read 230 = .ok (.if_icmp .ge 23, 3) := by decide +kernel
theorem dX6_read_233 : decode cX6_read 233 = .ok (.aload_n 0, 1) := by decide +kernel
theorem dX6_read_234 : decode cX6_read 234 = .ok (.getfield 7, 3) := by decide +kernel
theorem dX6_read_237 : decode cX6_read 237 = .ok (.iload 9, 2) := by decide +kernel
theorem dX6_read_239 : decode cX6_read 239 = .ok (.aload_n 0, 1) := by decide +kernel
theorem dX6_read_240 : decode cX6_read 240 = .ok (.getfield 59, 3) := by decide +kernel
theorem dX6_read_243 : decode cX6_read 243 = .ok (.iload 9, 2) := by decide +kernel
theorem dX6_read_245 : decode cX6_read 245 = .ok (.iaload, 1) := by decide +kernel
theorem dX6_read_246 : decode cX6_read 246 = .ok (.iastore, 1) := by decide +kernel
theorem dX6_read_247 : decode cX6_read 247 = .ok (.iinc 9 1, 3) := by decide +kernel
theorem dX6_read_250 : decode cX6_read 250 = .ok (.goto (-24), 3) := by decide +kernel
theorem dX6_read_253 : decode cX6_read 253 = .ok (.bipush (-20), 2) := by decide +kernel
theorem dX6_read_255 : decode cX6_read 255 = .ok (.iload 7, 2) := by decide +kernel
theorem dX6_read_257 : decode cX6_read 257 = .ok (.isub, 1) := by decide +kernel
theorem dX6_read_258 : decode cX6_read 258 = .ok (.ireturn, 1) := by decide +kernel
theorem dX6_read_259 : decode cX6_read 259 = .ok (.iinc 6 1, 3) := by decide +kernel
theorem dX6_read_262 : decode cX6_read 262 = .ok (.iinc 7 1, 3) := by decide +kernel
theorem dX6_read_265 : decode cX6_read 265 = .ok (.goto (-203), 3) := by decide +kernel
theorem dX6_read_268 : decode cX6_read 268 = .ok (.aload_n 0, 1) := by decide +kernel
theorem dX6_read_269 : decode cX6_read 269 = .ok (.iload 5, 2) := by decide +kernel
theorem dX6_read_271 : decode cX6_read 271 = .ok (.putfield 312, 3) := by decide +kernel
theorem dX6_read_274 : decode cX6_read 274 = .ok (.iload 6, 2) := by decide +kernel
theorem dX6_read_276 : decode cX6_read 276 = .ok (.ireturn, 1) := by decide +kernel
theorem dX6_torn_0 : decode cX6_torn 0 = .ok (.aload_n 0, 1) := by decide +kernel
theorem dX6_torn_1 : decode cX6_torn 1 = .ok (.getfield 312, 3) := by decide +kernel
theorem dX6_torn_4 : decode cX6_torn 4 = .ok (.ireturn, 1) := by decide +kernel
theorem dX6_sumOf_0 : decode cX6_sumOf 0 = .ok (.iconst 0, 1) := by decide +kernel
theorem dX6_sumOf_1 : decode cX6_sumOf 1 = .ok (.istore_n 3, 1) := by decide +kernel
theorem dX6_sumOf_2 : decode cX6_sumOf 2 = .ok (.iconst 0, 1) := by decide +kernel
theorem dX6_sumOf_3 : decode cX6_sumOf 3 = .ok (.istore 4, 2) := by decide +kernel
theorem dX6_sumOf_5 : decode cX6_sumOf 5 = .ok (.iload 4, 2) := by decide +kernel
theorem dX6_sumOf_7 : decode cX6_sumOf 7 = .ok (.aload_n 0, 1) := by decide +kernel
theorem dX6_sumOf_8 : decode cX6_sumOf 8 = .ok (.getfield 7, 3) := by decide +kernel
theorem dX6_sumOf_11 : decode cX6_sumOf 11 = .ok (.iconst 1, 1) := by decide +kernel
theorem dX6_sumOf_12 : decode cX6_sumOf 12 = .ok (.iaload, 1) := by decide +kernel
theorem dX6_sumOf_13 : decode cX6_sumOf 13 = .ok (.if_icmp .ge 68, 3) := by decide +kernel
theorem dX6_sumOf_16 : decode cX6_sumOf 16 = .ok (.iconst 0, 1) := by decide +kernel
theorem dX6_sumOf_17 : decode cX6_sumOf 17 = .ok (.istore 5, 2) := by decide +kernel
theorem dX6_sumOf_19 : decode cX6_sumOf 19 = .ok (.iload 5, 2) := by decide +kernel
theorem dX6_sumOf_21 : decode cX6_sumOf 21 = .ok (.aload_n 0, 1) := by decide +kernel
theorem dX6_sumOf_22 : decode cX6_sumOf 22 = .ok (.getfield 7, 3) := by decide +kernel
theorem dX6_sumOf_25 : decode cX6_sumOf 25 = .ok (.iconst 2, 1) := by decide +kernel
theorem dX6_sumOf_26 : decode cX6_sumOf 26 = .ok (.iaload, 1) := by decide +kernel
theorem dX6_sumOf_27 : decode cX6_sumOf 27 = .ok (.if_icmp .ge 48, 3) := by decide +kernel
theorem dX6_sumOf_30 : decode cX6_sumOf 30 = .ok (.iload_n 3, 1) := by decide +kernel
theorem dX6_sumOf_31 : decode cX6_sumOf 31 = .ok (.iload_n 2, 1) := by decide +kernel
theorem dX6_sumOf_32 : decode cX6_sumOf 32 = .ok (.ifCond .eq 26, 3) := by decide +kernel
theorem dX6_sumOf_35 : decode cX6_sumOf 35 = .ok (.aload_n 0, 1) := by decide +kernel
theorem dX6_sumOf_36 : decode cX6_sumOf 36 = .ok (.iload_n 1, 1) := by decide +kernel
theorem dX6_sumOf_37 : decode cX6_sumOf 37 = .ok (.iload 4, 2) := by decide +kernel
theorem dX6_sumOf_39 : decode cX6_sumOf 39 = .ok (.iload 5, 2) := by decide +kernel
theorem dX6_sumOf_41 : decode cX6_sumOf 41 = .ok (.invokevirtual 150, 3) := by decide +kernel
theorem dX6_sumOf_44 : decode cX6_sumOf 44 = .ok (.ifCond .eq 7, 3) := by decide +kernel
theorem dX6_sumOf_47 : decode cX6_sumOf 47 = .ok (.iconst 1, 1) := by decide +kernel
theorem dX6_sumOf_48 : decode cX6_sumOf 48 = .ok (.goto 4, 3) := by decide +kernel
theorem dX6_sumOf_51 : decode cX6_sumOf 51 = .ok (.iconst 0, 1) := by decide +kernel
theorem dX6_sumOf_52 : decode cX6_sumOf 52 = .ok (.invokestatic 214, 3) := by decide +kernel
theorem dX6_sumOf_55 : decode cX6_sumOf 55 = .ok (.goto 12, 3) := by decide +kernel
theorem dX6_sumOf_58 : decode cX6_sumOf 58 = .ok (.aload_n 0, 1) := by decide +kernel
theorem dX6_sumOf_59 : decode cX6_sumOf 59 = .ok (.iload_n 1, 1) := by decide +kernel
theorem dX6_sumOf_60 : decode cX6_sumOf 60 = .ok (.iload 4, 2) := by decide +kernel
theorem dX6_sumOf_62 : decode cX6_sumOf 62 = .ok (.iload 5, 2) := by decide +kernel
theorem dX6_sumOf_64 : decode cX6_sumOf 64 = .ok (.invokevirtual 150, 3) := by decide +kernel
theorem dX6_sumOf_67 : decode cX6_sumOf 67 = .ok (.iadd, 1) := by decide +kernel
theorem dX6_sumOf_68 : decode cX6_sumOf 68 = .ok (.istore_n 3, 1) := by decide +kernel
theorem dX6_sumOf_69 : decode cX6_sumOf 69 = .ok (.iinc 5 1, 3) := by decide +kernel
theorem dX6_sumOf_72 : decode cX6_sumOf 72 = .ok (.goto (-53), 3) := by decide +kernel
theorem dX6_sumOf_75 : decode cX6_sumOf 75 = .ok (.iinc 4 1, 3) := by decide +kernel
theorem dX6_sumOf_78 : decode cX6_sumOf 78 = .ok (.goto (-73), 3) := by decide +kernel
theorem dX6_sumOf_81 : decode cX6_sumOf 81 = .ok (.iload_n 3, 1) := by decide +kernel
theorem dX6_sumOf_82 : decode cX6_sumOf 82 = .ok (.ireturn, 1) := by decide +kernel
theorem dX6_count_0 : decode cX6_count 0 = .ok (.iload_n 1, 1) := by decide +kernel
theorem dX6_count_1 : decode cX6_count 1 = .ok (.tableswitch 115 0 5 #[39, 59, 73, 78, 101, 108], 39) := by decide +kernel
theorem dX6_count_40 : decode cX6_count 40 = .ok (.aload_n 0, 1) := by decide +kernel
theorem dX6_count_41 : decode cX6_count 41 = .ok (.getfield 16, 3) := by decide +kernel
theorem dX6_count_44 : decode cX6_count 44 = .ok (.iconst 0, 1) := by decide +kernel
theorem dX6_count_45 : decode cX6_count 45 = .ok (.baload, 1) := by decide +kernel
theorem dX6_count_46 : decode cX6_count 46 = .ok (.invokestatic 214, 3) := by decide +kernel
theorem dX6_count_49 : decode cX6_count 49 = .ok (.aload_n 0, 1) := by decide +kernel
theorem dX6_count_50 : decode cX6_count 50 = .ok (.getfield 16, 3) := by decide +kernel
theorem dX6_count_53 : decode cX6_count 53 = .ok (.iconst 1, 1) := by decide +kernel
theorem dX6_count_54 : decode cX6_count 54 = .ok (.baload, 1) := by decide +kernel
theorem dX6_count_55 : decode cX6_count 55 = .ok (.invokestatic 214, 3) := by decide +kernel
theorem dX6_count_58 : decode cX6_count 58 = .ok (.iadd, 1) := by decide +kernel
theorem dX6_count_59 : decode cX6_count 59 = .ok (.ireturn, 1) := by decide +kernel
theorem dX6_count_60 : decode cX6_count 60 = .ok (.aload_n 0, 1) := by decide +kernel
theorem dX6_count_61 : decode cX6_count 61 = .ok (.iconst 0, 1) := by decide +kernel
theorem dX6_count_62 : decode cX6_count 62 = .ok (.iconst 1, 1) := by decide +kernel
theorem dX6_count_63 : decode cX6_count 63 = .ok (.invokevirtual 315, 3) := by decide +kernel
theorem dX6_count_66 : decode cX6_count 66 = .ok (.aload_n 0, 1) := by decide +kernel
theorem dX6_count_67 : decode cX6_count 67 = .ok (.iconst 1, 1) := by decide +kernel
theorem dX6_count_68 : decode cX6_count 68 = .ok (.iconst 1, 1) := by decide +kernel
theorem dX6_count_69 : decode cX6_count 69 = .ok (.invokevirtual 315, 3) := by decide +kernel
theorem dX6_count_72 : decode cX6_count 72 = .ok (.iadd, 1) := by decide +kernel
theorem dX6_count_73 : decode cX6_count 73 = .ok (.ireturn, 1) := by decide +kernel
theorem dX6_count_74 : decode cX6_count 74 = .ok (.aload_n 0, 1) := by decide +kernel
theorem dX6_count_75 : decode cX6_count 75 = .ok (.getfield 68, 3) := by decide +kernel
theorem dX6_count_78 : decode cX6_count 78 = .ok (.ireturn, 1) := by decide +kernel
theorem dX6_count_79 : decode cX6_count 79 = .ok (.aload_n 0, 1) := by decide +kernel
theorem dX6_count_80 : decode cX6_count 80 = .ok (.getfield 50, 3) := by decide +kernel
theorem dX6_count_83 : decode cX6_count 83 = .ok (.iconst 0, 1) := by decide +kernel
theorem dX6_count_84 : decode cX6_count 84 = .ok (.iaload, 1) := by decide +kernel
theorem dX6_count_85 : decode cX6_count 85 = .ok (.bipush (-4), 2) := by decide +kernel
theorem dX6_count_87 : decode cX6_count 87 = .ok (.if_icmp .ne 8, 3) := by decide +kernel
theorem dX6_count_90 : decode cX6_count 90 = .ok (.bipush (-4), 2) := by decide +kernel
theorem dX6_count_92 : decode cX6_count 92 = .ok (.goto 9, 3) := by decide +kernel
theorem dX6_count_95 : decode cX6_count 95 = .ok (.aload_n 0, 1) := by decide +kernel
theorem dX6_count_96 : decode cX6_count 96 = .ok (.getfield 53, 3) := by decide +kernel
theorem dX6_count_99 : decode cX6_count 99 = .ok (.iconst 0, 1) := by decide +kernel
theorem dX6_count_100 : decode cX6_count 100 = .ok (.iaload, 1) := by decide +kernel
theorem dX6_count_101 : decode cX6_count 101 = .ok (.ireturn, 1) := by decide +kernel
theorem dX6_count_102 : decode cX6_count 102 = .ok (.aload_n 0, 1) := by decide +kernel
theorem dX6_count_103 : decode cX6_count 103 = .ok (.iconst 0, 1) := by decide +kernel
theorem dX6_count_104 : decode cX6_count 104 = .ok (.iconst 0, 1) := by decide +kernel
theorem dX6_count_105 : decode cX6_count 105 = .ok (.invokevirtual 315, 3) := by decide +kernel
theorem dX6_count_108 : decode cX6_count 108 = .ok (.ireturn, 1) := by decide +kernel
theorem dX6_count_109 : decode cX6_count 109 = .ok (.aload_n 0, 1) := by decide +kernel
theorem dX6_count_110 : decode cX6_count 110 = .ok (.iconst 1, 1) := by decide +kernel
theorem dX6_count_111 : decode cX6_count 111 = .ok (.iconst 0, 1) := by decide +kernel
theorem dX6_count_112 : decode cX6_count 112 = .ok (.invokevirtual 315, 3) := by decide +kernel
theorem dX6_count_115 : decode cX6_count 115 = .ok (.ireturn, 1) := by decide +kernel
theorem dX6_count_116 : decode cX6_count 116 = .ok (.iconst (-1), 1) := by decide +kernel
theorem dX6_count_117 : decode cX6_count 117 = .ok (.ireturn, 1) := by decide +kernel
