theorem dX0_init_0 : decode cX0_init 0 = .ok (.aload_n 0, 1) := by decide +kernel
theorem dX0_init_1 : decode cX0_init 1 = .ok (.invokespecial 3, 3) := by decide +kernel
theorem dX0_init_4 : decode cX0_init 4 = .ok (.aload_n 0, 1) := by decide +kernel
theorem dX0_init_5 : decode cX0_init 5 = .ok (.sipush 480, 3) := by decide +kernel
theorem dX0_init_8 : decode cX0_init 8 = .ok (.newarray .int, 2) := by decide +kernel
theorem dX0_init_10 : decode cX0_init 10 = .ok (.putfield 11, 3) := by decide +kernel
theorem dX0_init_13 : decode cX0_init 13 = .ok (.aload_n 0, 1) := by decide +kernel
theorem dX0_init_14 : decode cX0_init 14 = .ok (.bipush 7, 2) := by decide +kernel
theorem dX0_init_16 : decode cX0_init 16 = .ok (.putfield 15, 3) := by decide +kernel
theorem dX0_init_19 : decode cX0_init 19 = .ok (.return_, 1) := by decide +kernel
theorem dX0_begin_0 : decode cX0_begin 0 = .ok (.aload_n 0, 1) := by decide +kernel
theorem dX0_begin_1 : decode cX0_begin 1 = .ok (.aload_n 1, 1) := by decide +kernel
theorem dX0_begin_2 : decode cX0_begin 2 = .ok (.getfield 19, 3) := by decide +kernel
theorem dX0_begin_5 : decode cX0_begin 5 = .ok (.putfield 15, 3) := by decide +kernel
theorem dX0_begin_8 : decode cX0_begin 8 = .ok (.aload_n 0, 1) := by decide +kernel
theorem dX0_begin_9 : decode cX0_begin 9 = .ok (.iload_n 2, 1) := by decide +kernel
theorem dX0_begin_10 : decode cX0_begin 10 = .ok (.aload_n 1, 1) := by decide +kernel
theorem dX0_begin_11 : decode cX0_begin 11 = .ok (.getfield 22, 3) := by decide +kernel
theorem dX0_begin_14 : decode cX0_begin 14 = .ok (.imul, 1) := by decide +kernel
theorem dX0_begin_15 : decode cX0_begin 15 = .ok (.bipush 24, 2) := by decide +kernel
theorem dX0_begin_17 : decode cX0_begin 17 = .ok (.invokestatic 25, 3) := by decide +kernel
theorem dX0_begin_20 : decode cX0_begin 20 = .ok (.putfield 31, 3) := by decide +kernel
theorem dX0_begin_23 : decode cX0_begin 23 = .ok (.aload_n 0, 1) := by decide +kernel
theorem dX0_begin_24 : decode cX0_begin 24 = .ok (.iload_n 3, 1) := by decide +kernel
theorem dX0_begin_25 : decode cX0_begin 25 = .ok (.aload_n 1, 1) := by decide +kernel
theorem dX0_begin_26 : decode cX0_begin 26 = .ok (.getfield 34, 3) := by decide +kernel
theorem dX0_begin_29 : decode cX0_begin 29 = .ok (.imul, 1) := by decide +kernel
theorem dX0_begin_30 : decode cX0_begin 30 = .ok (.bipush 20, 2) := by decide +kernel
theorem dX0_begin_32 : decode cX0_begin 32 = .ok (.invokestatic 25, 3) := by decide +kernel
theorem dX0_begin_35 : decode cX0_begin 35 = .ok (.putfield 37, 3) := by decide +kernel
theorem dX0_begin_38 : decode cX0_begin 38 = .ok (.aload_n 0, 1) := by decide +kernel
theorem dX0_begin_39 : decode cX0_begin 39 = .ok (.getfield 11, 3) := by decide +kernel
theorem dX0_begin_42 : decode cX0_begin 42 = .ok (.iconst 0, 1) := by decide +kernel
theorem dX0_begin_43 : decode cX0_begin 43 = .ok (.invokestatic 40, 3) := by decide +kernel
theorem dX0_begin_46 : decode cX0_begin 46 = .ok (.return_, 1) := by decide +kernel
theorem dX0_putBlock_0 : decode cX0_putBlock 0 = .ok (.iconst 0, 1) := by decide +kernel
theorem dX0_putBlock_1 : decode cX0_putBlock 1 = .ok (.istore 6, 2) := by decide +kernel
theorem dX0_putBlock_3 : decode cX0_putBlock 3 = .ok (.iload 6, 2) := by decide +kernel
theorem dX0_putBlock_5 : decode cX0_putBlock 5 = .ok (.aload_n 1, 1) := by decide +kernel
theorem dX0_putBlock_6 : decode cX0_putBlock 6 = .ok (.getfield 22, 3) := by decide +kernel
theorem dX0_putBlock_9 : decode cX0_putBlock 9 = .ok (.if_icmp .ge 85, 3) := by decide +kernel
theorem dX0_putBlock_12 : decode cX0_putBlock 12 = .ok (.iconst 0, 1) := by decide +kernel
theorem dX0_putBlock_13 : decode cX0_putBlock 13 = .ok (.istore 7, 2) := by decide +kernel
theorem dX0_putBlock_15 : decode cX0_putBlock 15 = .ok (.iload 7, 2) := by decide +kernel
theorem dX0_putBlock_17 : decode cX0_putBlock 17 = .ok (.aload_n 1, 1) := by decide +kernel
theorem dX0_putBlock_18 : decode cX0_putBlock 18 = .ok (.getfield 34, 3) := by decide +kernel
theorem dX0_putBlock_21 : decode cX0_putBlock 21 = .ok (.if_icmp .ge 67, 3) := by decide +kernel
theorem dX0_putBlock_24 : decode cX0_putBlock 24 = .ok (.iload 4, 2) := by decide +kernel
theorem dX0_putBlock_26 : decode cX0_putBlock 26 = .ok (.aload_n 1, 1) := by decide +kernel
theorem dX0_putBlock_27 : decode cX0_putBlock 27 = .ok (.iconst 0, 1) := by decide +kernel
theorem dX0_putBlock_28 : decode cX0_putBlock 28 = .ok (.iload 6, 2) := by decide +kernel
theorem dX0_putBlock_30 : decode cX0_putBlock 30 = .ok (.iload 7, 2) := by decide +kernel
theorem dX0_putBlock_32 : decode cX0_putBlock 32 = .ok (.invokevirtual 46, 3) := by decide +kernel
theorem dX0_putBlock_35 : decode cX0_putBlock 35 = .ok (.imul, 1) := by decide +kernel
theorem dX0_putBlock_36 : decode cX0_putBlock 36 = .ok (.iload 5, 2) := by decide +kernel
theorem dX0_putBlock_38 : decode cX0_putBlock 38 = .ok (.aload_n 1, 1) := by decide +kernel
theorem dX0_putBlock_39 : decode cX0_putBlock 39 = .ok (.iconst 1, 1) := by decide +kernel
theorem dX0_putBlock_40 : decode cX0_putBlock 40 = .ok (.iload 6, 2) := by decide +kernel
theorem dX0_putBlock_42 : decode cX0_putBlock 42 = .ok (.iload 7, 2) := by decide +kernel
theorem dX0_putBlock_44 : decode cX0_putBlock 44 = .ok (.invokevirtual 46, 3) := by decide +kernel
theorem dX0_putBlock_47 : decode cX0_putBlock 47 = .ok (.imul, 1) := by decide +kernel
theorem dX0_putBlock_48 : decode cX0_putBlock 48 = .ok (.iadd, 1) := by decide +kernel
theorem dX0_putBlock_49 : decode cX0_putBlock 49 = .ok (.istore 8, 2) := by decide +kernel
theorem dX0_putBlock_51 : decode cX0_putBlock 51 = .ok (.aload_n 0, 1) := by decide +kernel
theorem dX0_putBlock_52 : decode cX0_putBlock 52 = .ok (.iload_n 2, 1) := by decide +kernel
theorem dX0_putBlock_53 : decode cX0_putBlock 53 = .ok (.aload_n 1, 1) := by decide +kernel
theorem dX0_putBlock_54 : decode cX0_putBlock 54 = .ok (.getfield 22, 3) := by decide +kernel
theorem dX0_putBlock_57 : decode cX0_putBlock 57 = .ok (.imul, 1) := by decide +kernel
theorem dX0_putBlock_58 : decode cX0_putBlock 58 = .ok (.iload 6, 2) := by decide +kernel
theorem dX0_putBlock_60 : decode cX0_putBlock 60 = .ok (.iadd, 1) := by decide +kernel
theorem dX0_putBlock_61 : decode cX0_putBlock 61 = .ok (.iload_n 3, 1) := by decide +kernel
theorem dX0_putBlock_62 : decode cX0_putBlock 62 = .ok (.aload_n 1, 1) := by decide +kernel
theorem dX0_putBlock_63 : decode cX0_putBlock 63 = .ok (.getfield 34, 3) := by decide +kernel
theorem dX0_putBlock_66 : decode cX0_putBlock 66 = .ok (.imul, 1) := by decide +kernel
theorem dX0_putBlock_67 : decode cX0_putBlock 67 = .ok (.iload 7, 2) := by decide +kernel
theorem dX0_putBlock_69 : decode cX0_putBlock 69 = .ok (.iadd, 1) := by decide +kernel
theorem dX0_putBlock_70 : decode cX0_putBlock 70 = .ok (.iload 8, 2) := by decide +kernel
theorem dX0_putBlock_72 : decode cX0_putBlock 72 = .ok (.aload_n 0, 1) := by decide +kernel
theorem dX0_putBlock_73 : decode cX0_putBlock 73 = .ok (.getfield 15, 3) := by decide +kernel
theorem dX0_putBlock_76 : decode cX0_putBlock 76 = .ok (.invokestatic 50, 3) := by decide +kernel
theorem dX0_putBlock_79 : decode cX0_putBlock 79 = .ok (.invokevirtual 53, 3) := by decide +kernel
theorem dX0_putBlock_82 : decode cX0_putBlock 82 = .ok (.iinc 7 1, 3) := by decide +kernel
theorem dX0_putBlock_85 : decode cX0_putBlock 85 = .ok (.goto (-70), 3) := by decide +kernel
theorem dX0_putBlock_88 : decode cX0_putBlock 88 = .ok (.iinc 6 1, 3) := by decide +kernel
theorem dX0_putBlock_91 : decode cX0_putBlock 91 = .ok (.goto (-88), 3) := by decide +kernel
theorem dX0_putBlock_94 : decode cX0_putBlock 94 = .ok (.return_, 1) := by decide +kernel
theorem dX0_addImageUnderA_0 : decode cX0_addImageUnderA 0 = .ok (.aload_n 0, 1) := by decide +kernel
theorem dX0_addImageUnderA_1 : decode cX0_addImageUnderA 1 = .ok (.getfield 37, 3) := by decide +kernel
theorem dX0_addImageUnderA_4 : decode cX0_addImageUnderA 4 = .ok (.bipush 20, 2) := by decide +kernel
theorem dX0_addImageUnderA_6 : decode cX0_addImageUnderA 6 = .ok (.if_icmp .lt 4, 3) := by decide +kernel
theorem dX0_addImageUnderA_9 : decode cX0_addImageUnderA 9 = .ok (.return_, 1) := by decide +kernel
theorem dX0_addImageUnderA_10 : decode cX0_addImageUnderA 10 = .ok (.aload_n 0, 1) := by decide +kernel
theorem dX0_addImageUnderA_11 : decode cX0_addImageUnderA 11 = .ok (.dup, 1) := by decide +kernel
theorem dX0_addImageUnderA_12 : decode cX0_addImageUnderA 12 = .ok (.getfield 37, 3) := by decide +kernel
theorem dX0_addImageUnderA_15 : decode cX0_addImageUnderA 15 = .ok (.iconst 1, 1) := by decide +kernel
theorem dX0_addImageUnderA_16 : decode cX0_addImageUnderA 16 = .ok (.iadd, 1) := by decide +kernel
theorem dX0_addImageUnderA_17 : decode cX0_addImageUnderA 17 = .ok (.putfield 37, 3) := by decide +kernel
theorem dX0_addImageUnderA_20 : decode cX0_addImageUnderA 20 = .ok (.iconst 0, 1) := by decide +kernel
theorem dX0_addImageUnderA_21 : decode cX0_addImageUnderA 21 = .ok (.istore_n 3, 1) := by decide +kernel
theorem dX0_addImageUnderA_22 : decode cX0_addImageUnderA 22 = .ok (.iload_n 3, 1) := by decide +kernel
theorem dX0_addImageUnderA_23 : decode cX0_addImageUnderA 23 = .ok (.aload_n 1, 1) := by decide +kernel
theorem dX0_addImageUnderA_24 : decode cX0_addImageUnderA 24 = .ok (.getfield 22, 3) := by decide +kernel
theorem dX0_addImageUnderA_27 : decode cX0_addImageUnderA 27 = .ok (.if_icmp .ge 75, 3) := by decide +kernel
theorem dX0_addImageUnderA_30 : decode cX0_addImageUnderA 30 = .ok (.iconst 0, 1) := by decide +kernel
theorem dX0_addImageUnderA_31 : decode cX0_addImageUnderA 31 = .ok (.istore 4, 2) := by decide +kernel
theorem dX0_addImageUnderA_33 : decode cX0_addImageUnderA 33 = .ok (.iconst 0, 1) := by decide +kernel
theorem dX0_addImageUnderA_34 : decode cX0_addImageUnderA 34 = .ok (.istore 5, 2) := by decide +kernel
theorem dX0_addImageUnderA_36 : decode cX0_addImageUnderA 36 = .ok (.iload 5, 2) := by decide +kernel
theorem dX0_addImageUnderA_38 : decode cX0_addImageUnderA 38 = .ok (.aload_n 1, 1) := by decide +kernel
theorem dX0_addImageUnderA_39 : decode cX0_addImageUnderA 39 = .ok (.getfield 34, 3) := by decide +kernel
theorem dX0_addImageUnderA_42 : decode cX0_addImageUnderA 42 = .ok (.if_icmp .ge 34, 3) := by decide +kernel
theorem dX0_addImageUnderA_45 : decode cX0_addImageUnderA 45 = .ok (.iload 5, 2) := by decide +kernel
theorem dX0_addImageUnderA_47 : decode cX0_addImageUnderA 47 = .ok (.aload_n 2, 1) := by decide +kernel
theorem dX0_addImageUnderA_48 : decode cX0_addImageUnderA 48 = .ok (.arraylength, 1) := by decide +kernel
theorem dX0_addImageUnderA_49 : decode cX0_addImageUnderA 49 = .ok (.if_icmp .ge 27, 3) := by decide +kernel
theorem dX0_addImageUnderA_52 : decode cX0_addImageUnderA 52 = .ok (.iload 4, 2) := by decide +kernel
theorem dX0_addImageUnderA_54 : decode cX0_addImageUnderA 54 = .ok (.aload_n 1, 1) := by decide +kernel
theorem dX0_addImageUnderA_55 : decode cX0_addImageUnderA 55 = .ok (.iconst 0, 1) := by decide +kernel
theorem dX0_addImageUnderA_56 : decode cX0_addImageUnderA 56 = .ok (.iload_n 3, 1) := by decide +kernel
theorem dX0_addImageUnderA_57 : decode cX0_addImageUnderA 57 = .ok (.iload 5, 2) := by decide +kernel
theorem dX0_addImageUnderA_59 : decode cX0_addImageUnderA 59 = .ok (.invokevirtual 46, 3) := by decide +kernel
theorem dX0_addImageUnderA_62 : decode cX0_addImageUnderA 62 = .ok (.aload_n 2, 1) := by decide +kernel
theorem dX0_addImageUnderA_63 : decode cX0_addImageUnderA 63 = .ok (.iload 5, 2) := by decide +kernel
theorem dX0_addImageUnderA_65 : decode cX0_addImageUnderA 65 = .ok (.iaload, 1) := by decide +kernel
theorem dX0_addImageUnderA_66 : decode cX0_addImageUnderA 66 = .ok (.imul, 1) := by decide +kernel
theorem dX0_addImageUnderA_67 : decode cX0_addImageUnderA 67 = .ok (.iadd, 1) := by decide +kernel
theorem dX0_addImageUnderA_68 : decode cX0_addImageUnderA 68 = .ok (.istore 4, 2) := by decide +kernel
theorem dX0_addImageUnderA_70 : decode cX0_addImageUnderA 70 = .ok (.iinc 5 1, 3) := by decide +kernel
theorem dX0_addImageUnderA_73 : decode cX0_addImageUnderA 73 = .ok (.goto (-37), 3) := by decide +kernel
theorem dX0_addImageUnderA_76 : decode cX0_addImageUnderA 76 = .ok (.aload_n 0, 1) := by decide +kernel
theorem dX0_addImageUnderA_77 : decode cX0_addImageUnderA 77 = .ok (.iload_n 3, 1) := by decide +kernel
theorem dX0_addImageUnderA_78 : decode cX0_addImageUnderA 78 = .ok (.aload_n 0, 1) := by decide +kernel
theorem dX0_addImageUnderA_79 : decode cX0_addImageUnderA 79 = .ok (.getfield 37, 3) := by decide +kernel
theorem dX0_addImageUnderA_82 : decode cX0_addImageUnderA 82 = .ok (.iconst 1, 1) := by decide +kernel
theorem dX0_addImageUnderA_83 : decode cX0_addImageUnderA 83 = .ok (.isub, 1) := by decide +kernel
theorem dX0_addImageUnderA_84 : decode cX0_addImageUnderA 84 = .ok (.iload 4, 2) := by decide +kernel
theorem dX0_addImageUnderA_86 : decode cX0_addImageUnderA 86 = .ok (.aload_n 0, 1) := by decide +kernel
theorem dX0_addImageUnderA_87 : decode cX0_addImageUnderA 87 = .ok (.getfield 15, 3) := by decide +kernel
theorem dX0_addImageUnderA_90 : decode cX0_addImageUnderA 90 = .ok (.invokestatic 50, 3) := by decide +kernel
theorem dX0_addImageUnderA_93 : decode cX0_addImageUnderA 93 = .ok (.invokevirtual 53, 3) := by decide +kernel
theorem dX0_addImageUnderA_96 : decode cX0_addImageUnderA 96 = .ok (.iinc 3 1, 3) := by decide +kernel
theorem dX0_addImageUnderA_99 : decode cX0_addImageUnderA 99 = .ok (.goto (-77), 3) := by decide +kernel
theorem dX0_addImageUnderA_102 : decode cX0_addImageUnderA 102 = .ok (.return_, 1) := by decide +kernel
theorem dX0_useUpForRank_0 : decode cX0_useUpForRank 0 = .ok (.iconst 0, 1) := by decide +kernel
theorem dX0_useUpForRank_1 : decode cX0_useUpForRank 1 = .ok (.istore_n 1, 1) := by decide +kernel
theorem dX0_useUpForRank_2 : decode cX0_useUpForRank 2 = .ok (.iconst 0, 1) := by decide +kernel
theorem dX0_useUpForRank_3 : decode cX0_useUpForRank 3 = .ok (.istore_n 2, 1) := by decide +kernel
theorem dX0_useUpForRank_4 : decode cX0_useUpForRank 4 = .ok (.iload_n 2, 1) := by decide +kernel
theorem dX0_useUpForRank_5 : decode cX0_useUpForRank 5 = .ok (.aload_n 0, 1) := by decide +kernel
theorem dX0_useUpForRank_6 : decode cX0_useUpForRank 6 = .ok (.getfield 37, 3) := by decide +kernel
theorem dX0_useUpForRank_9 : decode cX0_useUpForRank 9 = .ok (.if_icmp .ge 44, 3) := by decide +kernel
theorem dX0_useUpForRank_12 : decode cX0_useUpForRank 12 = .ok (.iload_n 1, 1) := by decide +kernel
theorem dX0_useUpForRank_13 : decode cX0_useUpForRank 13 = .ok (.aload_n 0, 1) := by decide +kernel
theorem dX0_useUpForRank_14 : decode cX0_useUpForRank 14 = .ok (.getfield 31, 3) := by decide +kernel
theorem dX0_useUpForRank_17 : decode cX0_useUpForRank 17 = .ok (.if_icmp .ge 36, 3) := by decide +kernel
theorem dX0_useUpForRank_20 : decode cX0_useUpForRank 20 = .ok (.aload_n 0, 1) := by decide +kernel
theorem dX0_useUpForRank_21 : decode cX0_useUpForRank 21 = .ok (.iload_n 1, 1) := by decide +kernel
theorem dX0_useUpForRank_22 : decode cX0_useUpForRank 22 = .ok (.iload_n 2, 1) := by decide +kernel
theorem dX0_useUpForRank_23 : decode cX0_useUpForRank 23 = .ok (.invokevirtual 57, 3) := by decide +kernel
theorem dX0_useUpForRank_26 : decode cX0_useUpForRank 26 = .ok (.istore_n 3, 1) := by decide +kernel
theorem dX0_useUpForRank_27 : decode cX0_useUpForRank 27 = .ok (.iload_n 3, 1) := by decide +kernel
theorem dX0_useUpForRank_28 : decode cX0_useUpForRank 28 = .ok (.ifCond .lt 19, 3) := by decide +kernel
theorem dX0_useUpForRank_31 : decode cX0_useUpForRank 31 = .ok (.aload_n 0, 1) := by decide +kernel
theorem dX0_useUpForRank_32 : decode cX0_useUpForRank 32 = .ok (.iload_n 1, 1) := by decide +kernel
theorem dX0_useUpForRank_33 : decode cX0_useUpForRank 33 = .ok (.iload_n 3, 1) := by decide +kernel
theorem dX0_useUpForRank_34 : decode cX0_useUpForRank 34 = .ok (.iload_n 2, 1) := by decide +kernel
theorem dX0_useUpForRank_35 : decode cX0_useUpForRank 35 = .ok (.invokevirtual 60, 3) := by decide +kernel
theorem dX0_useUpForRank_38 : decode cX0_useUpForRank 38 = .ok (.aload_n 0, 1) := by decide +kernel
theorem dX0_useUpForRank_39 : decode cX0_useUpForRank 39 = .ok (.iload_n 1, 1) := by decide +kernel
theorem dX0_useUpForRank_40 : decode cX0_useUpForRank 40 = .ok (.iload_n 2, 1) := by decide +kernel
theorem dX0_useUpForRank_41 : decode cX0_useUpForRank 41 = .ok (.invokevirtual 63, 3) := by decide +kernel
theorem dX0_useUpForRank_44 : decode cX0_useUpForRank 44 = .ok (.iinc 1 1, 3) := by decide +kernel
theorem dX0_useUpForRank_47 : decode cX0_useUpForRank 47 = .ok (.iinc 2 1, 3) := by decide +kernel
theorem dX0_useUpForRank_50 : decode cX0_useUpForRank 50 = .ok (.goto (-46), 3) := by decide +kernel
theorem dX0_useUpForRank_53 : decode cX0_useUpForRank 53 = .ok (.iload_n 1, 1) := by decide +kernel
theorem dX0_useUpForRank_54 : decode cX0_useUpForRank 54 = .ok (.ireturn, 1) := by decide +kernel
theorem dX0_findPivot_0 : decode cX0_findPivot 0 = .ok (.iload_n 1, 1) := by decide +kernel
theorem dX0_findPivot_1 : decode cX0_findPivot 1 = .ok (.istore_n 3, 1) := by decide +kernel
theorem dX0_findPivot_2 : decode cX0_findPivot 2 = .ok (.iload_n 3, 1) := by decide +kernel
theorem dX0_findPivot_3 : decode cX0_findPivot 3 = .ok (.aload_n 0, 1) := by decide +kernel
theorem dX0_findPivot_4 : decode cX0_findPivot 4 = .ok (.getfield 31, 3) := by decide +kernel
theorem dX0_findPivot_7 : decode cX0_findPivot 7 = .ok (.if_icmp .ge 25, 3) := by decide +kernel
theorem dX0_findPivot_10 : decode cX0_findPivot 10 = .ok (.aload_n 0, 1) := by decide +kernel
theorem dX0_findPivot_11 : decode cX0_findPivot 11 = .ok (.getfield 11, 3) := by decide +kernel
theorem dX0_findPivot_14 : decode cX0_findPivot 14 = .ok (.iload_n 3, 1) := by decide +kernel
theorem dX0_findPivot_15 : decode cX0_findPivot 15 = .ok (.bipush 20, 2) := by decide +kernel
theorem dX0_findPivot_17 : decode cX0_findPivot 17 = .ok (.imul, 1) := by decide +kernel
theorem dX0_findPivot_18 : decode cX0_findPivot 18 = .ok (.iload_n 2, 1) := by decide +kernel
theorem dX0_findPivot_19 : decode cX0_findPivot 19 = .ok (.iadd, 1) := by decide +kernel
theorem dX0_findPivot_20 : decode cX0_findPivot 20 = .ok (.iaload, 1) := by decide +kernel
theorem dX0_findPivot_21 : decode cX0_findPivot 21 = .ok (.ifCond .eq 5, 3) := by decide +kernel
theorem dX0_findPivot_24 : decode cX0_findPivot 24 = .ok (.iload_n 3, 1) := by decide +kernel
theorem dX0_findPivot_25 : decode cX0_findPivot 25 = .ok (.ireturn, 1) := by decide +kernel
theorem dX0_findPivot_26 : decode cX0_findPivot 26 = .ok (.iinc 3 1, 3) := by decide +kernel
theorem dX0_findPivot_29 : decode cX0_findPivot 29 = .ok (.goto (-27), 3) := by decide +kernel
theorem dX0_findPivot_32 : decode cX0_findPivot 32 = .ok (.iconst (-1), 1) := by decide +kernel
theorem dX0_findPivot_33 : decode cX0_findPivot 33 = .ok (.ireturn, 1) := by decide +kernel
theorem dX0_exchangeRows_0 : decode cX0_exchangeRows 0 = .ok (.iload_n 3, 1) := by decide +kernel
theorem dX0_exchangeRows_1 : decode cX0_exchangeRows 1 = .ok (.istore 4, 2) := by decide +kernel
theorem dX0_exchangeRows_3 : decode cX0_exchangeRows 3 = .ok (.iload 4, 2) := by decide +kernel
theorem dX0_exchangeRows_5 : decode cX0_exchangeRows 5 = .ok (.aload_n 0, 1) := by decide +kernel
theorem dX0_exchangeRows_6 : decode cX0_exchangeRows 6 = .ok (.getfield 37, 3) := by decide +kernel
theorem dX0_exchangeRows_9 : decode cX0_exchangeRows 9 = .ok (.if_icmp .ge 61, 3) := by decide +kernel
theorem dX0_exchangeRows_12 : decode cX0_exchangeRows 12 = .ok (.aload_n 0, 1) := by decide +kernel
theorem dX0_exchangeRows_13 : decode cX0_exchangeRows 13 = .ok (.getfield 11, 3) := by decide +kernel
theorem dX0_exchangeRows_16 : decode cX0_exchangeRows 16 = .ok (.iload_n 1, 1) := by decide +kernel
theorem dX0_exchangeRows_17 : decode cX0_exchangeRows 17 = .ok (.bipush 20, 2) := by decide +kernel
theorem dX0_exchangeRows_19 : decode cX0_exchangeRows 19 = .ok (.imul, 1) := by decide +kernel
theorem dX0_exchangeRows_20 : decode cX0_exchangeRows 20 = .ok (.iload 4, 2) := by decide +kernel
theorem dX0_exchangeRows_22 : decode cX0_exchangeRows 22 = .ok (.iadd, 1) := by decide +kernel
theorem dX0_exchangeRows_23 : decode cX0_exchangeRows 23 = .ok (.iaload, 1) := by decide +kernel
theorem dX0_exchangeRows_24 : decode cX0_exchangeRows 24 = .ok (.istore 5, 2) := by decide +kernel
theorem dX0_exchangeRows_26 : decode cX0_exchangeRows 26 = .ok (.aload_n 0, 1) := by decide +kernel
theorem dX0_exchangeRows_27 : decode cX0_exchangeRows 27 = .ok (.getfield 11, 3) := by decide +kernel
theorem dX0_exchangeRows_30 : decode cX0_exchangeRows 30 = .ok (.iload_n 1, 1) := by decide +kernel
theorem dX0_exchangeRows_31 : decode cX0_exchangeRows 31 = .ok (.bipush 20, 2) := by decide +kernel
theorem dX0_exchangeRows_33 : decode cX0_exchangeRows 33 = .ok (.imul, 1) := by decide +kernel
theorem dX0_exchangeRows_34 : decode cX0_exchangeRows 34 = .ok (.iload 4, 2) := by decide +kernel
theorem dX0_exchangeRows_36 : decode cX0_exchangeRows 36 = .ok (.iadd, 1) := by decide +kernel
theorem dX0_exchangeRows_37 : decode cX0_exchangeRows 37 = .ok (.aload_n 0, 1) := by decide +kernel
theorem dX0_exchangeRows_38 : decode cX0_exchangeRows 38 = .ok (.getfield 11, 3) := by decide +kernel
theorem dX0_exchangeRows_41 : decode cX0_exchangeRows 41 = .ok (.iload_n 2, 1) := by decide +kernel
theorem dX0_exchangeRows_42 : decode cX0_exchangeRows 42 = .ok (.bipush 20, 2) := by decide +kernel
theorem dX0_exchangeRows_44 : decode cX0_exchangeRows 44 = .ok (.imul, 1) := by decide +kernel
theorem dX0_exchangeRows_45 : decode cX0_exchangeRows 45 = .ok (.iload 4, 2) := by decide +kernel
theorem dX0_exchangeRows_47 : decode cX0_exchangeRows 47 = .ok (.iadd, 1) := by decide +kernel
theorem dX0_exchangeRows_48 : decode cX0_exchangeRows 48 = .ok (.iaload, 1) := by decide +kernel
theorem dX0_exchangeRows_49 : decode cX0_exchangeRows 49 = .ok (.iastore, 1) := by decide +kernel
theorem dX0_exchangeRows_50 : decode cX0_exchangeRows 50 = .ok (.aload_n 0, 1) := by decide +kernel
theorem dX0_exchangeRows_51 : decode cX0_exchangeRows 51 = .ok (.getfield 11, 3) := by decide +kernel
theorem dX0_exchangeRows_54 : decode cX0_exchangeRows 54 = .ok (.iload_n 2, 1) := by decide +kernel
theorem dX0_exchangeRows_55 : decode cX0_exchangeRows 55 = .ok (.bipush 20, 2) := by decide +kernel
theorem dX0_exchangeRows_57 : decode cX0_exchangeRows 57 = .ok (.imul, 1) := by decide +kernel
theorem dX0_exchangeRows_58 : decode cX0_exchangeRows 58 = .ok (.iload 4, 2) := by decide +kernel
theorem dX0_exchangeRows_60 : decode cX0_exchangeRows 60 = .ok (.iadd, 1) := by decide +kernel
theorem dX0_exchangeRows_61 : decode cX0_exchangeRows 61 = .ok (.iload 5, 2) := by decide +kernel
theorem dX0_exchangeRows_63 : decode cX0_exchangeRows 63 = .ok (.iastore, 1) := by decide +kernel
theorem dX0_exchangeRows_64 : decode cX0_exchangeRows 64 = .ok (.iinc 4 1, 3) := by decide +kernel
theorem dX0_exchangeRows_67 : decode cX0_exchangeRows 67 = .ok (.goto (-64), 3) := by decide +kernel
theorem dX0_exchangeRows_70 : decode cX0_exchangeRows 70 = .ok (.return_, 1) := by decide +kernel
theorem dX0_clearBelow_0 : decode cX0_clearBelow 0 = .ok (.aload_n 0, 1) := by decide +kernel
theorem dX0_clearBelow_1 : decode cX0_clearBelow 1 = .ok (.getfield 11, 3) := by decide +kernel
theorem dX0_clearBelow_4 : decode cX0_clearBelow 4 = .ok (.iload_n 1, 1) := by decide +kernel
theorem dX0_clearBelow_5 : decode cX0_clearBelow 5 = .ok (.bipush 20, 2) := by decide +kernel
theorem dX0_clearBelow_7 : decode cX0_clearBelow 7 = .ok (.imul, 1) := by decide +kernel
theorem dX0_clearBelow_8 : decode cX0_clearBelow 8 = .ok (.iload_n 2, 1) := by decide +kernel
theorem dX0_clearBelow_9 : decode cX0_clearBelow 9 = .ok (.iadd, 1) := by decide +kernel
theorem dX0_clearBelow_10 : decode cX0_clearBelow 10 = .ok (.iaload, 1) := by decide +kernel
theorem dX0_clearBelow_11 : decode cX0_clearBelow 11 = .ok (.istore_n 3, 1) := by decide +kernel
theorem dX0_clearBelow_12 : decode cX0_clearBelow 12 = .ok (.iload_n 1, 1) := by decide +kernel
theorem dX0_clearBelow_13 : decode cX0_clearBelow 13 = .ok (.iconst 1, 1) := by decide +kernel
theorem dX0_clearBelow_14 : decode cX0_clearBelow 14 = .ok (.iadd, 1) := by decide +kernel
theorem dX0_clearBelow_15 : decode cX0_clearBelow 15 = .ok (.istore 4, 2) := by decide +kernel
theorem dX0_clearBelow_17 : decode cX0_clearBelow 17 = .ok (.iload 4, 2) := by decide +kernel
theorem dX0_clearBelow_19 : decode cX0_clearBelow 19 = .ok (.aload_n 0, 1) := by decide +kernel
theorem dX0_clearBelow_20 : decode cX0_clearBelow 20 = .ok (.getfield 31, 3) := by decide +kernel
theorem dX0_clearBelow_23 : decode cX0_clearBelow 23 = .ok (.if_icmp .ge 101, 3) := by decide +kernel
theorem dX0_clearBelow_26 : decode cX0_clearBelow 26 = .ok (.aload_n 0, 1) := by decide +kernel
theorem dX0_clearBelow_27 : decode cX0_clearBelow 27 = .ok (.getfield 11, 3) := by decide +kernel
theorem dX0_clearBelow_30 : decode cX0_clearBelow 30 = .ok (.iload 4, 2) := by decide +kernel
theorem dX0_clearBelow_32 : decode cX0_clearBelow 32 = .ok (.bipush 20, 2) := by decide +kernel
theorem dX0_clearBelow_34 : decode cX0_clearBelow 34 = .ok (.imul, 1) := by decide +kernel
theorem dX0_clearBelow_35 : decode cX0_clearBelow 35 = .ok (.iload_n 2, 1) := by decide +kernel
theorem dX0_clearBelow_36 : decode cX0_clearBelow 36 = .ok (.iadd, 1) := by decide +kernel
theorem dX0_clearBelow_37 : decode cX0_clearBelow 37 = .ok (.iaload, 1) := by decide +kernel
theorem dX0_clearBelow_38 : decode cX0_clearBelow 38 = .ok (.istore 5, 2) := by decide +kernel
theorem dX0_clearBelow_40 : decode cX0_clearBelow 40 = .ok (.iload 5, 2) := by decide +kernel
theorem dX0_clearBelow_42 : decode cX0_clearBelow 42 = .ok (.ifCond .eq 76, 3) := by decide +kernel
theorem dX0_clearBelow_45 : decode cX0_clearBelow 45 = .ok (.iload_n 2, 1) := by decide +kernel
theorem dX0_clearBelow_46 : decode cX0_clearBelow 46 = .ok (.istore 6, 2) := by decide +kernel
theorem dX0_clearBelow_48 : decode cX0_clearBelow 48 = .ok (.iload 6, 2) := by decide +kernel
theorem dX0_clearBelow_50 : decode cX0_clearBelow 50 = .ok (.aload_n 0, 1) := by decide +kernel
theorem dX0_clearBelow_51 : decode cX0_clearBelow 51 = .ok (.getfield 37, 3) := by decide +kernel
theorem dX0_clearBelow_54 : decode cX0_clearBelow 54 = .ok (.if_icmp .ge 64, 3) := by decide +kernel
theorem dX0_clearBelow_57 : decode cX0_clearBelow 57 = .ok (.iload_n 3, 1) := by decide +kernel
theorem dX0_clearBelow_58 : decode cX0_clearBelow 58 = .ok (.aload_n 0, 1) := by decide +kernel
theorem dX0_clearBelow_59 : decode cX0_clearBelow 59 = .ok (.getfield 11, 3) := by decide +kernel
theorem dX0_clearBelow_62 : decode cX0_clearBelow 62 = .ok (.iload 4, 2) := by decide +kernel
theorem dX0_clearBelow_64 : decode cX0_clearBelow 64 = .ok (.bipush 20, 2) := by decide +kernel
theorem dX0_clearBelow_66 : decode cX0_clearBelow 66 = .ok (.imul, 1) := by decide +kernel
theorem dX0_clearBelow_67 : decode cX0_clearBelow 67 = .ok (.iload 6, 2) := by decide +kernel
theorem dX0_clearBelow_69 : decode cX0_clearBelow 69 = .ok (.iadd, 1) := by decide +kernel
theorem dX0_clearBelow_70 : decode cX0_clearBelow 70 = .ok (.iaload, 1) := by decide +kernel
theorem dX0_clearBelow_71 : decode cX0_clearBelow 71 = .ok (.imul, 1) := by decide +kernel
theorem dX0_clearBelow_72 : decode cX0_clearBelow 72 = .ok (.iload 5, 2) := by decide +kernel
theorem dX0_clearBelow_74 : decode cX0_clearBelow 74 = .ok (.aload_n 0, 1) := by decide +kernel
theorem dX0_clearBelow_75 : decode cX0_clearBelow 75 = .ok (.getfield 11, 3) := by decide +kernel
theorem dX0_clearBelow_78 : decode cX0_clearBelow 78 = .ok (.iload_n 1, 1) := by decide +kernel
theorem dX0_clearBelow_79 : decode cX0_clearBelow 79 = .ok (.bipush 20, 2) := by decide +kernel
theorem dX0_clearBelow_81 : decode cX0_clearBelow 81 = .ok (.imul, 1) := by decide +kernel
theorem dX0_clearBelow_82 : decode cX0_clearBelow 82 = .ok (.iload 6, 2) := by decide +kernel
theorem dX0_clearBelow_84 : decode cX0_clearBelow 84 = .ok (.iadd, 1) := by decide +kernel
theorem dX0_clearBelow_85 : decode cX0_clearBelow 85 = .ok (.iaload, 1) := by decide +kernel
theorem dX0_clearBelow_86 : decode cX0_clearBelow 86 = .ok (.imul, 1) := by decide +kernel
theorem dX0_clearBelow_87 : decode cX0_clearBelow 87 = .ok (.isub, 1) := by decide +kernel
theorem dX0_clearBelow_88 : decode cX0_clearBelow 88 = .ok (.istore 7, 2) := by decide +kernel
theorem dX0_clearBelow_90 : decode cX0_clearBelow 90 = .ok (.aload_n 0, 1) := by decide +kernel
theorem dX0_clearBelow_91 : decode cX0_clearBelow 91 = .ok (.getfield 11, 3) := by decide +kernel
theorem dX0_clearBelow_94 : decode cX0_clearBelow 94 = .ok (.iload 4, 2) := by decide +kernel
theorem dX0_clearBelow_96 : decode cX0_clearBelow 96 = .ok (.bipush 20, 2) := by decide +kernel
theorem dX0_clearBelow_98 : decode cX0_clearBelow 98 = .ok (.imul, 1) := by decide +kernel
theorem dX0_clearBelow_99 : decode cX0_clearBelow 99 = .ok (.iload 6, 2) := by decide +kernel
theorem dX0_clearBelow_101 : decode cX0_clearBelow 101 = .ok (.iadd, 1) := by decide +kernel
theorem dX0_clearBelow_102 : decode cX0_clearBelow 102 = .ok (.iload 7, 2) := by decide +kernel
theorem dX0_clearBelow_104 : decode cX0_clearBelow 104 = .ok (.aload_n 0, 1) := by decide +kernel
theorem dX0_clearBelow_105 : decode cX0_clearBelow 105 = .ok (.getfield 15, 3) := by decide +kernel
theorem dX0_clearBelow_108 : decode cX0_clearBelow 108 = .ok (.invokestatic 50, 3) := by decide +kernel
theorem dX0_clearBelow_111 : decode cX0_clearBelow 111 = .ok (.iastore, 1) := by decide +kernel
theorem dX0_clearBelow_112 : decode cX0_clearBelow 112 = .ok (.iinc 6 1, 3) := by decide +kernel
theorem dX0_clearBelow_115 : decode cX0_clearBelow 115 = .ok (.goto (-67), 3) := by decide +kernel
theorem dX0_clearBelow_118 : decode cX0_clearBelow 118 = .ok (.iinc 4 1, 3) := by decide +kernel
theorem dX0_clearBelow_121 : decode cX0_clearBelow 121 = .ok (.goto (-104), 3) := by decide +kernel
theorem dX0_clearBelow_124 : decode cX0_clearBelow 124 = .ok (.return_, 1) := by decide +kernel
theorem dX0_putNumber_0 : decode cX0_putNumber 0 = .ok (.iload_n 1, 1) := by decide +kernel
theorem dX0_putNumber_1 : decode cX0_putNumber 1 = .ok (.ifCond .lt 35, 3) := by decide +kernel
theorem dX0_putNumber_4 : decode cX0_putNumber 4 = .ok (.iload_n 1, 1) := by decide +kernel
theorem dX0_putNumber_5 : decode cX0_putNumber 5 = .ok (.aload_n 0, 1) := by decide +kernel
theorem dX0_putNumber_6 : decode cX0_putNumber 6 = .ok (.getfield 31, 3) := by decide +kernel
theorem dX0_putNumber_9 : decode cX0_putNumber 9 = .ok (.if_icmp .ge 27, 3) := by decide +kernel
theorem dX0_putNumber_12 : decode cX0_putNumber 12 = .ok (.iload_n 2, 1) := by decide +kernel
theorem dX0_putNumber_13 : decode cX0_putNumber 13 = .ok (.ifCond .lt 23, 3) := by decide +kernel
theorem dX0_putNumber_16 : decode cX0_putNumber 16 = .ok (.iload_n 2, 1) := by decide +kernel
theorem dX0_putNumber_17 : decode cX0_putNumber 17 = .ok (.aload_n 0, 1) := by decide +kernel
theorem dX0_putNumber_18 : decode cX0_putNumber 18 = .ok (.getfield 37, 3) := by decide +kernel
theorem dX0_putNumber_21 : decode cX0_putNumber 21 = .ok (.if_icmp .ge 15, 3) := by decide +kernel
theorem dX0_putNumber_24 : decode cX0_putNumber 24 = .ok (.aload_n 0, 1) := by decide +kernel
theorem dX0_putNumber_25 : decode cX0_putNumber 25 = .ok (.getfield 11, 3) := by decide +kernel
theorem dX0_putNumber_28 : decode cX0_putNumber 28 = .ok (.iload_n 1, 1) := by decide +kernel
theorem dX0_putNumber_29 : decode cX0_putNumber 29 = .ok (.bipush 20, 2) := by decide +kernel
theorem dX0_putNumber_31 : decode cX0_putNumber 31 = .ok (.imul, 1) := by decide +kernel
theorem dX0_putNumber_32 : decode cX0_putNumber 32 = .ok (.iload_n 2, 1) := by decide +kernel
theorem dX0_putNumber_33 : decode cX0_putNumber 33 = .ok (.iadd, 1) := by decide +kernel
theorem dX0_putNumber_34 : decode cX0_putNumber 34 = .ok (.iload_n 3, 1) := by decide +kernel
theorem dX0_putNumber_35 : decode cX0_putNumber 35 = .ok (.iastore, 1) := by decide +kernel
theorem dX0_putNumber_36 : decode cX0_putNumber 36 = .ok (.return_, 1) := by decide +kernel
