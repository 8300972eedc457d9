theorem dX1_init_0 : decode cX1_init 0 = .ok (.aload_n 0, 1) := by decide +kernel
theorem dX1_init_1 : decode cX1_init 1 = .ok (.invokespecial 3, 3) := by decide +kernel
theorem dX1_init_4 : decode cX1_init 4 = .ok (.aload_n 0, 1) := by decide +kernel
theorem dX1_init_5 : decode cX1_init 5 = .ok (.bipush 32, 2) := by decide +kernel
theorem dX1_init_7 : decode cX1_init 7 = .ok (.newarray .int, 2) := by decide +kernel
theorem dX1_init_9 : decode cX1_init 9 = .ok (.putfield 11, 3) := by decide +kernel
theorem dX1_init_12 : decode cX1_init 12 = .ok (.aload_n 0, 1) := by decide +kernel
theorem dX1_init_13 : decode cX1_init 13 = .ok (.bipush 7, 2) := by decide +kernel
theorem dX1_init_15 : decode cX1_init 15 = .ok (.putfield 15, 3) := by decide +kernel
theorem dX1_init_18 : decode cX1_init 18 = .ok (.return_, 1) := by decide +kernel
theorem dX1_makeEmpty_0 : decode cX1_makeEmpty 0 = .ok (.aload_n 0, 1) := by decide +kernel
theorem dX1_makeEmpty_1 : decode cX1_makeEmpty 1 = .ok (.getfield 11, 3) := by decide +kernel
theorem dX1_makeEmpty_4 : decode cX1_makeEmpty 4 = .ok (.iconst 0, 1) := by decide +kernel
theorem dX1_makeEmpty_5 : decode cX1_makeEmpty 5 = .ok (.invokestatic 19, 3) := by decide +kernel
theorem dX1_makeEmpty_8 : decode cX1_makeEmpty 8 = .ok (.aload_n 0, 1) := by decide +kernel
theorem dX1_makeEmpty_9 : decode cX1_makeEmpty 9 = .ok (.bipush 7, 2) := by decide +kernel
theorem dX1_makeEmpty_11 : decode cX1_makeEmpty 11 = .ok (.putfield 15, 3) := by decide +kernel
theorem dX1_makeEmpty_14 : decode cX1_makeEmpty 14 = .ok (.aload_n 0, 1) := by decide +kernel
theorem dX1_makeEmpty_15 : decode cX1_makeEmpty 15 = .ok (.iconst 0, 1) := by decide +kernel
theorem dX1_makeEmpty_16 : decode cX1_makeEmpty 16 = .ok (.putfield 25, 3) := by decide +kernel
theorem dX1_makeEmpty_19 : decode cX1_makeEmpty 19 = .ok (.aload_n 0, 1) := by decide +kernel
theorem dX1_makeEmpty_20 : decode cX1_makeEmpty 20 = .ok (.iconst 0, 1) := by decide +kernel
theorem dX1_makeEmpty_21 : decode cX1_makeEmpty 21 = .ok (.putfield 28, 3) := by decide +kernel
theorem dX1_makeEmpty_24 : decode cX1_makeEmpty 24 = .ok (.return_, 1) := by decide +kernel
theorem dX1_takeFrom_0 : decode cX1_takeFrom 0 = .ok (.aload_n 1, 1) := by decide +kernel
theorem dX1_takeFrom_1 : decode cX1_takeFrom 1 = .ok (.getfield 11, 3) := by decide +kernel
theorem dX1_takeFrom_4 : decode cX1_takeFrom 4 = .ok (.iconst 0, 1) := by decide +kernel
theorem dX1_takeFrom_5 : decode cX1_takeFrom 5 = .ok (.aload_n 0, 1) := by decide +kernel
theorem dX1_takeFrom_6 : decode cX1_takeFrom 6 = .ok (.getfield 11, 3) := by decide +kernel
theorem dX1_takeFrom_9 : decode cX1_takeFrom 9 = .ok (.iconst 0, 1) := by decide +kernel
theorem dX1_takeFrom_10 : decode cX1_takeFrom 10 = .ok (.bipush 32, 2) := by decide +kernel
theorem dX1_takeFrom_12 : decode cX1_takeFrom 12 = .ok (.invokestatic 31, 3) := by decide +kernel
theorem dX1_takeFrom_15 : decode cX1_takeFrom 15 = .ok (.aload_n 0, 1) := by decide +kernel
theorem dX1_takeFrom_16 : decode cX1_takeFrom 16 = .ok (.aload_n 1, 1) := by decide +kernel
theorem dX1_takeFrom_17 : decode cX1_takeFrom 17 = .ok (.getfield 15, 3) := by decide +kernel
theorem dX1_takeFrom_20 : decode cX1_takeFrom 20 = .ok (.putfield 15, 3) := by decide +kernel
theorem dX1_takeFrom_23 : decode cX1_takeFrom 23 = .ok (.aload_n 0, 1) := by decide +kernel
theorem dX1_takeFrom_24 : decode cX1_takeFrom 24 = .ok (.aload_n 1, 1) := by decide +kernel
theorem dX1_takeFrom_25 : decode cX1_takeFrom 25 = .ok (.getfield 25, 3) := by decide +kernel
theorem dX1_takeFrom_28 : decode cX1_takeFrom 28 = .ok (.putfield 25, 3) := by decide +kernel
theorem dX1_takeFrom_31 : decode cX1_takeFrom 31 = .ok (.aload_n 0, 1) := by decide +kernel
theorem dX1_takeFrom_32 : decode cX1_takeFrom 32 = .ok (.aload_n 1, 1) := by decide +kernel
theorem dX1_takeFrom_33 : decode cX1_takeFrom 33 = .ok (.getfield 28, 3) := by decide +kernel
theorem dX1_takeFrom_36 : decode cX1_takeFrom 36 = .ok (.putfield 28, 3) := by decide +kernel
theorem dX1_takeFrom_39 : decode cX1_takeFrom 39 = .ok (.return_, 1) := by decide +kernel
theorem dX1_shape_0 : decode cX1_shape 0 = .ok (.bipush 10, 2) := by decide +kernel
theorem dX1_shape_2 : decode cX1_shape 2 = .ok (.aload_n 0, 1) := by decide +kernel
theorem dX1_shape_3 : decode cX1_shape 3 = .ok (.getfield 25, 3) := by decide +kernel
theorem dX1_shape_6 : decode cX1_shape 6 = .ok (.imul, 1) := by decide +kernel
theorem dX1_shape_7 : decode cX1_shape 7 = .ok (.aload_n 0, 1) := by decide +kernel
theorem dX1_shape_8 : decode cX1_shape 8 = .ok (.getfield 28, 3) := by decide +kernel
theorem dX1_shape_11 : decode cX1_shape 11 = .ok (.iadd, 1) := by decide +kernel
theorem dX1_shape_12 : decode cX1_shape 12 = .ok (.ireturn, 1) := by decide +kernel
theorem dX1_linesOf_0 : decode cX1_linesOf 0 = .ok (.iload_n 1, 1) := by decide +kernel
theorem dX1_linesOf_1 : decode cX1_linesOf 1 = .ok (.ifCond .ne 10, 3) := by decide +kernel
theorem dX1_linesOf_4 : decode cX1_linesOf 4 = .ok (.aload_n 0, 1) := by decide +kernel
theorem dX1_linesOf_5 : decode cX1_linesOf 5 = .ok (.getfield 25, 3) := by decide +kernel
theorem dX1_linesOf_8 : decode cX1_linesOf 8 = .ok (.goto 7, 3) := by decide +kernel
theorem dX1_linesOf_11 : decode cX1_linesOf 11 = .ok (.aload_n 0, 1) := by decide +kernel
theorem dX1_linesOf_12 : decode cX1_linesOf 12 = .ok (.getfield 28, 3) := by decide +kernel
theorem dX1_linesOf_15 : decode cX1_linesOf 15 = .ok (.ireturn, 1) := by decide +kernel
theorem dX1_hasLine_0 : decode cX1_hasLine 0 = .ok (.iload_n 1, 1) := by decide +kernel
theorem dX1_hasLine_1 : decode cX1_hasLine 1 = .ok (.invokestatic 37, 3) := by decide +kernel
theorem dX1_hasLine_4 : decode cX1_hasLine 4 = .ok (.ifCond .eq 20, 3) := by decide +kernel
theorem dX1_hasLine_7 : decode cX1_hasLine 7 = .ok (.iload_n 2, 1) := by decide +kernel
theorem dX1_hasLine_8 : decode cX1_hasLine 8 = .ok (.ifCond .lt 16, 3) := by decide +kernel
theorem dX1_hasLine_11 : decode cX1_hasLine 11 = .ok (.iload_n 2, 1) := by decide +kernel
theorem dX1_hasLine_12 : decode cX1_hasLine 12 = .ok (.aload_n 0, 1) := by decide +kernel
theorem dX1_hasLine_13 : decode cX1_hasLine 13 = .ok (.iload_n 1, 1) := by decide +kernel
theorem dX1_hasLine_14 : decode cX1_hasLine 14 = .ok (.invokevirtual 41, 3) := by decide +kernel
theorem dX1_hasLine_17 : decode cX1_hasLine 17 = .ok (.if_icmp .ge 7, 3) := by decide +kernel
theorem dX1_hasLine_20 : decode cX1_hasLine 20 = .ok (.iconst 1, 1) := by decide +kernel
theorem dX1_hasLine_21 : decode cX1_hasLine 21 = .ok (.goto 4, 3) := by decide +kernel
theorem dX1_hasLine_24 : decode cX1_hasLine 24 = .ok (.iconst 0, 1) := by decide +kernel
theorem dX1_hasLine_25 : decode cX1_hasLine 25 = .ok (.ireturn, 1) := by decide +kernel
theorem dX1_hasPlace_0 : decode cX1_hasPlace 0 = .ok (.iload_n 1, 1) := by decide +kernel
theorem dX1_hasPlace_1 : decode cX1_hasPlace 1 = .ok (.ifCond .lt 36, 3) := by decide +kernel
theorem dX1_hasPlace_4 : decode cX1_hasPlace 4 = .ok (.iload_n 1, 1) := by decide +kernel
theorem dX1_hasPlace_5 : decode cX1_hasPlace 5 = .ok (.iconst 2, 1) := by decide +kernel
theorem dX1_hasPlace_6 : decode cX1_hasPlace 6 = .ok (.if_icmp .ge 31, 3) := by decide +kernel
theorem dX1_hasPlace_9 : decode cX1_hasPlace 9 = .ok (.iload_n 2, 1) := by decide +kernel
theorem dX1_hasPlace_10 : decode cX1_hasPlace 10 = .ok (.ifCond .lt 27, 3) := by decide +kernel
theorem dX1_hasPlace_13 : decode cX1_hasPlace 13 = .ok (.iload_n 2, 1) := by decide +kernel
theorem dX1_hasPlace_14 : decode cX1_hasPlace 14 = .ok (.aload_n 0, 1) := by decide +kernel
theorem dX1_hasPlace_15 : decode cX1_hasPlace 15 = .ok (.getfield 25, 3) := by decide +kernel
theorem dX1_hasPlace_18 : decode cX1_hasPlace 18 = .ok (.if_icmp .ge 19, 3) := by decide +kernel
theorem dX1_hasPlace_21 : decode cX1_hasPlace 21 = .ok (.iload_n 3, 1) := by decide +kernel
theorem dX1_hasPlace_22 : decode cX1_hasPlace 22 = .ok (.ifCond .lt 15, 3) := by decide +kernel
theorem dX1_hasPlace_25 : decode cX1_hasPlace 25 = .ok (.iload_n 3, 1) := by decide +kernel
theorem dX1_hasPlace_26 : decode cX1_hasPlace 26 = .ok (.aload_n 0, 1) := by decide +kernel
theorem dX1_hasPlace_27 : decode cX1_hasPlace 27 = .ok (.getfield 28, 3) := by decide +kernel
theorem dX1_hasPlace_30 : decode cX1_hasPlace 30 = .ok (.if_icmp .ge 7, 3) := by decide +kernel
theorem dX1_hasPlace_33 : decode cX1_hasPlace 33 = .ok (.iconst 1, 1) := by decide +kernel
theorem dX1_hasPlace_34 : decode cX1_hasPlace 34 = .ok (.goto 4, 3) := by decide +kernel
theorem dX1_hasPlace_37 : decode cX1_hasPlace 37 = .ok (.iconst 0, 1) := by decide +kernel
theorem dX1_hasPlace_38 : decode cX1_hasPlace 38 = .ok (.ireturn, 1) := by decide +kernel
theorem dX1_valueAt_0 : decode cX1_valueAt 0 = .ok (.aload_n 0, 1) := by decide +kernel
theorem dX1_valueAt_1 : decode cX1_valueAt 1 = .ok (.iload_n 1, 1) := by decide +kernel
theorem dX1_valueAt_2 : decode cX1_valueAt 2 = .ok (.iload_n 2, 1) := by decide +kernel
theorem dX1_valueAt_3 : decode cX1_valueAt 3 = .ok (.iload_n 3, 1) := by decide +kernel
theorem dX1_valueAt_4 : decode cX1_valueAt 4 = .ok (.invokevirtual 45, 3) := by decide +kernel
theorem dX1_valueAt_7 : decode cX1_valueAt 7 = .ok (.ifCond .eq 17, 3) := by decide +kernel
theorem dX1_valueAt_10 : decode cX1_valueAt 10 = .ok (.aload_n 0, 1) := by decide +kernel
theorem dX1_valueAt_11 : decode cX1_valueAt 11 = .ok (.getfield 11, 3) := by decide +kernel
theorem dX1_valueAt_14 : decode cX1_valueAt 14 = .ok (.iload_n 1, 1) := by decide +kernel
theorem dX1_valueAt_15 : decode cX1_valueAt 15 = .ok (.iload_n 2, 1) := by decide +kernel
theorem dX1_valueAt_16 : decode cX1_valueAt 16 = .ok (.iload_n 3, 1) := by decide +kernel
theorem dX1_valueAt_17 : decode cX1_valueAt 17 = .ok (.invokestatic 49, 3) := by decide +kernel
theorem dX1_valueAt_20 : decode cX1_valueAt 20 = .ok (.iaload, 1) := by decide +kernel
theorem dX1_valueAt_21 : decode cX1_valueAt 21 = .ok (.goto 4, 3) := by decide +kernel
theorem dX1_valueAt_24 : decode cX1_valueAt 24 = .ok (.iconst 0, 1) := by decide +kernel
theorem dX1_valueAt_25 : decode cX1_valueAt 25 = .ok (.ireturn, 1) := by decide +kernel
theorem dX1_putValue_0 : decode cX1_putValue 0 = .ok (.aload_n 0, 1) := by decide +kernel
theorem dX1_putValue_1 : decode cX1_putValue 1 = .ok (.iload_n 1, 1) := by decide +kernel
theorem dX1_putValue_2 : decode cX1_putValue 2 = .ok (.iload_n 2, 1) := by decide +kernel
theorem dX1_putValue_3 : decode cX1_putValue 3 = .ok (.iload_n 3, 1) := by decide +kernel
theorem dX1_putValue_4 : decode cX1_putValue 4 = .ok (.invokevirtual 45, 3) := by decide +kernel
theorem dX1_putValue_7 : decode cX1_putValue 7 = .ok (.ifCond .eq 16, 3) := by decide +kernel
theorem dX1_putValue_10 : decode cX1_putValue 10 = .ok (.aload_n 0, 1) := by decide +kernel
theorem dX1_putValue_11 : decode cX1_putValue 11 = .ok (.getfield 11, 3) := by decide +kernel
theorem dX1_putValue_14 : decode cX1_putValue 14 = .ok (.iload_n 1, 1) := by decide +kernel
theorem dX1_putValue_15 : decode cX1_putValue 15 = .ok (.iload_n 2, 1) := by decide +kernel
theorem dX1_putValue_16 : decode cX1_putValue 16 = .ok (.iload_n 3, 1) := by decide +kernel
theorem dX1_putValue_17 : decode cX1_putValue 17 = .ok (.invokestatic 49, 3) := by decide +kernel
theorem dX1_putValue_20 : decode cX1_putValue 20 = .ok (.iload 4, 2) := by decide +kernel
theorem dX1_putValue_22 : decode cX1_putValue 22 = .ok (.iastore, 1) := by decide +kernel
theorem dX1_putValue_23 : decode cX1_putValue 23 = .ok (.return_, 1) := by decide +kernel
theorem dX1_addLine_0 : decode cX1_addLine 0 = .ok (.iload_n 1, 1) := by decide +kernel
theorem dX1_addLine_1 : decode cX1_addLine 1 = .ok (.ifCond .ne 20, 3) := by decide +kernel
theorem dX1_addLine_4 : decode cX1_addLine 4 = .ok (.aload_n 0, 1) := by decide +kernel
theorem dX1_addLine_5 : decode cX1_addLine 5 = .ok (.aload_n 0, 1) := by decide +kernel
theorem dX1_addLine_6 : decode cX1_addLine 6 = .ok (.getfield 25, 3) := by decide +kernel
theorem dX1_addLine_9 : decode cX1_addLine 9 = .ok (.iconst 1, 1) := by decide +kernel
theorem dX1_addLine_10 : decode cX1_addLine 10 = .ok (.iadd, 1) := by decide +kernel
theorem dX1_addLine_11 : decode cX1_addLine 11 = .ok (.aload_n 0, 1) := by decide +kernel
theorem dX1_addLine_12 : decode cX1_addLine 12 = .ok (.getfield 28, 3) := by decide +kernel
theorem dX1_addLine_15 : decode cX1_addLine 15 = .ok (.invokevirtual 53, 3) := by decide +kernel
theorem dX1_addLine_18 : decode cX1_addLine 18 = .ok (.goto 17, 3) := by decide +kernel
theorem dX1_addLine_21 : decode cX1_addLine 21 = .ok (.aload_n 0, 1) := by decide +kernel
theorem dX1_addLine_22 : decode cX1_addLine 22 = .ok (.aload_n 0, 1) := by decide +kernel
theorem dX1_addLine_23 : decode cX1_addLine 23 = .ok (.getfield 25, 3) := by decide +kernel
theorem dX1_addLine_26 : decode cX1_addLine 26 = .ok (.aload_n 0, 1) := by decide +kernel
theorem dX1_addLine_27 : decode cX1_addLine 27 = .ok (.getfield 28, 3) := by decide +kernel
theorem dX1_addLine_30 : decode cX1_addLine 30 = .ok (.iconst 1, 1) := by decide +kernel
theorem dX1_addLine_31 : decode cX1_addLine 31 = .ok (.iadd, 1) := by decide +kernel
theorem dX1_addLine_32 : decode cX1_addLine 32 = .ok (.invokevirtual 53, 3) := by decide +kernel
theorem dX1_addLine_35 : decode cX1_addLine 35 = .ok (.return_, 1) := by decide +kernel
theorem dX1_growTo_0 : decode cX1_growTo 0 = .ok (.aload_n 0, 1) := by decide +kernel
theorem dX1_growTo_1 : decode cX1_growTo 1 = .ok (.iload_n 1, 1) := by decide +kernel
theorem dX1_growTo_2 : decode cX1_growTo 2 = .ok (.iconst 4, 1) := by decide +kernel
theorem dX1_growTo_3 : decode cX1_growTo 3 = .ok (.invokestatic 57, 3) := by decide +kernel
theorem dX1_growTo_6 : decode cX1_growTo 6 = .ok (.putfield 25, 3) := by decide +kernel
theorem dX1_growTo_9 : decode cX1_growTo 9 = .ok (.aload_n 0, 1) := by decide +kernel
theorem dX1_growTo_10 : decode cX1_growTo 10 = .ok (.iload_n 2, 1) := by decide +kernel
theorem dX1_growTo_11 : decode cX1_growTo 11 = .ok (.iconst 4, 1) := by decide +kernel
theorem dX1_growTo_12 : decode cX1_growTo 12 = .ok (.invokestatic 57, 3) := by decide +kernel
theorem dX1_growTo_15 : decode cX1_growTo 15 = .ok (.putfield 28, 3) := by decide +kernel
theorem dX1_growTo_18 : decode cX1_growTo 18 = .ok (.return_, 1) := by decide +kernel
theorem dX1_shrinkTo_0 : decode cX1_shrinkTo 0 = .ok (.iconst 0, 1) := by decide +kernel
theorem dX1_shrinkTo_1 : decode cX1_shrinkTo 1 = .ok (.istore_n 3, 1) := by decide +kernel
theorem dX1_shrinkTo_2 : decode cX1_shrinkTo 2 = .ok (.iload_n 3, 1) := by decide +kernel
theorem dX1_shrinkTo_3 : decode cX1_shrinkTo 3 = .ok (.iconst 2, 1) := by decide +kernel
theorem dX1_shrinkTo_4 : decode cX1_shrinkTo 4 = .ok (.if_icmp .ge 67, 3) := by decide +kernel
theorem dX1_shrinkTo_7 : decode cX1_shrinkTo 7 = .ok (.iconst 0, 1) := by decide +kernel
theorem dX1_shrinkTo_8 : decode cX1_shrinkTo 8 = .ok (.istore 4, 2) := by decide +kernel
theorem dX1_shrinkTo_10 : decode cX1_shrinkTo 10 = .ok (.iload 4, 2) := by decide +kernel
theorem dX1_shrinkTo_12 : decode cX1_shrinkTo 12 = .ok (.aload_n 0, 1) := by decide +kernel
theorem dX1_shrinkTo_13 : decode cX1_shrinkTo 13 = .ok (.getfield 25, 3) := by decide +kernel
theorem dX1_shrinkTo_16 : decode cX1_shrinkTo 16 = .ok (.if_icmp .ge 49, 3) := by decide +kernel
theorem dX1_shrinkTo_19 : decode cX1_shrinkTo 19 = .ok (.iconst 0, 1) := by decide +kernel
theorem dX1_shrinkTo_20 : decode cX1_shrinkTo 20 = .ok (.istore 5, 2) := by decide +kernel
theorem dX1_shrinkTo_22 : decode cX1_shrinkTo 22 = .ok (.iload 5, 2) := by decide +kernel
theorem dX1_shrinkTo_24 : decode cX1_shrinkTo 24 = .ok (.aload_n 0, 1) := by decide +kernel
theorem dX1_shrinkTo_25 : decode cX1_shrinkTo 25 = .ok (.getfield 28, 3) := by decide +kernel
theorem dX1_shrinkTo_28 : decode cX1_shrinkTo 28 = .ok (.if_icmp .ge 31, 3) := by decide +kernel
theorem dX1_shrinkTo_31 : decode cX1_shrinkTo 31 = .ok (.iload 4, 2) := by decide +kernel
theorem dX1_shrinkTo_33 : decode cX1_shrinkTo 33 = .ok (.iload_n 1, 1) := by decide +kernel
theorem dX1_shrinkTo_34 : decode cX1_shrinkTo 34 = .ok (.if_icmp .ge 9, 3) := by decide +kernel
theorem dX1_shrinkTo_37 : decode cX1_shrinkTo 37 = .ok (.iload 5, 2) := by decide +kernel
theorem dX1_shrinkTo_39 : decode cX1_shrinkTo 39 = .ok (.iload_n 2, 1) := by decide +kernel
theorem dX1_shrinkTo_40 : decode cX1_shrinkTo 40 = .ok (.if_icmp .lt 13, 3) := by decide +kernel
theorem dX1_shrinkTo_43 : decode cX1_shrinkTo 43 = .ok (.aload_n 0, 1) := by decide +kernel
theorem dX1_shrinkTo_44 : decode cX1_shrinkTo 44 = .ok (.iload_n 3, 1) := by decide +kernel
theorem dX1_shrinkTo_45 : decode cX1_shrinkTo 45 = .ok (.iload 4, 2) := by decide +kernel
theorem dX1_shrinkTo_47 : decode cX1_shrinkTo 47 = .ok (.iload 5, 2) := by decide +kernel
theorem dX1_shrinkTo_49 : decode cX1_shrinkTo 49 = .ok (.iconst 0, 1) := by decide +kernel
theorem dX1_shrinkTo_50 : decode cX1_shrinkTo 50 = .ok (.invokevirtual 63, 3) := by decide +kernel
theorem dX1_shrinkTo_53 : decode cX1_shrinkTo 53 = .ok (.iinc 5 1, 3) := by decide +kernel
theorem dX1_shrinkTo_56 : decode cX1_shrinkTo 56 = .ok (.goto (-34), 3) := by decide +kernel
theorem dX1_shrinkTo_59 : decode cX1_shrinkTo 59 = .ok (.iinc 4 1, 3) := by decide +kernel
theorem dX1_shrinkTo_62 : decode cX1_shrinkTo 62 = .ok (.goto (-52), 3) := by decide +kernel
theorem dX1_shrinkTo_65 : decode cX1_shrinkTo 65 = .ok (.iinc 3 1, 3) := by decide +kernel
theorem dX1_shrinkTo_68 : decode cX1_shrinkTo 68 = .ok (.goto (-66), 3) := by decide +kernel
theorem dX1_shrinkTo_71 : decode cX1_shrinkTo 71 = .ok (.aload_n 0, 1) := by decide +kernel
theorem dX1_shrinkTo_72 : decode cX1_shrinkTo 72 = .ok (.iload_n 1, 1) := by decide +kernel
theorem dX1_shrinkTo_73 : decode cX1_shrinkTo 73 = .ok (.putfield 25, 3) := by decide +kernel
theorem dX1_shrinkTo_76 : decode cX1_shrinkTo 76 = .ok (.aload_n 0, 1) := by decide +kernel
theorem dX1_shrinkTo_77 : decode cX1_shrinkTo 77 = .ok (.iload_n 2, 1) := by decide +kernel
theorem dX1_shrinkTo_78 : decode cX1_shrinkTo 78 = .ok (.putfield 28, 3) := by decide +kernel
theorem dX1_shrinkTo_81 : decode cX1_shrinkTo 81 = .ok (.return_, 1) := by decide +kernel
theorem dX1_mixLines_0 : decode cX1_mixLines 0 = .ok (.iconst 0, 1) := by decide +kernel
theorem dX1_mixLines_1 : decode cX1_mixLines 1 = .ok (.istore 5, 2) := by decide +kernel
theorem dX1_mixLines_3 : decode cX1_mixLines 3 = .ok (.iload 5, 2) := by decide +kernel
theorem dX1_mixLines_5 : decode cX1_mixLines 5 = .ok (.iconst 2, 1) := by decide +kernel
theorem dX1_mixLines_6 : decode cX1_mixLines 6 = .ok (.if_icmp .ge 75, 3) := by decide +kernel
theorem dX1_mixLines_9 : decode cX1_mixLines 9 = .ok (.iconst 0, 1) := by decide +kernel
theorem dX1_mixLines_10 : decode cX1_mixLines 10 = .ok (.istore 6, 2) := by decide +kernel
theorem dX1_mixLines_12 : decode cX1_mixLines 12 = .ok (.iload 6, 2) := by decide +kernel
theorem dX1_mixLines_14 : decode cX1_mixLines 14 = .ok (.aload_n 0, 1) := by decide +kernel
theorem dX1_mixLines_15 : decode cX1_mixLines 15 = .ok (.iconst 1, 1) := by decide +kernel
theorem dX1_mixLines_16 : decode cX1_mixLines 16 = .ok (.iload_n 1, 1) := by decide +kernel
theorem dX1_mixLines_17 : decode cX1_mixLines 17 = .ok (.isub, 1) := by decide +kernel
theorem dX1_mixLines_18 : decode cX1_mixLines 18 = .ok (.invokevirtual 41, 3) := by decide +kernel
theorem dX1_mixLines_21 : decode cX1_mixLines 21 = .ok (.if_icmp .ge 54, 3) := by decide +kernel
theorem dX1_mixLines_24 : decode cX1_mixLines 24 = .ok (.aload_n 0, 1) := by decide +kernel
theorem dX1_mixLines_25 : decode cX1_mixLines 25 = .ok (.iload 5, 2) := by decide +kernel
theorem dX1_mixLines_27 : decode cX1_mixLines 27 = .ok (.iload_n 1, 1) := by decide +kernel
theorem dX1_mixLines_28 : decode cX1_mixLines 28 = .ok (.iload_n 2, 1) := by decide +kernel
theorem dX1_mixLines_29 : decode cX1_mixLines 29 = .ok (.iload 6, 2) := by decide +kernel
theorem dX1_mixLines_31 : decode cX1_mixLines 31 = .ok (.invokevirtual 67, 3) := by decide +kernel
theorem dX1_mixLines_34 : decode cX1_mixLines 34 = .ok (.iload 4, 2) := by decide +kernel
theorem dX1_mixLines_36 : decode cX1_mixLines 36 = .ok (.aload_n 0, 1) := by decide +kernel
theorem dX1_mixLines_37 : decode cX1_mixLines 37 = .ok (.iload 5, 2) := by decide +kernel
theorem dX1_mixLines_39 : decode cX1_mixLines 39 = .ok (.iload_n 1, 1) := by decide +kernel
theorem dX1_mixLines_40 : decode cX1_mixLines 40 = .ok (.iload_n 3, 1) := by decide +kernel
theorem dX1_mixLines_41 : decode cX1_mixLines 41 = .ok (.iload 6, 2) := by decide +kernel
theorem dX1_mixLines_43 : decode cX1_mixLines 43 = .ok (.invokevirtual 67, 3) := by decide +kernel
theorem dX1_mixLines_46 : decode cX1_mixLines 46 = .ok (.imul, 1) := by decide +kernel
theorem dX1_mixLines_47 : decode cX1_mixLines 47 = .ok (.iadd, 1) := by decide +kernel
theorem dX1_mixLines_48 : decode cX1_mixLines 48 = .ok (.istore 7, 2) := by decide +kernel
theorem dX1_mixLines_50 : decode cX1_mixLines 50 = .ok (.aload_n 0, 1) := by decide +kernel
theorem dX1_mixLines_51 : decode cX1_mixLines 51 = .ok (.iload 5, 2) := by decide +kernel
theorem dX1_mixLines_53 : decode cX1_mixLines 53 = .ok (.iload_n 1, 1) := by decide +kernel
theorem dX1_mixLines_54 : decode cX1_mixLines 54 = .ok (.iload_n 2, 1) := by decide +kernel
theorem dX1_mixLines_55 : decode cX1_mixLines 55 = .ok (.iload 6, 2) := by decide +kernel
theorem dX1_mixLines_57 : decode cX1_mixLines 57 = .ok (.iload 7, 2) := by decide +kernel
theorem dX1_mixLines_59 : decode cX1_mixLines 59 = .ok (.aload_n 0, 1) := by decide +kernel
theorem dX1_mixLines_60 : decode cX1_mixLines 60 = .ok (.getfield 15, 3) := by decide +kernel
theorem dX1_mixLines_63 : decode cX1_mixLines 63 = .ok (.invokestatic 71, 3) := by decide +kernel
theorem dX1_mixLines_66 : decode cX1_mixLines 66 = .ok (.invokevirtual 74, 3) := by decide +kernel
theorem dX1_mixLines_69 : decode cX1_mixLines 69 = .ok (.iinc 6 1, 3) := by decide +kernel
theorem dX1_mixLines_72 : decode cX1_mixLines 72 = .ok (.goto (-60), 3) := by decide +kernel
theorem dX1_mixLines_75 : decode cX1_mixLines 75 = .ok (.iinc 5 1, 3) := by decide +kernel
theorem dX1_mixLines_78 : decode cX1_mixLines 78 = .ok (.goto (-75), 3) := by decide +kernel
theorem dX1_mixLines_81 : decode cX1_mixLines 81 = .ok (.return_, 1) := by decide +kernel
theorem dX1_multiplyLine_0 : decode cX1_multiplyLine 0 = .ok (.iconst 0, 1) := by decide +kernel
theorem dX1_multiplyLine_1 : decode cX1_multiplyLine 1 = .ok (.istore 4, 2) := by decide +kernel
theorem dX1_multiplyLine_3 : decode cX1_multiplyLine 3 = .ok (.iload 4, 2) := by decide +kernel
theorem dX1_multiplyLine_5 : decode cX1_multiplyLine 5 = .ok (.iconst 2, 1) := by decide +kernel
theorem dX1_multiplyLine_6 : decode cX1_multiplyLine 6 = .ok (.if_icmp .ge 59, 3) := by decide +kernel
theorem dX1_multiplyLine_9 : decode cX1_multiplyLine 9 = .ok (.iconst 0, 1) := by decide +kernel
theorem dX1_multiplyLine_10 : decode cX1_multiplyLine 10 = .ok (.istore 5, 2) := by decide +kernel
theorem dX1_multiplyLine_12 : decode cX1_multiplyLine 12 = .ok (.iload 5, 2) := by decide +kernel
theorem dX1_multiplyLine_14 : decode cX1_multiplyLine 14 = .ok (.aload_n 0, 1) := by decide +kernel
theorem dX1_multiplyLine_15 : decode cX1_multiplyLine 15 = .ok (.iconst 1, 1) := by decide +kernel
theorem dX1_multiplyLine_16 : decode cX1_multiplyLine 16 = .ok (.iload_n 1, 1) := by decide +kernel
theorem dX1_multiplyLine_17 : decode cX1_multiplyLine 17 = .ok (.isub, 1) := by decide +kernel
theorem dX1_multiplyLine_18 : decode cX1_multiplyLine 18 = .ok (.invokevirtual 41, 3) := by decide +kernel
theorem dX1_multiplyLine_21 : decode cX1_multiplyLine 21 = .ok (.if_icmp .ge 38, 3) := by decide +kernel
theorem dX1_multiplyLine_24 : decode cX1_multiplyLine 24 = .ok (.aload_n 0, 1) := by decide +kernel
theorem dX1_multiplyLine_25 : decode cX1_multiplyLine 25 = .ok (.iload 4, 2) := by decide +kernel
theorem dX1_multiplyLine_27 : decode cX1_multiplyLine 27 = .ok (.iload_n 1, 1) := by decide +kernel
theorem dX1_multiplyLine_28 : decode cX1_multiplyLine 28 = .ok (.iload_n 2, 1) := by decide +kernel
theorem dX1_multiplyLine_29 : decode cX1_multiplyLine 29 = .ok (.iload 5, 2) := by decide +kernel
theorem dX1_multiplyLine_31 : decode cX1_multiplyLine 31 = .ok (.iload_n 3, 1) := by decide +kernel
theorem dX1_multiplyLine_32 : decode cX1_multiplyLine 32 = .ok (.aload_n 0, 1) := by decide +kernel
theorem dX1_multiplyLine_33 : decode cX1_multiplyLine 33 = .ok (.iload 4, 2) := by decide +kernel
theorem dX1_multiplyLine_35 : decode cX1_multiplyLine 35 = .ok (.iload_n 1, 1) := by decide +kernel
theorem dX1_multiplyLine_36 : decode cX1_multiplyLine 36 = .ok (.iload_n 2, 1) := by decide +kernel
theorem dX1_multiplyLine_37 : decode cX1_multiplyLine 37 = .ok (.iload 5, 2) := by decide +kernel
theorem dX1_multiplyLine_39 : decode cX1_multiplyLine 39 = .ok (.invokevirtual 67, 3) := by decide +kernel
theorem dX1_multiplyLine_42 : decode cX1_multiplyLine 42 = .ok (.imul, 1) := by decide +kernel
theorem dX1_multiplyLine_43 : decode cX1_multiplyLine 43 = .ok (.aload_n 0, 1) := by decide +kernel
theorem dX1_multiplyLine_44 : decode cX1_multiplyLine 44 = .ok (.getfield 15, 3) := by decide +kernel
theorem dX1_multiplyLine_47 : decode cX1_multiplyLine 47 = .ok (.invokestatic 71, 3) := by decide +kernel
theorem dX1_multiplyLine_50 : decode cX1_multiplyLine 50 = .ok (.invokevirtual 74, 3) := by decide +kernel
theorem dX1_multiplyLine_53 : decode cX1_multiplyLine 53 = .ok (.iinc 5 1, 3) := by decide +kernel
theorem dX1_multiplyLine_56 : decode cX1_multiplyLine 56 = .ok (.goto (-44), 3) := by decide +kernel
theorem dX1_multiplyLine_59 : decode cX1_multiplyLine 59 = .ok (.iinc 4 1, 3) := by decide +kernel
theorem dX1_multiplyLine_62 : decode cX1_multiplyLine 62 = .ok (.goto (-59), 3) := by decide +kernel
theorem dX1_multiplyLine_65 : decode cX1_multiplyLine 65 = .ok (.return_, 1) := by decide +kernel
theorem dX1_exchangeLines_0 : decode cX1_exchangeLines 0 = .ok (.iconst 0, 1) := by decide +kernel
theorem dX1_exchangeLines_1 : decode cX1_exchangeLines 1 = .ok (.istore 4, 2) := by decide +kernel
theorem dX1_exchangeLines_3 : decode cX1_exchangeLines 3 = .ok (.iload 4, 2) := by decide +kernel
theorem dX1_exchangeLines_5 : decode cX1_exchangeLines 5 = .ok (.iconst 2, 1) := by decide +kernel
theorem dX1_exchangeLines_6 : decode cX1_exchangeLines 6 = .ok (.if_icmp .ge 74, 3) := by decide +kernel
theorem dX1_exchangeLines_9 : decode cX1_exchangeLines 9 = .ok (.iconst 0, 1) := by decide +kernel
theorem dX1_exchangeLines_10 : decode cX1_exchangeLines 10 = .ok (.istore 5, 2) := by decide +kernel
theorem dX1_exchangeLines_12 : decode cX1_exchangeLines 12 = .ok (.iload 5, 2) := by decide +kernel
theorem dX1_exchangeLines_14 : decode cX1_exchangeLines 14 = .ok (.aload_n 0, 1) := by decide +kernel
theorem dX1_exchangeLines_15 : decode cX1_exchangeLines 15 = .ok (.iconst 1, 1) := by decide +kernel
theorem dX1_exchangeLines_16 : decode cX1_exchangeLines 16 = .ok (.iload_n 1, 1) := by decide +kernel
theorem dX1_exchangeLines_17 : decode cX1_exchangeLines 17 = .ok (.isub, 1) := by decide +kernel
theorem dX1_exchangeLines_18 : decode cX1_exchangeLines 18 = .ok (.invokevirtual 41, 3) := by decide +kernel
theorem dX1_exchangeLines_21 : decode cX1_exchangeLines 21 = .ok (.if_icmp .ge 53, 3) := by decide +kernel
theorem dX1_exchangeLines_24 : decode cX1_exchangeLines 24 = .ok (.aload_n 0, 1) := by decide +kernel
theorem dX1_exchangeLines_25 : decode cX1_exchangeLines 25 = .ok (.iload 4, 2) := by decide +kernel
theorem dX1_exchangeLines_27 : decode cX1_exchangeLines 27 = .ok (.iload_n 1, 1) := by decide +kernel
theorem dX1_exchangeLines_28 : decode cX1_exchangeLines 28 = .ok (.iload_n 2, 1) := by decide +kernel
theorem dX1_exchangeLines_29 : decode cX1_exchangeLines 29 = .ok (.iload 5, 2) := by decide +kernel
theorem dX1_exchangeLines_31 : decode cX1_exchangeLines 31 = .ok (.invokevirtual 67, 3) := by decide +kernel
theorem dX1_exchangeLines_34 : decode cX1_exchangeLines 34 = .ok (.istore 6, 2) := by decide +kernel
theorem dX1_exchangeLines_36 : decode cX1_exchangeLines 36 = .ok (.aload_n 0, 1) := by decide +kernel
theorem dX1_exchangeLines_37 : decode cX1_exchangeLines 37 = .ok (.iload 4, 2) := by decide +kernel
theorem dX1_exchangeLines_39 : decode cX1_exchangeLines 39 = .ok (.iload_n 1, 1) := by decide +kernel
theorem dX1_exchangeLines_40 : decode cX1_exchangeLines 40 = .ok (.iload_n 2, 1) := by decide +kernel
theorem dX1_exchangeLines_41 : decode cX1_exchangeLines 41 = .ok (.iload 5, 2) := by decide +kernel
theorem dX1_exchangeLines_43 : decode cX1_exchangeLines 43 = .ok (.aload_n 0, 1) := by decide +kernel
theorem dX1_exchangeLines_44 : decode cX1_exchangeLines 44 = .ok (.iload 4, 2) := by decide +kernel
theorem dX1_exchangeLines_46 : decode cX1_exchangeLines 46 = .ok (.iload_n 1, 1) := by decide +kernel
theorem dX1_exchangeLines_47 : decode cX1_exchangeLines 47 = .ok (.iload_n 3, 1) := by decide +kernel
theorem dX1_exchangeLines_48 : decode cX1_exchangeLines 48 = .ok (.iload 5, 2) := by decide +kernel
theorem dX1_exchangeLines_50 : decode cX1_exchangeLines 50 = .ok (.invokevirtual 67, 3) := by decide +kernel
theorem dX1_exchangeLines_53 : decode cX1_exchangeLines 53 = .ok (.invokevirtual 74, 3) := by decide +kernel
theorem dX1_exchangeLines_56 : decode cX1_exchangeLines 56 = .ok (.aload_n 0, 1) := by decide +kernel
theorem dX1_exchangeLines_57 : decode cX1_exchangeLines 57 = .ok (.iload 4, 2) := by decide +kernel
theorem dX1_exchangeLines_59 : decode cX1_exchangeLines 59 = .ok (.iload_n 1, 1) := by decide +kernel
theorem dX1_exchangeLines_60 : decode cX1_exchangeLines 60 = .ok (.iload_n 3, 1) := by decide +kernel
theorem dX1_exchangeLines_61 : decode cX1_exchangeLines 61 = .ok (.iload 5, 2) := by decide +kernel
theorem dX1_exchangeLines_63 : decode cX1_exchangeLines 63 = .ok (.iload 6, 2) := by decide +kernel
theorem dX1_exchangeLines_65 : decode cX1_exchangeLines 65 = .ok (.invokevirtual 74, 3) := by decide +kernel
theorem dX1_exchangeLines_68 : decode cX1_exchangeLines 68 = .ok (.iinc 5 1, 3) := by decide +kernel
theorem dX1_exchangeLines_71 : decode cX1_exchangeLines 71 = .ok (.goto (-59), 3) := by decide +kernel
theorem dX1_exchangeLines_74 : decode cX1_exchangeLines 74 = .ok (.iinc 4 1, 3) := by decide +kernel
theorem dX1_exchangeLines_77 : decode cX1_exchangeLines 77 = .ok (.goto (-74), 3) := by decide +kernel
theorem dX1_exchangeLines_80 : decode cX1_exchangeLines 80 = .ok (.return_, 1) := by decide +kernel
theorem dX1_exchangeTables_0 : decode cX1_exchangeTables 0 = .ok (.iconst 0, 1) := by decide +kernel
theorem dX1_exchangeTables_1 : decode cX1_exchangeTables 1 = .ok (.istore_n 1, 1) := by decide +kernel
theorem dX1_exchangeTables_2 : decode cX1_exchangeTables 2 = .ok (.iload_n 1, 1) := by decide +kernel
theorem dX1_exchangeTables_3 : decode cX1_exchangeTables 3 = .ok (.bipush 16, 2) := by decide +kernel
theorem dX1_exchangeTables_5 : decode cX1_exchangeTables 5 = .ok (.if_icmp .ge 18, 3) := by decide +kernel
theorem dX1_exchangeTables_8 : decode cX1_exchangeTables 8 = .ok (.aload_n 0, 1) := by decide +kernel
theorem dX1_exchangeTables_9 : decode cX1_exchangeTables 9 = .ok (.iload_n 1, 1) := by decide +kernel
theorem dX1_exchangeTables_10 : decode cX1_exchangeTables 10 = .ok (.bipush 16, 2) := by decide +kernel
theorem dX1_exchangeTables_12 : decode cX1_exchangeTables 12 = .ok (.iload_n 1, 1) := by decide +kernel
theorem dX1_exchangeTables_13 : decode cX1_exchangeTables 13 = .ok (.iadd, 1) := by decide +kernel
theorem dX1_exchangeTables_14 : decode cX1_exchangeTables 14 = .ok (.invokevirtual 78, 3) := by decide +kernel
theorem dX1_exchangeTables_17 : decode cX1_exchangeTables 17 = .ok (.iinc 1 1, 3) := by decide +kernel
theorem dX1_exchangeTables_20 : decode cX1_exchangeTables 20 = .ok (.goto (-18), 3) := by decide +kernel
theorem dX1_exchangeTables_23 : decode cX1_exchangeTables 23 = .ok (.return_, 1) := by decide +kernel
theorem dX1_flip_0 : decode cX1_flip 0 = .ok (.iconst 0, 1) := by decide +kernel
theorem dX1_flip_1 : decode cX1_flip 1 = .ok (.istore_n 1, 1) := by decide +kernel
theorem dX1_flip_2 : decode cX1_flip 2 = .ok (.iload_n 1, 1) := by decide +kernel
theorem dX1_flip_3 : decode cX1_flip 3 = .ok (.iconst 2, 1) := by decide +kernel
theorem dX1_flip_4 : decode cX1_flip 4 = .ok (.if_icmp .ge 51, 3) := by decide +kernel
theorem dX1_flip_7 : decode cX1_flip 7 = .ok (.iconst 0, 1) := by decide +kernel
theorem dX1_flip_8 : decode cX1_flip 8 = .ok (.istore_n 2, 1) := by decide +kernel
theorem dX1_flip_9 : decode cX1_flip 9 = .ok (.iload_n 2, 1) := by decide +kernel
theorem dX1_flip_10 : decode cX1_flip 10 = .ok (.iconst 4, 1) := by decide +kernel
theorem dX1_flip_11 : decode cX1_flip 11 = .ok (.if_icmp .ge 38, 3) := by decide +kernel
theorem dX1_flip_14 : decode cX1_flip 14 = .ok (.iconst 0, 1) := by decide +kernel
theorem dX1_flip_15 : decode cX1_flip 15 = .ok (.istore_n 3, 1) := by decide +kernel
theorem dX1_flip_16 : decode cX1_flip 16 = .ok (.iload_n 3, 1) := by decide +kernel
theorem dX1_flip_17 : decode cX1_flip 17 = .ok (.iload_n 2, 1) := by decide +kernel
theorem dX1_flip_18 : decode cX1_flip 18 = .ok (.if_icmp .ge 25, 3) := by decide +kernel
theorem dX1_flip_21 : decode cX1_flip 21 = .ok (.aload_n 0, 1) := by decide +kernel
theorem dX1_flip_22 : decode cX1_flip 22 = .ok (.iload_n 1, 1) := by decide +kernel
theorem dX1_flip_23 : decode cX1_flip 23 = .ok (.iload_n 2, 1) := by decide +kernel
theorem dX1_flip_24 : decode cX1_flip 24 = .ok (.iload_n 3, 1) := by decide +kernel
theorem dX1_flip_25 : decode cX1_flip 25 = .ok (.invokestatic 49, 3) := by decide +kernel
theorem dX1_flip_28 : decode cX1_flip 28 = .ok (.iload_n 1, 1) := by decide +kernel
theorem dX1_flip_29 : decode cX1_flip 29 = .ok (.iload_n 3, 1) := by decide +kernel
theorem dX1_flip_30 : decode cX1_flip 30 = .ok (.iload_n 2, 1) := by decide +kernel
theorem dX1_flip_31 : decode cX1_flip 31 = .ok (.invokestatic 49, 3) := by decide +kernel
theorem dX1_flip_34 : decode cX1_flip 34 = .ok (.invokevirtual 78, 3) := by decide +kernel
theorem dX1_flip_37 : decode cX1_flip 37 = .ok (.iinc 3 1, 3) := by decide +kernel
theorem dX1_flip_40 : decode cX1_flip 40 = .ok (.goto (-24), 3) := by decide +kernel
theorem dX1_flip_43 : decode cX1_flip 43 = .ok (.iinc 2 1, 3) := by decide +kernel
theorem dX1_flip_46 : decode cX1_flip 46 = .ok (.goto (-37), 3) := by decide +kernel
theorem dX1_flip_49 : decode cX1_flip 49 = .ok (.iinc 1 1, 3) := by decide +kernel
theorem dX1_flip_52 : decode cX1_flip 52 = .ok (.goto (-50), 3) := by decide +kernel
theorem dX1_flip_55 : decode cX1_flip 55 = .ok (.aload_n 0, 1) := by decide +kernel
theorem dX1_flip_56 : decode cX1_flip 56 = .ok (.getfield 25, 3) := by decide +kernel
theorem dX1_flip_59 : decode cX1_flip 59 = .ok (.istore_n 1, 1) := by decide +kernel
theorem dX1_flip_60 : decode cX1_flip 60 = .ok (.aload_n 0, 1) := by decide +kernel
theorem dX1_flip_61 : decode cX1_flip 61 = .ok (.aload_n 0, 1) := by decide +kernel
theorem dX1_flip_62 : decode cX1_flip 62 = .ok (.getfield 28, 3) := by decide +kernel
theorem dX1_flip_65 : decode cX1_flip 65 = .ok (.putfield 25, 3) := by decide +kernel
theorem dX1_flip_68 : decode cX1_flip 68 = .ok (.aload_n 0, 1) := by decide +kernel
theorem dX1_flip_69 : decode cX1_flip 69 = .ok (.iload_n 1, 1) := by decide +kernel
theorem dX1_flip_70 : decode cX1_flip 70 = .ok (.putfield 28, 3) := by decide +kernel
theorem dX1_flip_73 : decode cX1_flip 73 = .ok (.return_, 1) := by decide +kernel
theorem dX1_shift_0 : decode cX1_shift 0 = .ok (.iconst 0, 1) := by decide +kernel
theorem dX1_shift_1 : decode cX1_shift 1 = .ok (.istore_n 1, 1) := by decide +kernel
theorem dX1_shift_2 : decode cX1_shift 2 = .ok (.iload_n 1, 1) := by decide +kernel
theorem dX1_shift_3 : decode cX1_shift 3 = .ok (.bipush 16, 2) := by decide +kernel
theorem dX1_shift_5 : decode cX1_shift 5 = .ok (.if_icmp .ge 38, 3) := by decide +kernel
theorem dX1_shift_8 : decode cX1_shift 8 = .ok (.aload_n 0, 1) := by decide +kernel
theorem dX1_shift_9 : decode cX1_shift 9 = .ok (.getfield 11, 3) := by decide +kernel
theorem dX1_shift_12 : decode cX1_shift 12 = .ok (.iload_n 1, 1) := by decide +kernel
theorem dX1_shift_13 : decode cX1_shift 13 = .ok (.aload_n 0, 1) := by decide +kernel
theorem dX1_shift_14 : decode cX1_shift 14 = .ok (.getfield 11, 3) := by decide +kernel
theorem dX1_shift_17 : decode cX1_shift 17 = .ok (.iload_n 1, 1) := by decide +kernel
theorem dX1_shift_18 : decode cX1_shift 18 = .ok (.iaload, 1) := by decide +kernel
theorem dX1_shift_19 : decode cX1_shift 19 = .ok (.aload_n 0, 1) := by decide +kernel
theorem dX1_shift_20 : decode cX1_shift 20 = .ok (.getfield 11, 3) := by decide +kernel
theorem dX1_shift_23 : decode cX1_shift 23 = .ok (.bipush 16, 2) := by decide +kernel
theorem dX1_shift_25 : decode cX1_shift 25 = .ok (.iload_n 1, 1) := by decide +kernel
theorem dX1_shift_26 : decode cX1_shift 26 = .ok (.iadd, 1) := by decide +kernel
theorem dX1_shift_27 : decode cX1_shift 27 = .ok (.iaload, 1) := by decide +kernel
theorem dX1_shift_28 : decode cX1_shift 28 = .ok (.isub, 1) := by decide +kernel
theorem dX1_shift_29 : decode cX1_shift 29 = .ok (.aload_n 0, 1) := by decide +kernel
theorem dX1_shift_30 : decode cX1_shift 30 = .ok (.getfield 15, 3) := by decide +kernel
theorem dX1_shift_33 : decode cX1_shift 33 = .ok (.invokestatic 71, 3) := by decide +kernel
theorem dX1_shift_36 : decode cX1_shift 36 = .ok (.iastore, 1) := by decide +kernel
theorem dX1_shift_37 : decode cX1_shift 37 = .ok (.iinc 1 1, 3) := by decide +kernel
theorem dX1_shift_40 : decode cX1_shift 40 = .ok (.goto (-38), 3) := by decide +kernel
theorem dX1_shift_43 : decode cX1_shift 43 = .ok (.return_, 1) := by decide +kernel
theorem dX1_placesNotZero_0 : decode cX1_placesNotZero 0 = .ok (.iconst 0, 1) := by decide +kernel
theorem dX1_placesNotZero_1 : decode cX1_placesNotZero 1 = .ok (.istore_n 1, 1) := by decide +kernel
theorem dX1_placesNotZero_2 : decode cX1_placesNotZero 2 = .ok (.iconst 0, 1) := by decide +kernel
theorem dX1_placesNotZero_3 : decode cX1_placesNotZero 3 = .ok (.istore_n 2, 1) := by decide +kernel
theorem dX1_placesNotZero_4 : decode cX1_placesNotZero 4 = .ok (.iload_n 2, 1) := by decide +kernel
theorem dX1_placesNotZero_5 : decode cX1_placesNotZero 5 = .ok (.bipush 32, 2) := by decide +kernel
theorem dX1_placesNotZero_7 : decode cX1_placesNotZero 7 = .ok (.if_icmp .ge 21, 3) := by decide +kernel
theorem dX1_placesNotZero_10 : decode cX1_placesNotZero 10 = .ok (.aload_n 0, 1) := by decide +kernel
theorem dX1_placesNotZero_11 : decode cX1_placesNotZero 11 = .ok (.getfield 11, 3) := by decide +kernel
theorem dX1_placesNotZero_14 : decode cX1_placesNotZero 14 = .ok (.iload_n 2, 1) := by decide +kernel
theorem dX1_placesNotZero_15 : decode cX1_placesNotZero 15 = .ok (.iaload, 1) := by decide +kernel
theorem dX1_placesNotZero_16 : decode cX1_placesNotZero 16 = .ok (.ifCond .eq 6, 3) := by decide +kernel
theorem dX1_placesNotZero_19 : decode cX1_placesNotZero 19 = .ok (.iinc 1 1, 3) := by decide +kernel
theorem dX1_placesNotZero_22 : decode cX1_placesNotZero 22 = .ok (.iinc 2 1, 3) := by decide +kernel
theorem dX1_placesNotZero_25 : decode cX1_placesNotZero 25 = .ok (.goto (-21), 3) := by decide +kernel
theorem dX1_placesNotZero_28 : decode cX1_placesNotZero 28 = .ok (.iload_n 1, 1) := by decide +kernel
theorem dX1_placesNotZero_29 : decode cX1_placesNotZero 29 = .ok (.ireturn, 1) := by decide +kernel
theorem dX1_sumOf_0 : decode cX1_sumOf 0 = .ok (.iconst 0, 1) := by decide +kernel
theorem dX1_sumOf_1 : decode cX1_sumOf 1 = .ok (.istore_n 2, 1) := by decide +kernel
theorem dX1_sumOf_2 : decode cX1_sumOf 2 = .ok (.iconst 0, 1) := by decide +kernel
theorem dX1_sumOf_3 : decode cX1_sumOf 3 = .ok (.istore_n 3, 1) := by decide +kernel
theorem dX1_sumOf_4 : decode cX1_sumOf 4 = .ok (.iload_n 3, 1) := by decide +kernel
theorem dX1_sumOf_5 : decode cX1_sumOf 5 = .ok (.bipush 16, 2) := by decide +kernel
theorem dX1_sumOf_7 : decode cX1_sumOf 7 = .ok (.if_icmp .ge 23, 3) := by decide +kernel
theorem dX1_sumOf_10 : decode cX1_sumOf 10 = .ok (.iload_n 2, 1) := by decide +kernel
theorem dX1_sumOf_11 : decode cX1_sumOf 11 = .ok (.aload_n 0, 1) := by decide +kernel
theorem dX1_sumOf_12 : decode cX1_sumOf 12 = .ok (.getfield 11, 3) := by decide +kernel
theorem dX1_sumOf_15 : decode cX1_sumOf 15 = .ok (.iload_n 1, 1) := by decide +kernel
theorem dX1_sumOf_16 : decode cX1_sumOf 16 = .ok (.bipush 16, 2) := by decide +kernel
theorem dX1_sumOf_18 : decode cX1_sumOf 18 = .ok (.imul, 1) := by decide +kernel
theorem dX1_sumOf_19 : decode cX1_sumOf 19 = .ok (.iload_n 3, 1) := by decide +kernel
theorem dX1_sumOf_20 : decode cX1_sumOf 20 = .ok (.iadd, 1) := by decide +kernel
theorem dX1_sumOf_21 : decode cX1_sumOf 21 = .ok (.iaload, 1) := by decide +kernel
theorem dX1_sumOf_22 : decode cX1_sumOf 22 = .ok (.iadd, 1) := by decide +kernel
theorem dX1_sumOf_23 : decode cX1_sumOf 23 = .ok (.istore_n 2, 1) := by decide +kernel
theorem dX1_sumOf_24 : decode cX1_sumOf 24 = .ok (.iinc 3 1, 3) := by decide +kernel
theorem dX1_sumOf_27 : decode cX1_sumOf 27 = .ok (.goto (-23), 3) := by decide +kernel
theorem dX1_sumOf_30 : decode cX1_sumOf 30 = .ok (.iload_n 2, 1) := by decide +kernel
theorem dX1_sumOf_31 : decode cX1_sumOf 31 = .ok (.ireturn, 1) := by decide +kernel
theorem dX1_onLine_0 : decode cX1_onLine 0 = .ok (.iload_n 2, 1) := by decide +kernel
theorem dX1_onLine_1 : decode cX1_onLine 1 = .ok (.ifCond .ne 14, 3) := by decide +kernel
theorem dX1_onLine_4 : decode cX1_onLine 4 = .ok (.aload_n 0, 1) := by decide +kernel
theorem dX1_onLine_5 : decode cX1_onLine 5 = .ok (.iload_n 1, 1) := by decide +kernel
theorem dX1_onLine_6 : decode cX1_onLine 6 = .ok (.iload_n 3, 1) := by decide +kernel
theorem dX1_onLine_7 : decode cX1_onLine 7 = .ok (.iload 4, 2) := by decide +kernel
theorem dX1_onLine_9 : decode cX1_onLine 9 = .ok (.invokevirtual 81, 3) := by decide +kernel
theorem dX1_onLine_12 : decode cX1_onLine 12 = .ok (.goto 11, 3) := by decide +kernel
theorem dX1_onLine_15 : decode cX1_onLine 15 = .ok (.aload_n 0, 1) := by decide +kernel
theorem dX1_onLine_16 : decode cX1_onLine 16 = .ok (.iload_n 1, 1) := by decide +kernel
theorem dX1_onLine_17 : decode cX1_onLine 17 = .ok (.iload 4, 2) := by decide +kernel
theorem dX1_onLine_19 : decode cX1_onLine 19 = .ok (.iload_n 3, 1) := by decide +kernel
theorem dX1_onLine_20 : decode cX1_onLine 20 = .ok (.invokevirtual 81, 3) := by decide +kernel
theorem dX1_onLine_23 : decode cX1_onLine 23 = .ok (.ireturn, 1) := by decide +kernel
theorem dX1_putOnLine_0 : decode cX1_putOnLine 0 = .ok (.iload_n 2, 1) := by decide +kernel
theorem dX1_putOnLine_1 : decode cX1_putOnLine 1 = .ok (.ifCond .ne 16, 3) := by decide +kernel
theorem dX1_putOnLine_4 : decode cX1_putOnLine 4 = .ok (.aload_n 0, 1) := by decide +kernel
theorem dX1_putOnLine_5 : decode cX1_putOnLine 5 = .ok (.iload_n 1, 1) := by decide +kernel
theorem dX1_putOnLine_6 : decode cX1_putOnLine 6 = .ok (.iload_n 3, 1) := by decide +kernel
theorem dX1_putOnLine_7 : decode cX1_putOnLine 7 = .ok (.iload 4, 2) := by decide +kernel
theorem dX1_putOnLine_9 : decode cX1_putOnLine 9 = .ok (.iload 5, 2) := by decide +kernel
theorem dX1_putOnLine_11 : decode cX1_putOnLine 11 = .ok (.invokevirtual 63, 3) := by decide +kernel
theorem dX1_putOnLine_14 : decode cX1_putOnLine 14 = .ok (.goto 13, 3) := by decide +kernel
theorem dX1_putOnLine_17 : decode cX1_putOnLine 17 = .ok (.aload_n 0, 1) := by decide +kernel
theorem dX1_putOnLine_18 : decode cX1_putOnLine 18 = .ok (.iload_n 1, 1) := by decide +kernel
theorem dX1_putOnLine_19 : decode cX1_putOnLine 19 = .ok (.iload 4, 2) := by decide +kernel
theorem dX1_putOnLine_21 : decode cX1_putOnLine 21 = .ok (.iload_n 3, 1) := by decide +kernel
theorem dX1_putOnLine_22 : decode cX1_putOnLine 22 = .ok (.iload 5, 2) := by decide +kernel
theorem dX1_putOnLine_24 : decode cX1_putOnLine 24 = .ok (.invokevirtual 63, 3) := by decide +kernel
theorem dX1_putOnLine_27 : decode cX1_putOnLine 27 = .ok (.return_, 1) := by decide +kernel
theorem dX1_exchangeSpots_0 : decode cX1_exchangeSpots 0 = .ok (.aload_n 0, 1) := by decide +kernel
theorem dX1_exchangeSpots_1 : decode cX1_exchangeSpots 1 = .ok (.getfield 11, 3) := by decide +kernel
theorem dX1_exchangeSpots_4 : decode cX1_exchangeSpots 4 = .ok (.iload_n 1, 1) := by decide +kernel
theorem dX1_exchangeSpots_5 : decode cX1_exchangeSpots 5 = .ok (.iaload, 1) := by decide +kernel
theorem dX1_exchangeSpots_6 : decode cX1_exchangeSpots 6 = .ok (.istore_n 3, 1) := by decide +kernel
theorem dX1_exchangeSpots_7 : decode cX1_exchangeSpots 7 = .ok (.aload_n 0, 1) := by decide +kernel
theorem dX1_exchangeSpots_8 : decode cX1_exchangeSpots 8 = .ok (.getfield 11, 3) := by decide +kernel
theorem dX1_exchangeSpots_11 : decode cX1_exchangeSpots 11 = .ok (.iload_n 1, 1) := by decide +kernel
theorem dX1_exchangeSpots_12 : decode cX1_exchangeSpots 12 = .ok (.aload_n 0, 1) := by decide +kernel
theorem dX1_exchangeSpots_13 : decode cX1_exchangeSpots 13 = .ok (.getfield 11, 3) := by decide +kernel
theorem dX1_exchangeSpots_16 : decode cX1_exchangeSpots 16 = .ok (.iload_n 2, 1) := by decide +kernel
theorem dX1_exchangeSpots_17 : decode cX1_exchangeSpots 17 = .ok (.iaload, 1) := by decide +kernel
theorem dX1_exchangeSpots_18 : decode cX1_exchangeSpots 18 = .ok (.iastore, 1) := by decide +kernel
theorem dX1_exchangeSpots_19 : decode cX1_exchangeSpots 19 = .ok (.aload_n 0, 1) := by decide +kernel
theorem dX1_exchangeSpots_20 : decode cX1_exchangeSpots 20 = .ok (.getfield 11, 3) := by decide +kernel
theorem dX1_exchangeSpots_23 : decode cX1_exchangeSpots 23 = .ok (.iload_n 2, 1) := by decide +kernel
theorem dX1_exchangeSpots_24 : decode cX1_exchangeSpots 24 = .ok (.iload_n 3, 1) := by decide +kernel
theorem dX1_exchangeSpots_25 : decode cX1_exchangeSpots 25 = .ok (.iastore, 1) := by decide +kernel
theorem dX1_exchangeSpots_26 : decode cX1_exchangeSpots 26 = .ok (.return_, 1) := by decide +kernel
theorem dX1_spot_0 : decode cX1_spot 0 = .ok (.iload_n 0, 1) := by decide +kernel
theorem dX1_spot_1 : decode cX1_spot 1 = .ok (.bipush 16, 2) := by decide +kernel
theorem dX1_spot_3 : decode cX1_spot 3 = .ok (.imul, 1) := by decide +kernel
theorem dX1_spot_4 : decode cX1_spot 4 = .ok (.iload_n 1, 1) := by decide +kernel
theorem dX1_spot_5 : decode cX1_spot 5 = .ok (.iconst 4, 1) := by decide +kernel
theorem dX1_spot_6 : decode cX1_spot 6 = .ok (.imul, 1) := by decide +kernel
theorem dX1_spot_7 : decode cX1_spot 7 = .ok (.iadd, 1) := by decide +kernel
theorem dX1_spot_8 : decode cX1_spot 8 = .ok (.iload_n 2, 1) := by decide +kernel
theorem dX1_spot_9 : decode cX1_spot 9 = .ok (.iadd, 1) := by decide +kernel
theorem dX1_spot_10 : decode cX1_spot 10 = .ok (.ireturn, 1) := by decide +kernel
