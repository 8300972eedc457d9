theorem dX2_init_0 : decode cX2_init 0 = .ok (.aload_n 0, 1) := by decide +kernel
theorem dX2_init_1 : decode cX2_init 1 = .ok (.invokespecial 3, 3) := by decide +kernel
theorem dX2_init_4 : decode cX2_init 4 = .ok (.aload_n 0, 1) := by decide +kernel
theorem dX2_init_5 : decode cX2_init 5 = .ok (.bipush 40, 2) := by decide +kernel
theorem dX2_init_7 : decode cX2_init 7 = .ok (.newarray .int, 2) := by decide +kernel
theorem dX2_init_9 : decode cX2_init 9 = .ok (.putfield 9, 3) := by decide +kernel
theorem dX2_init_12 : decode cX2_init 12 = .ok (.aload_n 0, 1) := by decide +kernel
theorem dX2_init_13 : decode cX2_init 13 = .ok (.iconst (-1), 1) := by decide +kernel
theorem dX2_init_14 : decode cX2_init 14 = .ok (.putfield 15, 3) := by decide +kernel
theorem dX2_init_17 : decode cX2_init 17 = .ok (.return_, 1) := by decide +kernel
theorem dX2_isNothing_0 : decode cX2_isNothing 0 = .ok (.aload_n 0, 1) := by decide +kernel
theorem dX2_isNothing_1 : decode cX2_isNothing 1 = .ok (.getfield 15, 3) := by decide +kernel
theorem dX2_isNothing_4 : decode cX2_isNothing 4 = .ok (.iconst (-1), 1) := by decide +kernel
theorem dX2_isNothing_5 : decode cX2_isNothing 5 = .ok (.if_icmp .ne 7, 3) := by decide +kernel
theorem dX2_isNothing_8 : decode cX2_isNothing 8 = .ok (.iconst 1, 1) := by decide +kernel
theorem dX2_isNothing_9 : decode cX2_isNothing 9 = .ok (.goto 4, 3) := by decide +kernel
theorem dX2_isNothing_12 : decode cX2_isNothing 12 = .ok (.iconst 0, 1) := by decide +kernel
theorem dX2_isNothing_13 : decode cX2_isNothing 13 = .ok (.ireturn, 1) := by decide +kernel
theorem dX2_makeNew_0 : decode cX2_makeNew 0 = .ok (.aload_n 0, 1) := by decide +kernel
theorem dX2_makeNew_1 : decode cX2_makeNew 1 = .ok (.getfield 9, 3) := by decide +kernel
theorem dX2_makeNew_4 : decode cX2_makeNew 4 = .ok (.iconst 0, 1) := by decide +kernel
theorem dX2_makeNew_5 : decode cX2_makeNew 5 = .ok (.invokestatic 19, 3) := by decide +kernel
theorem dX2_makeNew_8 : decode cX2_makeNew 8 = .ok (.aload_n 0, 1) := by decide +kernel
theorem dX2_makeNew_9 : decode cX2_makeNew 9 = .ok (.iload_n 1, 1) := by decide +kernel
theorem dX2_makeNew_10 : decode cX2_makeNew 10 = .ok (.putfield 25, 3) := by decide +kernel
theorem dX2_makeNew_13 : decode cX2_makeNew 13 = .ok (.aload_n 0, 1) := by decide +kernel
theorem dX2_makeNew_14 : decode cX2_makeNew 14 = .ok (.iload_n 2, 1) := by decide +kernel
theorem dX2_makeNew_15 : decode cX2_makeNew 15 = .ok (.bipush 40, 2) := by decide +kernel
theorem dX2_makeNew_17 : decode cX2_makeNew 17 = .ok (.invokestatic 28, 3) := by decide +kernel
theorem dX2_makeNew_20 : decode cX2_makeNew 20 = .ok (.putfield 15, 3) := by decide +kernel
theorem dX2_makeNew_23 : decode cX2_makeNew 23 = .ok (.return_, 1) := by decide +kernel
theorem dX2_findAt_0 : decode cX2_findAt 0 = .ok (.aload_n 0, 1) := by decide +kernel
theorem dX2_findAt_1 : decode cX2_findAt 1 = .ok (.invokevirtual 34, 3) := by decide +kernel
theorem dX2_findAt_4 : decode cX2_findAt 4 = .ok (.ifCond .eq 5, 3) := by decide +kernel
theorem dX2_findAt_7 : decode cX2_findAt 7 = .ok (.iconst 1, 1) := by decide +kernel
theorem dX2_findAt_8 : decode cX2_findAt 8 = .ok (.ireturn, 1) := by decide +kernel
theorem dX2_findAt_9 : decode cX2_findAt 9 = .ok (.iload_n 1, 1) := by decide +kernel
theorem dX2_findAt_10 : decode cX2_findAt 10 = .ok (.ifCond .lt 11, 3) := by decide +kernel
theorem dX2_findAt_13 : decode cX2_findAt 13 = .ok (.iload_n 1, 1) := by decide +kernel
theorem dX2_findAt_14 : decode cX2_findAt 14 = .ok (.aload_n 0, 1) := by decide +kernel
theorem dX2_findAt_15 : decode cX2_findAt 15 = .ok (.getfield 15, 3) := by decide +kernel
theorem dX2_findAt_18 : decode cX2_findAt 18 = .ok (.if_icmp .lt 7, 3) := by decide +kernel
theorem dX2_findAt_21 : decode cX2_findAt 21 = .ok (.iconst 2, 1) := by decide +kernel
theorem dX2_findAt_22 : decode cX2_findAt 22 = .ok (.goto 4, 3) := by decide +kernel
theorem dX2_findAt_25 : decode cX2_findAt 25 = .ok (.iconst 0, 1) := by decide +kernel
theorem dX2_findAt_26 : decode cX2_findAt 26 = .ok (.ireturn, 1) := by decide +kernel
theorem dX2_findFour_0 : decode cX2_findFour 0 = .ok (.aload_n 0, 1) := by decide +kernel
theorem dX2_findFour_1 : decode cX2_findFour 1 = .ok (.invokevirtual 34, 3) := by decide +kernel
theorem dX2_findFour_4 : decode cX2_findFour 4 = .ok (.ifCond .eq 5, 3) := by decide +kernel
theorem dX2_findFour_7 : decode cX2_findFour 7 = .ok (.iconst 1, 1) := by decide +kernel
theorem dX2_findFour_8 : decode cX2_findFour 8 = .ok (.ireturn, 1) := by decide +kernel
theorem dX2_findFour_9 : decode cX2_findFour 9 = .ok (.iload_n 1, 1) := by decide +kernel
theorem dX2_findFour_10 : decode cX2_findFour 10 = .ok (.aload_n 0, 1) := by decide +kernel
theorem dX2_findFour_11 : decode cX2_findFour 11 = .ok (.getfield 25, 3) := by decide +kernel
theorem dX2_findFour_14 : decode cX2_findFour 14 = .ok (.if_icmp .eq 5, 3) := by decide +kernel
theorem dX2_findFour_17 : decode cX2_findFour 17 = .ok (.iconst 3, 1) := by decide +kernel
theorem dX2_findFour_18 : decode cX2_findFour 18 = .ok (.ireturn, 1) := by decide +kernel
theorem dX2_findFour_19 : decode cX2_findFour 19 = .ok (.iload_n 2, 1) := by decide +kernel
theorem dX2_findFour_20 : decode cX2_findFour 20 = .ok (.ifCond .lt 13, 3) := by decide +kernel
theorem dX2_findFour_23 : decode cX2_findFour 23 = .ok (.iload_n 2, 1) := by decide +kernel
theorem dX2_findFour_24 : decode cX2_findFour 24 = .ok (.aload_n 0, 1) := by decide +kernel
theorem dX2_findFour_25 : decode cX2_findFour 25 = .ok (.getfield 15, 3) := by decide +kernel
theorem dX2_findFour_28 : decode cX2_findFour 28 = .ok (.iconst 4, 1) := by decide +kernel
theorem dX2_findFour_29 : decode cX2_findFour 29 = .ok (.isub, 1) := by decide +kernel
theorem dX2_findFour_30 : decode cX2_findFour 30 = .ok (.if_icmp .le 7, 3) := by decide +kernel
theorem dX2_findFour_33 : decode cX2_findFour 33 = .ok (.iconst 2, 1) := by decide +kernel
theorem dX2_findFour_34 : decode cX2_findFour 34 = .ok (.goto 4, 3) := by decide +kernel
theorem dX2_findFour_37 : decode cX2_findFour 37 = .ok (.iconst 0, 1) := by decide +kernel
theorem dX2_findFour_38 : decode cX2_findFour 38 = .ok (.ireturn, 1) := by decide +kernel
theorem dX2_cellAt_0 : decode cX2_cellAt 0 = .ok (.aload_n 0, 1) := by decide +kernel
theorem dX2_cellAt_1 : decode cX2_cellAt 1 = .ok (.iload_n 1, 1) := by decide +kernel
theorem dX2_cellAt_2 : decode cX2_cellAt 2 = .ok (.invokevirtual 38, 3) := by decide +kernel
theorem dX2_cellAt_5 : decode cX2_cellAt 5 = .ok (.ifCond .ne 12, 3) := by decide +kernel
theorem dX2_cellAt_8 : decode cX2_cellAt 8 = .ok (.aload_n 0, 1) := by decide +kernel
theorem dX2_cellAt_9 : decode cX2_cellAt 9 = .ok (.getfield 9, 3) := by decide +kernel
theorem dX2_cellAt_12 : decode cX2_cellAt 12 = .ok (.iload_n 1, 1) := by decide +kernel
theorem dX2_cellAt_13 : decode cX2_cellAt 13 = .ok (.iaload, 1) := by decide +kernel
theorem dX2_cellAt_14 : decode cX2_cellAt 14 = .ok (.goto 4, 3) := by decide +kernel
theorem dX2_cellAt_17 : decode cX2_cellAt 17 = .ok (.iconst 0, 1) := by decide +kernel
theorem dX2_cellAt_18 : decode cX2_cellAt 18 = .ok (.ireturn, 1) := by decide +kernel
theorem dX2_putCell_0 : decode cX2_putCell 0 = .ok (.aload_n 0, 1) := by decide +kernel
theorem dX2_putCell_1 : decode cX2_putCell 1 = .ok (.iload_n 1, 1) := by decide +kernel
theorem dX2_putCell_2 : decode cX2_putCell 2 = .ok (.invokevirtual 38, 3) := by decide +kernel
theorem dX2_putCell_5 : decode cX2_putCell 5 = .ok (.ifCond .ne 35, 3) := by decide +kernel
theorem dX2_putCell_8 : decode cX2_putCell 8 = .ok (.aload_n 0, 1) := by decide +kernel
theorem dX2_putCell_9 : decode cX2_putCell 9 = .ok (.getfield 9, 3) := by decide +kernel
theorem dX2_putCell_12 : decode cX2_putCell 12 = .ok (.iload_n 1, 1) := by decide +kernel
theorem dX2_putCell_13 : decode cX2_putCell 13 = .ok (.aload_n 0, 1) := by decide +kernel
theorem dX2_putCell_14 : decode cX2_putCell 14 = .ok (.getfield 25, 3) := by decide +kernel
theorem dX2_putCell_17 : decode cX2_putCell 17 = .ok (.ifCond .ne 8, 3) := by decide +kernel
theorem dX2_putCell_20 : decode cX2_putCell 20 = .ok (.iload_n 2, 1) := by decide +kernel
theorem dX2_putCell_21 : decode cX2_putCell 21 = .ok (.i2b, 1) := by decide +kernel
theorem dX2_putCell_22 : decode cX2_putCell 22 = .ok (.goto 17, 3) := by decide +kernel
theorem dX2_putCell_25 : decode cX2_putCell 25 = .ok (.aload_n 0, 1) := by decide +kernel
theorem dX2_putCell_26 : decode cX2_putCell 26 = .ok (.getfield 25, 3) := by decide +kernel
theorem dX2_putCell_29 : decode cX2_putCell 29 = .ok (.iconst 1, 1) := by decide +kernel
theorem dX2_putCell_30 : decode cX2_putCell 30 = .ok (.if_icmp .ne 8, 3) := by decide +kernel
theorem dX2_putCell_33 : decode cX2_putCell 33 = .ok (.iload_n 2, 1) := by decide +kernel
theorem dX2_putCell_34 : decode cX2_putCell 34 = .ok (.i2s, 1) := by decide +kernel
theorem dX2_putCell_35 : decode cX2_putCell 35 = .ok (.goto 4, 3) := by decide +kernel
theorem dX2_putCell_38 : decode cX2_putCell 38 = .ok (.iload_n 2, 1) := by decide +kernel
theorem dX2_putCell_39 : decode cX2_putCell 39 = .ok (.iastore, 1) := by decide +kernel
theorem dX2_putCell_40 : decode cX2_putCell 40 = .ok (.return_, 1) := by decide +kernel
