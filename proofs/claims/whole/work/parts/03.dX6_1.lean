theorem dX6_isPlace_28 : decode cX6_isPlace 28 = .ok (.isub, 1) := by decide +kernel
theorem dX6_isPlace_29 : decode cX6_isPlace 29 = .ok (.i2l, 1) := by decide +kernel
theorem dX6_isPlace_30 : decode cX6_isPlace 30 = .ok (.invokestatic 64, 3) := by decide +kernel
theorem dX6_isPlace_33 : decode cX6_isPlace 33 = .ok (.ifCond .eq 7, 3) := by decide +kernel
theorem dX6_isPlace_36 : decode cX6_isPlace 36 = .ok (.iconst 1, 1) := by decide +kernel
theorem dX6_isPlace_37 : decode cX6_isPlace 37 = .ok (.goto 4, 3) := by decide +kernel
theorem dX6_isPlace_40 : decode cX6_isPlace 40 = .ok (.iconst 0, 1) := by decide +kernel
theorem dX6_isPlace_41 : decode cX6_isPlace 41 = .ok (.ireturn, 1) := by decide +kernel
theorem dX6_isX_0 : decode cX6_isX 0 = .ok (.iload_n 1, 1) := by decide +kernel
theorem dX6_isX_1 : decode cX6_isX 1 = .ok (.i2l, 1) := by decide +kernel
theorem dX6_isX_2 : decode cX6_isX 2 = .ok (.lconst 0, 1) := by decide +kernel
theorem dX6_isX_3 : decode cX6_isX 3 = .ok (.aload_n 0, 1) := by decide +kernel
theorem dX6_isX_4 : decode cX6_isX 4 = .ok (.getfield 7, 3) := by decide +kernel
theorem dX6_isX_7 : decode cX6_isX 7 = .ok (.iconst 0, 1) := by decide +kernel
theorem dX6_isX_8 : decode cX6_isX 8 = .ok (.iaload, 1) := by decide +kernel
theorem dX6_isX_9 : decode cX6_isX 9 = .ok (.i2l, 1) := by decide +kernel
theorem dX6_isX_10 : decode cX6_isX 10 = .ok (.invokestatic 64, 3) := by decide +kernel
theorem dX6_isX_13 : decode cX6_isX 13 = .ok (.ireturn, 1) := by decide +kernel
theorem dX6_isPart_0 : decode cX6_isPart 0 = .ok (.iload_n 0, 1) := by decide +kernel
theorem dX6_isPart_1 : decode cX6_isPart 1 = .ok (.i2l, 1) := by decide +kernel
theorem dX6_isPart_2 : decode cX6_isPart 2 = .ok (.lconst 0, 1) := by decide +kernel
theorem dX6_isPart_3 : decode cX6_isPart 3 = .ok (.lconst 1, 1) := by decide +kernel
theorem dX6_isPart_4 : decode cX6_isPart 4 = .ok (.invokestatic 64, 3) := by decide +kernel
theorem dX6_isPart_7 : decode cX6_isPart 7 = .ok (.ireturn, 1) := by decide +kernel
theorem dX6_of_0 : decode cX6_of 0 = .ok (.aload_n 0, 1) := by decide +kernel
theorem dX6_of_1 : decode cX6_of 1 = .ok (.getfield 7, 3) := by decide +kernel
theorem dX6_of_4 : decode cX6_of 4 = .ok (.iconst 3, 1) := by decide +kernel
theorem dX6_of_5 : decode cX6_of 5 = .ok (.bipush 16, 2) := by decide +kernel
theorem dX6_of_7 : decode cX6_of 7 = .ok (.iload_n 1, 1) := by decide +kernel
theorem dX6_of_8 : decode cX6_of 8 = .ok (.imul, 1) := by decide +kernel
theorem dX6_of_9 : decode cX6_of 9 = .ok (.iadd, 1) := by decide +kernel
theorem dX6_of_10 : decode cX6_of 10 = .ok (.iconst 4, 1) := by decide +kernel
theorem dX6_of_11 : decode cX6_of 11 = .ok (.iload_n 2, 1) := by decide +kernel
theorem dX6_of_12 : decode cX6_of 12 = .ok (.imul, 1) := by decide +kernel
theorem dX6_of_13 : decode cX6_of 13 = .ok (.iadd, 1) := by decide +kernel
theorem dX6_of_14 : decode cX6_of 14 = .ok (.iload_n 3, 1) := by decide +kernel
theorem dX6_of_15 : decode cX6_of 15 = .ok (.iadd, 1) := by decide +kernel
theorem dX6_of_16 : decode cX6_of 16 = .ok (.iaload, 1) := by decide +kernel
theorem dX6_of_17 : decode cX6_of 17 = .ok (.ireturn, 1) := by decide +kernel
theorem dX6_becomes_0 : decode cX6_becomes 0 = .ok (.aload_n 0, 1) := by decide +kernel
theorem dX6_becomes_1 : decode cX6_becomes 1 = .ok (.getfield 7, 3) := by decide +kernel
theorem dX6_becomes_4 : decode cX6_becomes 4 = .ok (.iconst 3, 1) := by decide +kernel
theorem dX6_becomes_5 : decode cX6_becomes 5 = .ok (.bipush 16, 2) := by decide +kernel
theorem dX6_becomes_7 : decode cX6_becomes 7 = .ok (.iload_n 1, 1) := by decide +kernel
theorem dX6_becomes_8 : decode cX6_becomes 8 = .ok (.imul, 1) := by decide +kernel
theorem dX6_becomes_9 : decode cX6_becomes 9 = .ok (.iadd, 1) := by decide +kernel
theorem dX6_becomes_10 : decode cX6_becomes 10 = .ok (.iconst 4, 1) := by decide +kernel
theorem dX6_becomes_11 : decode cX6_becomes 11 = .ok (.iload_n 2, 1) := by decide +kernel
theorem dX6_becomes_12 : decode cX6_becomes 12 = .ok (.imul, 1) := by decide +kernel
theorem dX6_becomes_13 : decode cX6_becomes 13 = .ok (.iadd, 1) := by decide +kernel
theorem dX6_becomes_14 : decode cX6_becomes 14 = .ok (.iload_n 3, 1) := by decide +kernel
theorem dX6_becomes_15 : decode cX6_becomes 15 = .ok (.iadd, 1) := by decide +kernel
theorem dX6_becomes_16 : decode cX6_becomes 16 = .ok (.iload 4, 2) := by decide +kernel
theorem dX6_becomes_18 : decode cX6_becomes 18 = .ok (.iastore, 1) := by decide +kernel
theorem dX6_becomes_19 : decode cX6_becomes 19 = .ok (.return_, 1) := by decide +kernel
theorem dX6_rowsNow_0 : decode cX6_rowsNow 0 = .ok (.aload_n 0, 1) := by decide +kernel
theorem dX6_rowsNow_1 : decode cX6_rowsNow 1 = .ok (.getfield 147, 3) := by decide +kernel
theorem dX6_rowsNow_4 : decode cX6_rowsNow 4 = .ok (.ifCond .eq 12, 3) := by decide +kernel
theorem dX6_rowsNow_7 : decode cX6_rowsNow 7 = .ok (.aload_n 0, 1) := by decide +kernel
theorem dX6_rowsNow_8 : decode cX6_rowsNow 8 = .ok (.getfield 7, 3) := by decide +kernel
theorem dX6_rowsNow_11 : decode cX6_rowsNow 11 = .ok (.iconst 2, 1) := by decide +kernel
theorem dX6_rowsNow_12 : decode cX6_rowsNow 12 = .ok (.iaload, 1) := by decide +kernel
theorem dX6_rowsNow_13 : decode cX6_rowsNow 13 = .ok (.goto 9, 3) := by decide +kernel
theorem dX6_rowsNow_16 : decode cX6_rowsNow 16 = .ok (.aload_n 0, 1) := by decide +kernel
theorem dX6_rowsNow_17 : decode cX6_rowsNow 17 = .ok (.getfield 7, 3) := by decide +kernel
theorem dX6_rowsNow_20 : decode cX6_rowsNow 20 = .ok (.iconst 1, 1) := by decide +kernel
theorem dX6_rowsNow_21 : decode cX6_rowsNow 21 = .ok (.iaload, 1) := by decide +kernel
theorem dX6_rowsNow_22 : decode cX6_rowsNow 22 = .ok (.ireturn, 1) := by decide +kernel
theorem dX6_columnsNow_0 : decode cX6_columnsNow 0 = .ok (.aload_n 0, 1) := by decide +kernel
theorem dX6_columnsNow_1 : decode cX6_columnsNow 1 = .ok (.getfield 147, 3) := by decide +kernel
theorem dX6_columnsNow_4 : decode cX6_columnsNow 4 = .ok (.ifCond .eq 12, 3) := by decide +kernel
theorem dX6_columnsNow_7 : decode cX6_columnsNow 7 = .ok (.aload_n 0, 1) := by decide +kernel
theorem dX6_columnsNow_8 : decode cX6_columnsNow 8 = .ok (.getfield 7, 3) := by decide +kernel
theorem dX6_columnsNow_11 : decode cX6_columnsNow 11 = .ok (.iconst 1, 1) := by decide +kernel
theorem dX6_columnsNow_12 : decode cX6_columnsNow 12 = .ok (.iaload, 1) := by decide +kernel
theorem dX6_columnsNow_13 : decode cX6_columnsNow 13 = .ok (.goto 9, 3) := by decide +kernel
theorem dX6_columnsNow_16 : decode cX6_columnsNow 16 = .ok (.aload_n 0, 1) := by decide +kernel
theorem dX6_columnsNow_17 : decode cX6_columnsNow 17 = .ok (.getfield 7, 3) := by decide +kernel
theorem dX6_columnsNow_20 : decode cX6_columnsNow 20 = .ok (.iconst 2, 1) := by decide +kernel
theorem dX6_columnsNow_21 : decode cX6_columnsNow 21 = .ok (.iaload, 1) := by decide +kernel
theorem dX6_columnsNow_22 : decode cX6_columnsNow 22 = .ok (.ireturn, 1) := by decide +kernel
theorem dX6_entry_0 : decode cX6_entry 0 = .ok (.aload_n 0, 1) := by decide +kernel
theorem dX6_entry_1 : decode cX6_entry 1 = .ok (.getfield 147, 3) := by decide +kernel
theorem dX6_entry_4 : decode cX6_entry 4 = .ok (.ifCond .eq 13, 3) := by decide +kernel
theorem dX6_entry_7 : decode cX6_entry 7 = .ok (.aload_n 0, 1) := by decide +kernel
theorem dX6_entry_8 : decode cX6_entry 8 = .ok (.iload_n 1, 1) := by decide +kernel
theorem dX6_entry_9 : decode cX6_entry 9 = .ok (.iload_n 3, 1) := by decide +kernel
theorem dX6_entry_10 : decode cX6_entry 10 = .ok (.iload_n 2, 1) := by decide +kernel
theorem dX6_entry_11 : decode cX6_entry 11 = .ok (.invokevirtual 150, 3) := by decide +kernel
theorem dX6_entry_14 : decode cX6_entry 14 = .ok (.goto 10, 3) := by decide +kernel
theorem dX6_entry_17 : decode cX6_entry 17 = .ok (.aload_n 0, 1) := by decide +kernel
theorem dX6_entry_18 : decode cX6_entry 18 = .ok (.iload_n 1, 1) := by decide +kernel
theorem dX6_entry_19 : decode cX6_entry 19 = .ok (.iload_n 2, 1) := by decide +kernel
theorem dX6_entry_20 : decode cX6_entry 20 = .ok (.iload_n 3, 1) := by decide +kernel
theorem dX6_entry_21 : decode cX6_entry 21 = .ok (.invokevirtual 150, 3) := by decide +kernel
theorem dX6_entry_24 : decode cX6_entry 24 = .ok (.ireturn, 1) := by decide +kernel
theorem dX6_modulo_0 : decode cX6_modulo 0 = .ok (.iload_n 1, 1) := by decide +kernel
theorem dX6_modulo_1 : decode cX6_modulo 1 = .ok (.aload_n 0, 1) := by decide +kernel
theorem dX6_modulo_2 : decode cX6_modulo 2 = .ok (.getfield 7, 3) := by decide +kernel
theorem dX6_modulo_5 : decode cX6_modulo 5 = .ok (.iconst 0, 1) := by decide +kernel
theorem dX6_modulo_6 : decode cX6_modulo 6 = .ok (.iaload, 1) := by decide +kernel
theorem dX6_modulo_7 : decode cX6_modulo 7 = .ok (.irem, 1) := by decide +kernel
theorem dX6_modulo_8 : decode cX6_modulo 8 = .ok (.aload_n 0, 1) := by decide +kernel
theorem dX6_modulo_9 : decode cX6_modulo 9 = .ok (.getfield 7, 3) := by decide +kernel
theorem dX6_modulo_12 : decode cX6_modulo 12 = .ok (.iconst 0, 1) := by decide +kernel
theorem dX6_modulo_13 : decode cX6_modulo 13 = .ok (.iaload, 1) := by decide +kernel
theorem dX6_modulo_14 : decode cX6_modulo 14 = .ok (.iadd, 1) := by decide +kernel
theorem dX6_modulo_15 : decode cX6_modulo 15 = .ok (.aload_n 0, 1) := by decide +kernel
theorem dX6_modulo_16 : decode cX6_modulo 16 = .ok (.getfield 7, 3) := by decide +kernel
theorem dX6_modulo_19 : decode cX6_modulo 19 = .ok (.iconst 0, 1) := by decide +kernel
theorem dX6_modulo_20 : decode cX6_modulo 20 = .ok (.iaload, 1) := by decide +kernel
theorem dX6_modulo_21 : decode cX6_modulo 21 = .ok (.irem, 1) := by decide +kernel
theorem dX6_modulo_22 : decode cX6_modulo 22 = .ok (.ireturn, 1) := by decide +kernel
theorem dX6_startsLarge_0 : decode cX6_startsLarge 0 = .ok (.aload_n 0, 1) := by decide +kernel
theorem dX6_startsLarge_1 : decode cX6_startsLarge 1 = .ok (.iload_n 1, 1) := by decide +kernel
theorem dX6_startsLarge_2 : decode cX6_startsLarge 2 = .ok (.aload_n 0, 1) := by decide +kernel
theorem dX6_startsLarge_3 : decode cX6_startsLarge 3 = .ok (.invokevirtual 154, 3) := by decide +kernel
theorem dX6_startsLarge_6 : decode cX6_startsLarge 6 = .ok (.imul, 1) := by decide +kernel
theorem dX6_startsLarge_7 : decode cX6_startsLarge 7 = .ok (.putfield 157, 3) := by decide +kernel
theorem dX6_startsLarge_10 : decode cX6_startsLarge 10 = .ok (.aload_n 0, 1) := by decide +kernel
theorem dX6_startsLarge_11 : decode cX6_startsLarge 11 = .ok (.iload_n 2, 1) := by decide +kernel
theorem dX6_startsLarge_12 : decode cX6_startsLarge 12 = .ok (.aload_n 0, 1) := by decide +kernel
theorem dX6_startsLarge_13 : decode cX6_startsLarge 13 = .ok (.invokevirtual 160, 3) := by decide +kernel
theorem dX6_startsLarge_16 : decode cX6_startsLarge 16 = .ok (.imul, 1) := by decide +kernel
theorem dX6_startsLarge_17 : decode cX6_startsLarge 17 = .ok (.putfield 163, 3) := by decide +kernel
theorem dX6_startsLarge_20 : decode cX6_startsLarge 20 = .ok (.iconst 0, 1) := by decide +kernel
theorem dX6_startsLarge_21 : decode cX6_startsLarge 21 = .ok (.istore_n 3, 1) := by decide +kernel
theorem dX6_startsLarge_22 : decode cX6_startsLarge 22 = .ok (.iload_n 3, 1) := by decide +kernel
theorem dX6_startsLarge_23 : decode cX6_startsLarge 23 = .ok (.sipush 504, 3) := by decide +kernel
theorem dX6_startsLarge_26 : decode cX6_startsLarge 26 = .ok (.if_icmp .ge 16, 3) := by decide +kernel
theorem dX6_startsLarge_29 : decode cX6_startsLarge 29 = .ok (.aload_n 0, 1) := by decide +kernel
theorem dX6_startsLarge_30 : decode cX6_startsLarge 30 = .ok (.getfield 26, 3) := by decide +kernel
theorem dX6_startsLarge_33 : decode cX6_startsLarge 33 = .ok (.iload_n 3, 1) := by decide +kernel
theorem dX6_startsLarge_34 : decode cX6_startsLarge 34 = .ok (.iconst 0, 1) := by decide +kernel
theorem dX6_startsLarge_35 : decode cX6_startsLarge 35 = .ok (.iastore, 1) := by decide +kernel
theorem dX6_startsLarge_36 : decode cX6_startsLarge 36 = .ok (.iinc 3 1, 3) := by decide +kernel
theorem dX6_startsLarge_39 : decode cX6_startsLarge 39 = .ok (.goto (-17), 3) := by decide +kernel
theorem dX6_startsLarge_42 : decode cX6_startsLarge 42 = .ok (.return_, 1) := by decide +kernel
theorem dX6_adds_0 : decode cX6_adds 0 = .ok (.iconst 0, 1) := by decide +kernel
theorem dX6_adds_1 : decode cX6_adds 1 = .ok (.istore 5, 2) := by decide +kernel
theorem dX6_adds_3 : decode cX6_adds 3 = .ok (.iload 5, 2) := by decide +kernel
theorem dX6_adds_5 : decode cX6_adds 5 = .ok (.aload_n 0, 1) := by decide +kernel
theorem dX6_adds_6 : decode cX6_adds 6 = .ok (.invokevirtual 154, 3) := by decide +kernel
theorem dX6_adds_9 : decode cX6_adds 9 = .ok (.if_icmp .ge 94, 3) := by decide +kernel
theorem dX6_adds_12 : decode cX6_adds 12 = .ok (.iconst 0, 1) := by decide +kernel
theorem dX6_adds_13 : decode cX6_adds 13 = .ok (.istore 6, 2) := by decide +kernel
theorem dX6_adds_15 : decode cX6_adds 15 = .ok (.iload 6, 2) := by decide +kernel
theorem dX6_adds_17 : decode cX6_adds 17 = .ok (.aload_n 0, 1) := by decide +kernel
theorem dX6_adds_18 : decode cX6_adds 18 = .ok (.invokevirtual 160, 3) := by decide +kernel
theorem dX6_adds_21 : decode cX6_adds 21 = .ok (.if_icmp .ge 76, 3) := by decide +kernel
theorem dX6_adds_24 : decode cX6_adds 24 = .ok (.bipush 21, 2) := by decide +kernel
theorem dX6_adds_26 : decode cX6_adds 26 = .ok (.iload_n 1, 1) := by decide +kernel
theorem dX6_adds_27 : decode cX6_adds 27 = .ok (.aload_n 0, 1) := by decide +kernel
theorem dX6_adds_28 : decode cX6_adds 28 = .ok (.invokevirtual 154, 3) := by decide +kernel
theorem dX6_adds_31 : decode cX6_adds 31 = .ok (.imul, 1) := by decide +kernel
theorem dX6_adds_32 : decode cX6_adds 32 = .ok (.iload 5, 2) := by decide +kernel
theorem dX6_adds_34 : decode cX6_adds 34 = .ok (.iadd, 1) := by decide +kernel
theorem dX6_adds_35 : decode cX6_adds 35 = .ok (.imul, 1) := by decide +kernel
theorem dX6_adds_36 : decode cX6_adds 36 = .ok (.iload_n 2, 1) := by decide +kernel
theorem dX6_adds_37 : decode cX6_adds 37 = .ok (.aload_n 0, 1) := by decide +kernel
theorem dX6_adds_38 : decode cX6_adds 38 = .ok (.invokevirtual 160, 3) := by decide +kernel
theorem dX6_adds_41 : decode cX6_adds 41 = .ok (.imul, 1) := by decide +kernel
theorem dX6_adds_42 : decode cX6_adds 42 = .ok (.iadd, 1) := by decide +kernel
theorem dX6_adds_43 : decode cX6_adds 43 = .ok (.iload 6, 2) := by decide +kernel
theorem dX6_adds_45 : decode cX6_adds 45 = .ok (.iadd, 1) := by decide +kernel
theorem dX6_adds_46 : decode cX6_adds 46 = .ok (.istore 7, 2) := by decide +kernel
theorem dX6_adds_48 : decode cX6_adds 48 = .ok (.aload_n 0, 1) := by decide +kernel
theorem dX6_adds_49 : decode cX6_adds 49 = .ok (.getfield 26, 3) := by decide +kernel
theorem dX6_adds_52 : decode cX6_adds 52 = .ok (.iload 7, 2) := by decide +kernel
theorem dX6_adds_54 : decode cX6_adds 54 = .ok (.aload_n 0, 1) := by decide +kernel
theorem dX6_adds_55 : decode cX6_adds 55 = .ok (.aload_n 0, 1) := by decide +kernel
theorem dX6_adds_56 : decode cX6_adds 56 = .ok (.getfield 26, 3) := by decide +kernel
theorem dX6_adds_59 : decode cX6_adds 59 = .ok (.iload 7, 2) := by decide +kernel
theorem dX6_adds_61 : decode cX6_adds 61 = .ok (.iaload, 1) := by decide +kernel
theorem dX6_adds_62 : decode cX6_adds 62 = .ok (.iload_n 3, 1) := by decide +kernel
theorem dX6_adds_63 : decode cX6_adds 63 = .ok (.aload_n 0, 1) := by decide +kernel
theorem dX6_adds_64 : decode cX6_adds 64 = .ok (.iconst 0, 1) := by decide +kernel
theorem dX6_adds_65 : decode cX6_adds 65 = .ok (.iload 5, 2) := by decide +kernel
theorem dX6_adds_67 : decode cX6_adds 67 = .ok (.iload 6, 2) := by decide +kernel
theorem dX6_adds_69 : decode cX6_adds 69 = .ok (.invokevirtual 166, 3) := by decide +kernel
theorem dX6_adds_72 : decode cX6_adds 72 = .ok (.imul, 1) := by decide +kernel
theorem dX6_adds_73 : decode cX6_adds 73 = .ok (.iadd, 1) := by decide +kernel
theorem dX6_adds_74 : decode cX6_adds 74 = .ok (.iload 4, 2) := by decide +kernel
theorem dX6_adds_76 : decode cX6_adds 76 = .ok (.aload_n 0, 1) := by decide +kernel
theorem dX6_adds_77 : decode cX6_adds 77 = .ok (.iconst 1, 1) := by decide +kernel
theorem dX6_adds_78 : decode cX6_adds 78 = .ok (.iload 5, 2) := by decide +kernel
theorem dX6_adds_80 : decode cX6_adds 80 = .ok (.iload 6, 2) := by decide +kernel
theorem dX6_adds_82 : decode cX6_adds 82 = .ok (.invokevirtual 166, 3) := by decide +kernel
theorem dX6_adds_85 : decode cX6_adds 85 = .ok (.imul, 1) := by decide +kernel
theorem dX6_adds_86 : decode cX6_adds 86 = .ok (.iadd, 1) := by decide +kernel
theorem dX6_adds_87 : decode cX6_adds 87 = .ok (.invokevirtual 169, 3) := by decide +kernel
theorem dX6_adds_90 : decode cX6_adds 90 = .ok (.iastore, 1) := by decide +kernel
theorem dX6_adds_91 : decode cX6_adds 91 = .ok (.iinc 6 1, 3) := by decide +kernel
theorem dX6_adds_94 : decode cX6_adds 94 = .ok (.goto (-79), 3) := by decide +kernel
theorem dX6_adds_97 : decode cX6_adds 97 = .ok (.iinc 5 1, 3) := by decide +kernel
theorem dX6_adds_100 : decode cX6_adds 100 = .ok (.goto (-97), 3) := by decide +kernel
theorem dX6_adds_103 : decode cX6_adds 103 = .ok (.return_, 1) := by decide +kernel
theorem dX6_inverse_0 : decode cX6_inverse 0 = .ok (.iconst 1, 1) := by decide +kernel
theorem dX6_inverse_1 : decode cX6_inverse 1 = .ok (.istore_n 2, 1) := by decide +kernel
theorem dX6_inverse_2 : decode cX6_inverse 2 = .ok (.iload_n 2, 1) := by decide +kernel
theorem dX6_inverse_3 : decode cX6_inverse 3 = .ok (.iload_n 1, 1) := by decide +kernel
theorem dX6_inverse_4 : decode cX6_inverse 4 = .ok (.imul, 1) := by decide +kernel
theorem dX6_inverse_5 : decode cX6_inverse 5 = .ok (.aload_n 0, 1) := by decide +kernel
theorem dX6_inverse_6 : decode cX6_inverse 6 = .ok (.getfield 7, 3) := by decide +kernel
theorem dX6_inverse_9 : decode cX6_inverse 9 = .ok (.iconst 0, 1) := by decide +kernel
theorem dX6_inverse_10 : decode cX6_inverse 10 = .ok (.iaload, 1) := by decide +kernel
theorem dX6_inverse_11 : decode cX6_inverse 11 = .ok (.irem, 1) := by decide +kernel
theorem dX6_inverse_12 : decode cX6_inverse 12 = .ok (.iconst 1, 1) := by decide +kernel
theorem dX6_inverse_13 : decode cX6_inverse 13 = .ok (.if_icmp .eq 9, 3) := by decide +kernel
theorem dX6_inverse_16 : decode cX6_inverse 16 = .ok (.iinc 2 1, 3) := by decide +kernel
theorem dX6_inverse_19 : decode cX6_inverse 19 = .ok (.goto (-17), 3) := by decide +kernel
theorem dX6_inverse_22 : decode cX6_inverse 22 = .ok (.iload_n 2, 1) := by decide +kernel
theorem dX6_inverse_23 : decode cX6_inverse 23 = .ok (.ireturn, 1) := by decide +kernel
theorem dX6_largeSwaps_0 : decode cX6_largeSwaps 0 = .ok (.iconst 0, 1) := by decide +kernel
theorem dX6_largeSwaps_1 : decode cX6_largeSwaps 1 = .ok (.istore_n 3, 1) := by decide +kernel
theorem dX6_largeSwaps_2 : decode cX6_largeSwaps 2 = .ok (.iload_n 3, 1) := by decide +kernel
theorem dX6_largeSwaps_3 : decode cX6_largeSwaps 3 = .ok (.bipush 21, 2) := by decide +kernel
theorem dX6_largeSwaps_5 : decode cX6_largeSwaps 5 = .ok (.if_icmp .ge 57, 3) := by decide +kernel
theorem dX6_largeSwaps_8 : decode cX6_largeSwaps 8 = .ok (.aload_n 0, 1) := by decide +kernel
theorem dX6_largeSwaps_9 : decode cX6_largeSwaps 9 = .ok (.getfield 26, 3) := by decide +kernel
theorem dX6_largeSwaps_12 : decode cX6_largeSwaps 12 = .ok (.bipush 21, 2) := by decide +kernel
theorem dX6_largeSwaps_14 : decode cX6_largeSwaps 14 = .ok (.iload_n 1, 1) := by decide +kernel
theorem dX6_largeSwaps_15 : decode cX6_largeSwaps 15 = .ok (.imul, 1) := by decide +kernel
theorem dX6_largeSwaps_16 : decode cX6_largeSwaps 16 = .ok (.iload_n 3, 1) := by decide +kernel
theorem dX6_largeSwaps_17 : decode cX6_largeSwaps 17 = .ok (.iadd, 1) := by decide +kernel
theorem dX6_largeSwaps_18 : decode cX6_largeSwaps 18 = .ok (.iaload, 1) := by decide +kernel
theorem dX6_largeSwaps_19 : decode cX6_largeSwaps 19 = .ok (.istore 4, 2) := by decide +kernel
theorem dX6_largeSwaps_21 : decode cX6_largeSwaps 21 = .ok (.aload_n 0, 1) := by decide +kernel
theorem dX6_largeSwaps_22 : decode cX6_largeSwaps 22 = .ok (.getfield 26, 3) := by decide +kernel
theorem dX6_largeSwaps_25 : decode cX6_largeSwaps 25 = .ok (.bipush 21, 2) := by decide +kernel
theorem dX6_largeSwaps_27 : decode cX6_largeSwaps 27 = .ok (.iload_n 1, 1) := by decide +kernel
theorem dX6_largeSwaps_28 : decode cX6_largeSwaps 28 = .ok (.imul, 1) := by decide +kernel
theorem dX6_largeSwaps_29 : decode cX6_largeSwaps 29 = .ok (.iload_n 3, 1) := by decide +kernel
theorem dX6_largeSwaps_30 : decode cX6_largeSwaps 30 = .ok (.iadd, 1) := by decide +kernel
theorem dX6_largeSwaps_31 : decode cX6_largeSwaps 31 = .ok (.aload_n 0, 1) := by decide +kernel
theorem dX6_largeSwaps_32 : decode cX6_largeSwaps 32 = .ok (.getfield 26, 3) := by decide +kernel
theorem dX6_largeSwaps_35 : decode cX6_largeSwaps 35 = .ok (.bipush 21, 2) := by decide +kernel
theorem dX6_largeSwaps_37 : decode cX6_largeSwaps 37 = .ok (.iload_n 2, 1) := by decide +kernel
theorem dX6_largeSwaps_38 : decode cX6_largeSwaps 38 = .ok (.imul, 1) := by decide +kernel
theorem dX6_largeSwaps_39 : decode cX6_largeSwaps 39 = .ok (.iload_n 3, 1) := by decide +kernel
theorem dX6_largeSwaps_40 : decode cX6_largeSwaps 40 = .ok (.iadd, 1) := by decide +kernel
theorem dX6_largeSwaps_41 : decode cX6_largeSwaps 41 = .ok (.iaload, 1) := by decide +kernel
theorem dX6_largeSwaps_42 : decode cX6_largeSwaps 42 = .ok (.iastore, 1) := by decide +kernel
theorem dX6_largeSwaps_43 : decode cX6_largeSwaps 43 = .ok (.aload_n 0, 1) := by decide +kernel
theorem dX6_largeSwaps_44 : decode cX6_largeSwaps 44 = .ok (.getfield 26, 3) := by decide +kernel
theorem dX6_largeSwaps_47 : decode cX6_largeSwaps 47 = .ok (.bipush 21, 2) := by decide +kernel
theorem dX6_largeSwaps_49 : decode cX6_largeSwaps 49 = .ok (.iload_n 2, 1) := by decide +kernel
theorem dX6_largeSwaps_50 : decode cX6_largeSwaps 50 = .ok (.imul, 1) := by decide +kernel
theorem dX6_largeSwaps_51 : decode cX6_largeSwaps 51 = .ok (.iload_n 3, 1) := by decide +kernel
theorem dX6_largeSwaps_52 : decode cX6_largeSwaps 52 = .ok (.iadd, 1) := by decide +kernel
theorem dX6_largeSwaps_53 : decode cX6_largeSwaps 53 = .ok (.iload 4, 2) := by decide +kernel
theorem dX6_largeSwaps_55 : decode cX6_largeSwaps 55 = .ok (.iastore, 1) := by decide +kernel
theorem dX6_largeSwaps_56 : decode cX6_largeSwaps 56 = .ok (.iinc 3 1, 3) := by decide +kernel
theorem dX6_largeSwaps_59 : decode cX6_largeSwaps 59 = .ok (.goto (-57), 3) := by decide +kernel
theorem dX6_largeSwaps_62 : decode cX6_largeSwaps 62 = .ok (.return_, 1) := by decide +kernel
theorem dX6_largeLoses_0 : decode cX6_largeLoses 0 = .ok (.iconst 0, 1) := by decide +kernel
theorem dX6_largeLoses_1 : decode cX6_largeLoses 1 = .ok (.istore 4, 2) := by decide +kernel
theorem dX6_largeLoses_3 : decode cX6_largeLoses 3 = .ok (.iload 4, 2) := by decide +kernel
theorem dX6_largeLoses_5 : decode cX6_largeLoses 5 = .ok (.bipush 21, 2) := by decide +kernel
theorem dX6_largeLoses_7 : decode cX6_largeLoses 7 = .ok (.if_icmp .ge 52, 3) := by decide +kernel
theorem dX6_largeLoses_10 : decode cX6_largeLoses 10 = .ok (.aload_n 0, 1) := by decide +kernel
theorem dX6_largeLoses_11 : decode cX6_largeLoses 11 = .ok (.getfield 26, 3) := by decide +kernel
theorem dX6_largeLoses_14 : decode cX6_largeLoses 14 = .ok (.bipush 21, 2) := by decide +kernel
theorem dX6_largeLoses_16 : decode cX6_largeLoses 16 = .ok (.iload_n 1, 1) := by decide +kernel
theorem dX6_largeLoses_17 : decode cX6_largeLoses 17 = .ok (.imul, 1) := by decide +kernel
theorem dX6_largeLoses_18 : decode cX6_largeLoses 18 = .ok (.iload 4, 2) := by decide +kernel
theorem dX6_largeLoses_20 : decode cX6_largeLoses 20 = .ok (.iadd, 1) := by decide +kernel
theorem dX6_largeLoses_21 : decode cX6_largeLoses 21 = .ok (.aload_n 0, 1) := by decide +kernel
theorem dX6_largeLoses_22 : decode cX6_largeLoses 22 = .ok (.aload_n 0, 1) := by decide +kernel
theorem dX6_largeLoses_23 : decode cX6_largeLoses 23 = .ok (.getfield 26, 3) := by decide +kernel
theorem dX6_largeLoses_26 : decode cX6_largeLoses 26 = .ok (.bipush 21, 2) := by decide +kernel
theorem dX6_largeLoses_28 : decode cX6_largeLoses 28 = .ok (.iload_n 1, 1) := by decide +kernel
theorem dX6_largeLoses_29 : decode cX6_largeLoses 29 = .ok (.imul, 1) := by decide +kernel
theorem dX6_largeLoses_30 : decode cX6_largeLoses 30 = .ok (.iload 4, 2) := by decide +kernel
theorem dX6_largeLoses_32 : decode cX6_largeLoses 32 = .ok (.iadd, 1) := by decide +kernel
theorem dX6_largeLoses_33 : decode cX6_largeLoses 33 = .ok (.iaload, 1) := by decide +kernel
theorem dX6_largeLoses_34 : decode cX6_largeLoses 34 = .ok (.iload_n 3, 1) := by decide +kernel
theorem dX6_largeLoses_35 : decode cX6_largeLoses 35 = .ok (.aload_n 0, 1) := by decide +kernel
theorem dX6_largeLoses_36 : decode cX6_largeLoses 36 = .ok (.getfield 26, 3) := by decide +kernel
theorem dX6_largeLoses_39 : decode cX6_largeLoses 39 = .ok (.bipush 21, 2) := by decide +kernel
theorem dX6_largeLoses_41 : decode cX6_largeLoses 41 = .ok (.iload_n 2, 1) := by decide +kernel
theorem dX6_largeLoses_42 : decode cX6_largeLoses 42 = .ok (.imul, 1) := by decide +kernel
theorem dX6_largeLoses_43 : decode cX6_largeLoses 43 = .ok (.iload 4, 2) := by decide +kernel
theorem dX6_largeLoses_45 : decode cX6_largeLoses 45 = .ok (.iadd, 1) := by decide +kernel
theorem dX6_largeLoses_46 : decode cX6_largeLoses 46 = .ok (.iaload, 1) := by decide +kernel
theorem dX6_largeLoses_47 : decode cX6_largeLoses 47 = .ok (.imul, 1) := by decide +kernel
theorem dX6_largeLoses_48 : decode cX6_largeLoses 48 = .ok (.isub, 1) := by decide +kernel
theorem dX6_largeLoses_49 : decode cX6_largeLoses 49 = .ok (.invokevirtual 169, 3) := by decide +kernel
theorem dX6_largeLoses_52 : decode cX6_largeLoses 52 = .ok (.iastore, 1) := by decide +kernel
theorem dX6_largeLoses_53 : decode cX6_largeLoses 53 = .ok (.iinc 4 1, 3) := by decide +kernel
theorem dX6_largeLoses_56 : decode cX6_largeLoses 56 = .ok (.goto (-53), 3) := by decide +kernel
theorem dX6_largeLoses_59 : decode cX6_largeLoses 59 = .ok (.return_, 1) := by decide +kernel
theorem dX6_pivotFor_0 : decode cX6_pivotFor 0 = .ok (.bipush (-4), 2) := by decide +kernel
theorem dX6_pivotFor_2 : decode cX6_pivotFor 2 = .ok (.istore_n 3, 1) := by decide +kernel
theorem dX6_pivotFor_3 : decode cX6_pivotFor 3 = .ok (.aload_n 0, 1) := by decide +kernel
theorem dX6_pivotFor_4 : decode cX6_pivotFor 4 = .ok (.getfield 157, 3) := by decide +kernel
theorem dX6_pivotFor_7 : decode cX6_pivotFor 7 = .ok (.iconst 1, 1) := by decide +kernel
theorem dX6_pivotFor_8 : decode cX6_pivotFor 8 = .ok (.isub, 1) := by decide +kernel
theorem dX6_pivotFor_9 : decode cX6_pivotFor 9 = .ok (.istore 4, 2) := by decide +kernel
theorem dX6_pivotFor_11 : decode cX6_pivotFor 11 = .ok (.iload 4, 2) := by decide +kernel
theorem dX6_pivotFor_13 : decode cX6_pivotFor 13 = .ok (.iload_n 1, 1) := by decide +kernel
theorem dX6_pivotFor_14 : decode cX6_pivotFor 14 = .ok (.if_icmp .lt 31, 3) := by decide +kernel
theorem dX6_pivotFor_17 : decode cX6_pivotFor 17 = .ok (.aload_n 0, 1) := by decide +kernel
theorem dX6_pivotFor_18 : decode cX6_pivotFor 18 = .ok (.getfield 26, 3) := by decide +kernel
theorem dX6_pivotFor_21 : decode cX6_pivotFor 21 = .ok (.bipush 21, 2) := by decide +kernel
theorem dX6_pivotFor_23 : decode cX6_pivotFor 23 = .ok (.iload 4, 2) := by decide +kernel
theorem dX6_pivotFor_25 : decode cX6_pivotFor 25 = .ok (.imul, 1) := by decide +kernel
theorem dX6_pivotFor_26 : decode cX6_pivotFor 26 = .ok (.iload_n 2, 1) := by decide +kernel
theorem dX6_pivotFor_27 : decode cX6_pivotFor 27 = .ok (.iadd, 1) := by decide +kernel
theorem dX6_pivotFor_28 : decode cX6_pivotFor 28 = .ok (.iaload, 1) := by decide +kernel
theorem dX6_pivotFor_29 : decode cX6_pivotFor 29 = .ok (.ifCond .eq 8, 3) := by decide +kernel
theorem dX6_pivotFor_32 : decode cX6_pivotFor 32 = .ok (.iload 4, 2) := by decide +kernel
theorem dX6_pivotFor_34 : decode cX6_pivotFor 34 = .ok (.goto 4, 3) := by decide +kernel
theorem dX6_pivotFor_37 : decode cX6_pivotFor 37 = .ok (.iload_n 3, 1) := by decide +kernel
theorem dX6_pivotFor_38 : decode cX6_pivotFor 38 = .ok (.istore_n 3, 1) := by decide +kernel
theorem dX6_pivotFor_39 : decode cX6_pivotFor 39 = .ok (.iinc 4 (-1), 3) := by decide +kernel
theorem dX6_pivotFor_42 : decode cX6_pivotFor 42 = .ok (.goto (-31), 3) := by decide +kernel
theorem dX6_pivotFor_45 : decode cX6_pivotFor 45 = .ok (.iload_n 3, 1) := by decide +kernel
theorem dX6_pivotFor_46 : decode cX6_pivotFor 46 = .ok (.ireturn, 1) := by decide +kernel
theorem dX6_rankOf_0 : decode cX6_rankOf 0 = .ok (.iconst 0, 1) := by decide +kernel
theorem dX6_rankOf_1 : decode cX6_rankOf 1 = .ok (.istore_n 2, 1) := by decide +kernel
theorem dX6_rankOf_2 : decode cX6_rankOf 2 = .ok (.iconst 0, 1) := by decide +kernel
theorem dX6_rankOf_3 : decode cX6_rankOf 3 = .ok (.istore_n 3, 1) := by decide +kernel
theorem dX6_rankOf_4 : decode cX6_rankOf 4 = .ok (.iload_n 3, 1) := by decide +kernel
theorem dX6_rankOf_5 : decode cX6_rankOf 5 = .ok (.iload_n 1, 1) := by decide +kernel
theorem dX6_rankOf_6 : decode cX6_rankOf 6 = .ok (.if_icmp .ge 100, 3) := by decide +kernel
theorem dX6_rankOf_9 : decode cX6_rankOf 9 = .ok (.aload_n 0, 1) := by decide +kernel
theorem dX6_rankOf_10 : decode cX6_rankOf 10 = .ok (.iload_n 2, 1) := by decide +kernel
theorem dX6_rankOf_11 : decode cX6_rankOf 11 = .ok (.iload_n 3, 1) := by decide +kernel
theorem dX6_rankOf_12 : decode cX6_rankOf 12 = .ok (.invokevirtual 172, 3) := by decide +kernel
theorem dX6_rankOf_15 : decode cX6_rankOf 15 = .ok (.istore 4, 2) := by decide +kernel
theorem dX6_rankOf_17 : decode cX6_rankOf 17 = .ok (.iload 4, 2) := by decide +kernel
theorem dX6_rankOf_19 : decode cX6_rankOf 19 = .ok (.bipush (-4), 2) := by decide +kernel
theorem dX6_rankOf_21 : decode cX6_rankOf 21 = .ok (.if_icmp .eq 79, 3) := by decide +kernel
theorem dX6_rankOf_24 : decode cX6_rankOf 24 = .ok (.aload_n 0, 1) := by decide +kernel
theorem dX6_rankOf_25 : decode cX6_rankOf 25 = .ok (.iload 4, 2) := by decide +kernel
theorem dX6_rankOf_27 : decode cX6_rankOf 27 = .ok (.iload_n 2, 1) := by decide +kernel
theorem dX6_rankOf_28 : decode cX6_rankOf 28 = .ok (.invokevirtual 175, 3) := by decide +kernel
theorem dX6_rankOf_31 : decode cX6_rankOf 31 = .ok (.aload_n 0, 1) := by decide +kernel
theorem dX6_rankOf_32 : decode cX6_rankOf 32 = .ok (.aload_n 0, 1) := by decide +kernel
theorem dX6_rankOf_33 : decode cX6_rankOf 33 = .ok (.getfield 26, 3) := by decide +kernel
theorem dX6_rankOf_36 : decode cX6_rankOf 36 = .ok (.bipush 21, 2) := by decide +kernel
theorem dX6_rankOf_38 : decode cX6_rankOf 38 = .ok (.iload_n 2, 1) := by decide +kernel
theorem dX6_rankOf_39 : decode cX6_rankOf 39 = .ok (.imul, 1) := by decide +kernel
theorem dX6_rankOf_40 : decode cX6_rankOf 40 = .ok (.iload_n 3, 1) := by decide +kernel
theorem dX6_rankOf_41 : decode cX6_rankOf 41 = .ok (.iadd, 1) := by decide +kernel
theorem dX6_rankOf_42 : decode cX6_rankOf 42 = .ok (.iaload, 1) := by decide +kernel
theorem dX6_rankOf_43 : decode cX6_rankOf 43 = .ok (.invokevirtual 179, 3) := by decide +kernel
theorem dX6_rankOf_46 : decode cX6_rankOf 46 = .ok (.istore 5, 2) := by decide +kernel
theorem dX6_rankOf_48 : decode cX6_rankOf 48 = .ok (.iload_n 2, 1) := by decide +kernel
theorem dX6_rankOf_49 : decode cX6_rankOf 49 = .ok (.iconst 1, 1) := by decide +kernel
theorem dX6_rankOf_50 : decode cX6_rankOf 50 = .ok (.iadd, 1) := by decide +kernel
theorem dX6_rankOf_51 : decode cX6_rankOf 51 = .ok (.istore 6, 2) := by decide +kernel
theorem dX6_rankOf_53 : decode cX6_rankOf 53 = .ok (.iload 6, 2) := by decide +kernel
theorem dX6_rankOf_55 : decode cX6_rankOf 55 = .ok (.aload_n 0, 1) := by decide +kernel
theorem dX6_rankOf_56 : decode cX6_rankOf 56 = .ok (.getfield 157, 3) := by decide +kernel
theorem dX6_rankOf_59 : decode cX6_rankOf 59 = .ok (.if_icmp .ge 38, 3) := by decide +kernel
theorem dX6_rankOf_62 : decode cX6_rankOf 62 = .ok (.aload_n 0, 1) := by decide +kernel
theorem dX6_rankOf_63 : decode cX6_rankOf 63 = .ok (.iload 6, 2) := by decide +kernel
theorem dX6_rankOf_65 : decode cX6_rankOf 65 = .ok (.iload_n 2, 1) := by decide +kernel
theorem dX6_rankOf_66 : decode cX6_rankOf 66 = .ok (.iload 5, 2) := by decide +kernel
theorem dX6_rankOf_68 : decode cX6_rankOf 68 = .ok (.aload_n 0, 1) := by decide +kernel
theorem dX6_rankOf_69 : decode cX6_rankOf 69 = .ok (.getfield 26, 3) := by decide +kernel
theorem dX6_rankOf_72 : decode cX6_rankOf 72 = .ok (.bipush 21, 2) := by decide +kernel
theorem dX6_rankOf_74 : decode cX6_rankOf 74 = .ok (.iload 6, 2) := by decide +kernel
theorem dX6_rankOf_76 : decode cX6_rankOf 76 = .ok (.imul, 1) := by decide +kernel
theorem dX6_rankOf_77 : decode cX6_rankOf 77 = .ok (.iload_n 3, 1) := by decide +kernel
theorem dX6_rankOf_78 : decode cX6_rankOf 78 = .ok (.iadd, 1) := by decide +kernel
theorem dX6_rankOf_79 : decode cX6_rankOf 79 = .ok (.iaload, 1) := by decide +kernel
theorem dX6_rankOf_80 : decode cX6_rankOf 80 = .ok (.imul, 1) := by decide +kernel
theorem dX6_rankOf_81 : decode cX6_rankOf 81 = .ok (.aload_n 0, 1) := by decide +kernel
theorem dX6_rankOf_82 : decode cX6_rankOf 82 = .ok (.getfield 7, 3) := by decide +kernel
theorem dX6_rankOf_85 : decode cX6_rankOf 85 = .ok (.iconst 0, 1) := by decide +kernel
theorem dX6_rankOf_86 : decode cX6_rankOf 86 = .ok (.iaload, 1) := by decide +kernel
theorem dX6_rankOf_87 : decode cX6_rankOf 87 = .ok (.irem, 1) := by decide +kernel
theorem dX6_rankOf_88 : decode cX6_rankOf 88 = .ok (.invokevirtual 182, 3) := by decide +kernel
theorem dX6_rankOf_91 : decode cX6_rankOf 91 = .ok (.iinc 6 1, 3) := by decide +kernel
theorem dX6_rankOf_94 : decode cX6_rankOf 94 = .ok (.goto (-41), 3) := by decide +kernel
theorem dX6_rankOf_97 : decode cX6_rankOf 97 = .ok (.iinc 2 1, 3) := by decide +kernel
theorem dX6_rankOf_100 : decode cX6_rankOf 100 = .ok (.iinc 3 1, 3) := by decide +kernel
theorem dX6_rankOf_103 : decode cX6_rankOf 103 = .ok (.goto (-99), 3) := by decide +kernel
theorem dX6_rankOf_106 : decode cX6_rankOf 106 = .ok (.iload_n 2, 1) := by decide +kernel
theorem dX6_rankOf_107 : decode cX6_rankOf 107 = .ok (.ireturn, 1) := by decide +kernel
theorem dX6_dimension_0 : decode cX6_dimension 0 = .ok (.aload_n 0, 1) := by decide +kernel
theorem dX6_dimension_1 : decode cX6_dimension 1 = .ok (.getfield 163, 3) := by decide +kernel
theorem dX6_dimension_4 : decode cX6_dimension 4 = .ok (.aload_n 0, 1) := by decide +kernel
theorem dX6_dimension_5 : decode cX6_dimension 5 = .ok (.aload_n 0, 1) := by decide +kernel
theorem dX6_dimension_6 : decode cX6_dimension 6 = .ok (.getfield 163, 3) := by decide +kernel
theorem dX6_dimension_9 : decode cX6_dimension 9 = .ok (.invokevirtual 185, 3) := by decide +kernel
theorem dX6_dimension_12 : decode cX6_dimension 12 = .ok (.isub, 1) := by decide +kernel
theorem dX6_dimension_13 : decode cX6_dimension 13 = .ok (.ireturn, 1) := by decide +kernel
theorem dX6_nullsOf_0 : decode cX6_nullsOf 0 = .ok (.iload_n 1, 1) := by decide +kernel
theorem dX6_nullsOf_1 : decode cX6_nullsOf 1 = .ok (.ifCond .ge 5, 3) := by decide +kernel
theorem dX6_nullsOf_4 : decode cX6_nullsOf 4 = .ok (.iconst 0, 1) := by decide +kernel
theorem dX6_nullsOf_5 : decode cX6_nullsOf 5 = .ok (.ireturn, 1) := by decide +kernel
theorem dX6_nullsOf_6 : decode cX6_nullsOf 6 = .ok (.aload_n 0, 1) := by decide +kernel
theorem dX6_nullsOf_7 : decode cX6_nullsOf 7 = .ok (.iload_n 1, 1) := by decide +kernel
theorem dX6_nullsOf_8 : decode cX6_nullsOf 8 = .ok (.iconst 2, 1) := by decide +kernel
theorem dX6_nullsOf_9 : decode cX6_nullsOf 9 = .ok (.iadd, 1) := by decide +kernel
theorem dX6_nullsOf_10 : decode cX6_nullsOf 10 = .ok (.iload_n 1, 1) := by decide +kernel
theorem dX6_nullsOf_11 : decode cX6_nullsOf 11 = .ok (.iconst 1, 1) := by decide +kernel
theorem dX6_nullsOf_12 : decode cX6_nullsOf 12 = .ok (.iadd, 1) := by decide +kernel
theorem dX6_nullsOf_13 : decode cX6_nullsOf 13 = .ok (.invokevirtual 188, 3) := by decide +kernel
theorem dX6_nullsOf_16 : decode cX6_nullsOf 16 = .ok (.iconst 0, 1) := by decide +kernel
theorem dX6_nullsOf_17 : decode cX6_nullsOf 17 = .ok (.istore_n 2, 1) := by decide +kernel
theorem dX6_nullsOf_18 : decode cX6_nullsOf 18 = .ok (.iload_n 2, 1) := by decide +kernel
theorem dX6_nullsOf_19 : decode cX6_nullsOf 19 = .ok (.iload_n 1, 1) := by decide +kernel
theorem dX6_nullsOf_20 : decode cX6_nullsOf 20 = .ok (.if_icmp .gt 36, 3) := by decide +kernel
theorem dX6_nullsOf_23 : decode cX6_nullsOf 23 = .ok (.aload_n 0, 1) := by decide +kernel
theorem dX6_nullsOf_24 : decode cX6_nullsOf 24 = .ok (.iload_n 2, 1) := by decide +kernel
theorem dX6_nullsOf_25 : decode cX6_nullsOf 25 = .ok (.iload_n 2, 1) := by decide +kernel
theorem dX6_nullsOf_26 : decode cX6_nullsOf 26 = .ok (.iconst 1, 1) := by decide +kernel
theorem dX6_nullsOf_27 : decode cX6_nullsOf 27 = .ok (.iconst 0, 1) := by decide +kernel
theorem dX6_nullsOf_28 : decode cX6_nullsOf 28 = .ok (.invokevirtual 191, 3) := by decide +kernel
theorem dX6_nullsOf_31 : decode cX6_nullsOf 31 = .ok (.aload_n 0, 1) := by decide +kernel
theorem dX6_nullsOf_32 : decode cX6_nullsOf 32 = .ok (.iload_n 2, 1) := by decide +kernel
theorem dX6_nullsOf_33 : decode cX6_nullsOf 33 = .ok (.iconst 1, 1) := by decide +kernel
theorem dX6_nullsOf_34 : decode cX6_nullsOf 34 = .ok (.iadd, 1) := by decide +kernel
theorem dX6_nullsOf_35 : decode cX6_nullsOf 35 = .ok (.iload_n 2, 1) := by decide +kernel
theorem dX6_nullsOf_36 : decode cX6_nullsOf 36 = .ok (.iconst 0, 1) := by decide +kernel
theorem dX6_nullsOf_37 : decode cX6_nullsOf 37 = .ok (.iload_n 2, 1) := by decide +kernel
theorem dX6_nullsOf_38 : decode cX6_nullsOf 38 = .ok (.iload_n 1, 1) := by decide +kernel
theorem dX6_nullsOf_39 : decode cX6_nullsOf 39 = .ok (.if_icmp .ne 7, 3) := by decide +kernel
theorem dX6_nullsOf_42 : decode cX6_nullsOf 42 = .ok (.iconst 1, 1) := by decide +kernel
theorem dX6_nullsOf_43 : decode cX6_nullsOf 43 = .ok (.goto 4, 3) := by decide +kernel
theorem dX6_nullsOf_46 : decode cX6_nullsOf 46 = .ok (.iconst (-1), 1) := by decide +kernel
theorem dX6_nullsOf_47 : decode cX6_nullsOf 47 = .ok (.invokevirtual 191, 3) := by decide +kernel
theorem dX6_nullsOf_50 : decode cX6_nullsOf 50 = .ok (.iinc 2 1, 3) := by decide +kernel
theorem dX6_nullsOf_53 : decode cX6_nullsOf 53 = .ok (.goto (-35), 3) := by decide +kernel
theorem dX6_nullsOf_56 : decode cX6_nullsOf 56 = .ok (.aload_n 0, 1) := by decide +kernel
theorem dX6_nullsOf_57 : decode cX6_nullsOf 57 = .ok (.invokevirtual 194, 3) := by decide +kernel
theorem dX6_nullsOf_60 : decode cX6_nullsOf 60 = .ok (.ireturn, 1) := by decide +kernel
theorem dX6_findIndices_0 : decode cX6_findIndices 0 = .ok (.iconst 0, 1) := by decide +kernel
theorem dX6_findIndices_1 : decode cX6_findIndices 1 = .ok (.istore_n 2, 1) := by decide +kernel
theorem dX6_findIndices_2 : decode cX6_findIndices 2 = .ok (.iconst 0, 1) := by decide +kernel
theorem dX6_findIndices_3 : decode cX6_findIndices 3 = .ok (.istore_n 3, 1) := by decide +kernel
theorem dX6_findIndices_4 : decode cX6_findIndices 4 = .ok (.iconst 0, 1) := by decide +kernel
theorem dX6_findIndices_5 : decode cX6_findIndices 5 = .ok (.istore 4, 2) := by decide +kernel
theorem dX6_findIndices_7 : decode cX6_findIndices 7 = .ok (.iload 4, 2) := by decide +kernel
theorem dX6_findIndices_9 : decode cX6_findIndices 9 = .ok (.iconst 4, 1) := by decide +kernel
theorem dX6_findIndices_10 : decode cX6_findIndices 10 = .ok (.if_icmp .gt 34, 3) := by decide +kernel
theorem dX6_findIndices_13 : decode cX6_findIndices 13 = .ok (.aload_n 0, 1) := by decide +kernel
theorem dX6_findIndices_14 : decode cX6_findIndices 14 = .ok (.iload 4, 2) := by decide +kernel
theorem dX6_findIndices_16 : decode cX6_findIndices 16 = .ok (.invokevirtual 197, 3) := by decide +kernel
theorem dX6_findIndices_19 : decode cX6_findIndices 19 = .ok (.istore 5, 2) := by decide +kernel
theorem dX6_findIndices_21 : decode cX6_findIndices 21 = .ok (.aload_n 1, 1) := by decide +kernel
theorem dX6_findIndices_22 : decode cX6_findIndices 22 = .ok (.iload 4, 2) := by decide +kernel
theorem dX6_findIndices_24 : decode cX6_findIndices 24 = .ok (.iload 5, 2) := by decide +kernel
theorem dX6_findIndices_26 : decode cX6_findIndices 26 = .ok (.iconst 2, 1) := by decide +kernel
theorem dX6_findIndices_27 : decode cX6_findIndices 27 = .ok (.iload_n 2, 1) := by decide +kernel
theorem dX6_findIndices_28 : decode cX6_findIndices 28 = .ok (.imul, 1) := by decide +kernel
theorem dX6_findIndices_29 : decode cX6_findIndices 29 = .ok (.isub, 1) := by decide +kernel
theorem dX6_findIndices_30 : decode cX6_findIndices 30 = .ok (.iload_n 3, 1) := by decide +kernel
theorem dX6_findIndices_31 : decode cX6_findIndices 31 = .ok (.iadd, 1) := by decide +kernel
theorem dX6_findIndices_32 : decode cX6_findIndices 32 = .ok (.iastore, 1) := by decide +kernel
theorem dX6_findIndices_33 : decode cX6_findIndices 33 = .ok (.iload_n 2, 1) := by decide +kernel
theorem dX6_findIndices_34 : decode cX6_findIndices 34 = .ok (.istore_n 3, 1) := by decide +kernel
theorem dX6_findIndices_35 : decode cX6_findIndices 35 = .ok (.iload 5, 2) := by decide +kernel
theorem dX6_findIndices_37 : decode cX6_findIndices 37 = .ok (.istore_n 2, 1) := by decide +kernel
theorem dX6_findIndices_38 : decode cX6_findIndices 38 = .ok (.iinc 4 1, 3) := by decide +kernel
theorem dX6_findIndices_41 : decode cX6_findIndices 41 = .ok (.goto (-34), 3) := by decide +kernel
theorem dX6_findIndices_44 : decode cX6_findIndices 44 = .ok (.return_, 1) := by decide +kernel
theorem dX6_findAllIndices_0 : decode cX6_findAllIndices 0 = .ok (.aload_n 0, 1) := by decide +kernel
theorem dX6_findAllIndices_1 : decode cX6_findAllIndices 1 = .ok (.iconst 0, 1) := by decide +kernel
theorem dX6_findAllIndices_2 : decode cX6_findAllIndices 2 = .ok (.putfield 147, 3) := by decide +kernel
theorem dX6_findAllIndices_5 : decode cX6_findAllIndices 5 = .ok (.aload_n 0, 1) := by decide +kernel
theorem dX6_findAllIndices_6 : decode cX6_findAllIndices 6 = .ok (.aload_n 0, 1) := by decide +kernel
theorem dX6_findAllIndices_7 : decode cX6_findAllIndices 7 = .ok (.getfield 29, 3) := by decide +kernel
theorem dX6_findAllIndices_10 : decode cX6_findAllIndices 10 = .ok (.invokevirtual 200, 3) := by decide +kernel
theorem dX6_findAllIndices_13 : decode cX6_findAllIndices 13 = .ok (.aload_n 0, 1) := by decide +kernel
theorem dX6_findAllIndices_14 : decode cX6_findAllIndices 14 = .ok (.iconst 1, 1) := by decide +kernel
theorem dX6_findAllIndices_15 : decode cX6_findAllIndices 15 = .ok (.putfield 147, 3) := by decide +kernel
theorem dX6_findAllIndices_18 : decode cX6_findAllIndices 18 = .ok (.aload_n 0, 1) := by decide +kernel
theorem dX6_findAllIndices_19 : decode cX6_findAllIndices 19 = .ok (.aload_n 0, 1) := by decide +kernel
theorem dX6_findAllIndices_20 : decode cX6_findAllIndices 20 = .ok (.getfield 32, 3) := by decide +kernel
theorem dX6_findAllIndices_23 : decode cX6_findAllIndices 23 = .ok (.invokevirtual 200, 3) := by decide +kernel
theorem dX6_findAllIndices_26 : decode cX6_findAllIndices 26 = .ok (.aload_n 0, 1) := by decide +kernel
theorem dX6_findAllIndices_27 : decode cX6_findAllIndices 27 = .ok (.iconst 0, 1) := by decide +kernel
theorem dX6_findAllIndices_28 : decode cX6_findAllIndices 28 = .ok (.putfield 147, 3) := by decide +kernel
theorem dX6_findAllIndices_31 : decode cX6_findAllIndices 31 = .ok (.return_, 1) := by decide +kernel
theorem dX6_manyOf_0 : decode cX6_manyOf 0 = .ok (.iconst 0, 1) := by decide +kernel
theorem dX6_manyOf_1 : decode cX6_manyOf 1 = .ok (.istore_n 1, 1) := by decide +kernel
theorem dX6_manyOf_2 : decode cX6_manyOf 2 = .ok (.iconst 0, 1) := by decide +kernel
theorem dX6_manyOf_3 : decode cX6_manyOf 3 = .ok (.istore_n 2, 1) := by decide +kernel
theorem dX6_manyOf_4 : decode cX6_manyOf 4 = .ok (.iload_n 2, 1) := by decide +kernel
theorem dX6_manyOf_5 : decode cX6_manyOf 5 = .ok (.iconst 4, 1) := by decide +kernel
theorem dX6_manyOf_6 : decode cX6_manyOf 6 = .ok (.if_icmp .gt 15, 3) := by decide +kernel
theorem dX6_manyOf_9 : decode cX6_manyOf 9 = .ok (.iload_n 1, 1) := by decide +kernel
theorem dX6_manyOf_10 : decode cX6_manyOf 10 = .ok (.aload_n 0, 1) := by decide +kernel
theorem dX6_manyOf_11 : decode cX6_manyOf 11 = .ok (.iload_n 2, 1) := by decide +kernel
theorem dX6_manyOf_12 : decode cX6_manyOf 12 = .ok (.iaload, 1) := by decide +kernel
theorem dX6_manyOf_13 : decode cX6_manyOf 13 = .ok (.iadd, 1) := by decide +kernel
theorem dX6_manyOf_14 : decode cX6_manyOf 14 = .ok (.istore_n 1, 1) := by decide +kernel
theorem dX6_manyOf_15 : decode cX6_manyOf 15 = .ok (.iinc 2 1, 3) := by decide +kernel
theorem dX6_manyOf_18 : decode cX6_manyOf 18 = .ok (.goto (-14), 3) := by decide +kernel
theorem dX6_manyOf_21 : decode cX6_manyOf 21 = .ok (.iload_n 1, 1) := by decide +kernel
theorem dX6_manyOf_22 : decode cX6_manyOf 22 = .ok (.ireturn, 1) := by decide +kernel
theorem dX6_indexAt_0 : decode cX6_indexAt 0 = .ok (.iload_n 1, 1) := by decide +kernel
theorem dX6_indexAt_1 : decode cX6_indexAt 1 = .ok (.istore_n 2, 1) := by decide +kernel
theorem dX6_indexAt_2 : decode cX6_indexAt 2 = .ok (.iconst 0, 1) := by decide +kernel
theorem dX6_indexAt_3 : decode cX6_indexAt 3 = .ok (.istore_n 3, 1) := by decide +kernel
theorem dX6_indexAt_4 : decode cX6_indexAt 4 = .ok (.iload_n 3, 1) := by decide +kernel
theorem dX6_indexAt_5 : decode cX6_indexAt 5 = .ok (.iconst 4, 1) := by decide +kernel
theorem dX6_indexAt_6 : decode cX6_indexAt 6 = .ok (.if_icmp .gt 24, 3) := by decide +kernel
theorem dX6_indexAt_9 : decode cX6_indexAt 9 = .ok (.iload_n 2, 1) := by decide +kernel
theorem dX6_indexAt_10 : decode cX6_indexAt 10 = .ok (.aload_n 0, 1) := by decide +kernel
theorem dX6_indexAt_11 : decode cX6_indexAt 11 = .ok (.iload_n 3, 1) := by decide +kernel
theorem dX6_indexAt_12 : decode cX6_indexAt 12 = .ok (.iaload, 1) := by decide +kernel
theorem dX6_indexAt_13 : decode cX6_indexAt 13 = .ok (.if_icmp .ge 5, 3) := by decide +kernel
theorem dX6_indexAt_16 : decode cX6_indexAt 16 = .ok (.iload_n 3, 1) := by decide +kernel
theorem dX6_indexAt_17 : decode cX6_indexAt 17 = .ok (.ireturn, 1) := by decide +kernel
theorem dX6_indexAt_18 : decode cX6_indexAt 18 = .ok (.iload_n 2, 1) := by decide +kernel
theorem dX6_indexAt_19 : decode cX6_indexAt 19 = .ok (.aload_n 0, 1) := by decide +kernel
theorem dX6_indexAt_20 : decode cX6_indexAt 20 = .ok (.iload_n 3, 1) := by decide +kernel
theorem dX6_indexAt_21 : decode cX6_indexAt 21 = .ok (.iaload, 1) := by decide +kernel
theorem dX6_indexAt_22 : decode cX6_indexAt 22 = .ok (.isub, 1) := by decide +kernel
theorem dX6_indexAt_23 : decode cX6_indexAt 23 = .ok (.istore_n 2, 1) := by decide +kernel
theorem dX6_indexAt_24 : decode cX6_indexAt 24 = .ok (.iinc 3 1, 3) := by decide +kernel
theorem dX6_indexAt_27 : decode cX6_indexAt 27 = .ok (.goto (-23), 3) := by decide +kernel
theorem dX6_indexAt_30 : decode cX6_indexAt 30 = .ok (.bipush (-4), 2) := by decide +kernel
theorem dX6_indexAt_32 : decode cX6_indexAt 32 = .ok (.ireturn, 1) := by decide +kernel
theorem dX6_addsAt_0 : decode cX6_addsAt 0 = .ok (.iload_n 3, 1) := by decide +kernel
theorem dX6_addsAt_1 : decode cX6_addsAt 1 = .ok (.aload_n 0, 1) := by decide +kernel
theorem dX6_addsAt_2 : decode cX6_addsAt 2 = .ok (.getfield 7, 3) := by decide +kernel
theorem dX6_addsAt_5 : decode cX6_addsAt 5 = .ok (.iconst 0, 1) := by decide +kernel
theorem dX6_addsAt_6 : decode cX6_addsAt 6 = .ok (.iaload, 1) := by decide +kernel
theorem dX6_addsAt_7 : decode cX6_addsAt 7 = .ok (.if_icmp .ne 7, 3) := by decide +kernel
theorem dX6_addsAt_10 : decode cX6_addsAt 10 = .ok (.iconst 1, 1) := by decide +kernel
theorem dX6_addsAt_11 : decode cX6_addsAt 11 = .ok (.goto 4, 3) := by decide +kernel
theorem dX6_addsAt_14 : decode cX6_addsAt 14 = .ok (.iconst 0, 1) := by decide +kernel
theorem dX6_addsAt_15 : decode cX6_addsAt 15 = .ok (.istore 4, 2) := by decide +kernel
theorem dX6_addsAt_17 : decode cX6_addsAt 17 = .ok (.aload_n 0, 1) := by decide +kernel
theorem dX6_addsAt_18 : decode cX6_addsAt 18 = .ok (.iload_n 1, 1) := by decide +kernel
theorem dX6_addsAt_19 : decode cX6_addsAt 19 = .ok (.iload_n 2, 1) := by decide +kernel
theorem dX6_addsAt_20 : decode cX6_addsAt 20 = .ok (.iload 4, 2) := by decide +kernel
theorem dX6_addsAt_22 : decode cX6_addsAt 22 = .ok (.ifCond .eq 7, 3) := by decide +kernel
theorem dX6_addsAt_25 : decode cX6_addsAt 25 = .ok (.iconst 0, 1) := by decide +kernel
theorem dX6_addsAt_26 : decode cX6_addsAt 26 = .ok (.goto 4, 3) := by decide +kernel
theorem dX6_addsAt_29 : decode cX6_addsAt 29 = .ok (.iconst 1, 1) := by decide +kernel
theorem dX6_addsAt_30 : decode cX6_addsAt 30 = .ok (.iload 4, 2) := by decide +kernel
theorem dX6_addsAt_32 : decode cX6_addsAt 32 = .ok (.ifCond .eq 7, 3) := by decide +kernel
theorem dX6_addsAt_35 : decode cX6_addsAt 35 = .ok (.iconst 1, 1) := by decide +kernel
theorem dX6_addsAt_36 : decode cX6_addsAt 36 = .ok (.goto 5, 3) := by decide +kernel
theorem dX6_addsAt_39 : decode cX6_addsAt 39 = .ok (.iload_n 3, 1) := by decide +kernel
theorem dX6_addsAt_40 : decode cX6_addsAt 40 = .ok (.ineg, 1) := by decide +kernel
theorem dX6_addsAt_41 : decode cX6_addsAt 41 = .ok (.invokevirtual 191, 3) := by decide +kernel
theorem dX6_addsAt_44 : decode cX6_addsAt 44 = .ok (.return_, 1) := by decide +kernel
theorem dX6_chainsOf_0 : decode cX6_chainsOf 0 = .ok (.iload_n 1, 1) := by decide +kernel
theorem dX6_chainsOf_1 : decode cX6_chainsOf 1 = .ok (.aload_n 0, 1) := by decide +kernel
theorem dX6_chainsOf_2 : decode cX6_chainsOf 2 = .ok (.getfield 7, 3) := by decide +kernel
theorem dX6_chainsOf_5 : decode cX6_chainsOf 5 = .ok (.iconst 0, 1) := by decide +kernel
theorem dX6_chainsOf_6 : decode cX6_chainsOf 6 = .ok (.iaload, 1) := by decide +kernel
theorem dX6_chainsOf_7 : decode cX6_chainsOf 7 = .ok (.if_icmp .ne 7, 3) := by decide +kernel
theorem dX6_chainsOf_10 : decode cX6_chainsOf 10 = .ok (.iconst 1, 1) := by decide +kernel
theorem dX6_chainsOf_11 : decode cX6_chainsOf 11 = .ok (.goto 4, 3) := by decide +kernel
theorem dX6_chainsOf_14 : decode cX6_chainsOf 14 = .ok (.iconst 0, 1) := by decide +kernel
theorem dX6_chainsOf_15 : decode cX6_chainsOf 15 = .ok (.istore_n 3, 1) := by decide +kernel
theorem dX6_chainsOf_16 : decode cX6_chainsOf 16 = .ok (.aload_n 0, 1) := by decide +kernel
theorem dX6_chainsOf_17 : decode cX6_chainsOf 17 = .ok (.iload_n 2, 1) := by decide +kernel
theorem dX6_chainsOf_18 : decode cX6_chainsOf 18 = .ok (.iload_n 2, 1) := by decide +kernel
theorem dX6_chainsOf_19 : decode cX6_chainsOf 19 = .ok (.invokevirtual 188, 3) := by decide +kernel
theorem dX6_chainsOf_22 : decode cX6_chainsOf 22 = .ok (.iconst 0, 1) := by decide +kernel
theorem dX6_chainsOf_23 : decode cX6_chainsOf 23 = .ok (.istore 4, 2) := by decide +kernel
theorem dX6_chainsOf_25 : decode cX6_chainsOf 25 = .ok (.iload 4, 2) := by decide +kernel
theorem dX6_chainsOf_27 : decode cX6_chainsOf 27 = .ok (.iload_n 2, 1) := by decide +kernel
theorem dX6_chainsOf_28 : decode cX6_chainsOf 28 = .ok (.if_icmp .ge 51, 3) := by decide +kernel
theorem dX6_chainsOf_31 : decode cX6_chainsOf 31 = .ok (.aload_n 0, 1) := by decide +kernel
theorem dX6_chainsOf_32 : decode cX6_chainsOf 32 = .ok (.iload 4, 2) := by decide +kernel
theorem dX6_chainsOf_34 : decode cX6_chainsOf 34 = .ok (.iload 4, 2) := by decide +kernel
theorem dX6_chainsOf_36 : decode cX6_chainsOf 36 = .ok (.iload_n 1, 1) := by decide +kernel
theorem dX6_chainsOf_37 : decode cX6_chainsOf 37 = .ok (.invokevirtual 204, 3) := by decide +kernel
theorem dX6_chainsOf_40 : decode cX6_chainsOf 40 = .ok (.iload 4, 2) := by decide +kernel
theorem dX6_chainsOf_42 : decode cX6_chainsOf 42 = .ok (.ifCond .le 31, 3) := by decide +kernel
theorem dX6_chainsOf_45 : decode cX6_chainsOf 45 = .ok (.aload_n 0, 1) := by decide +kernel
theorem dX6_chainsOf_46 : decode cX6_chainsOf 46 = .ok (.iload 4, 2) := by decide +kernel
theorem dX6_chainsOf_48 : decode cX6_chainsOf 48 = .ok (.iload 4, 2) := by decide +kernel
theorem dX6_chainsOf_50 : decode cX6_chainsOf 50 = .ok (.iconst 1, 1) := by decide +kernel
theorem dX6_chainsOf_51 : decode cX6_chainsOf 51 = .ok (.isub, 1) := by decide +kernel
theorem dX6_chainsOf_52 : decode cX6_chainsOf 52 = .ok (.iload_n 3, 1) := by decide +kernel
theorem dX6_chainsOf_53 : decode cX6_chainsOf 53 = .ok (.ifCond .eq 7, 3) := by decide +kernel
theorem dX6_chainsOf_56 : decode cX6_chainsOf 56 = .ok (.iconst (-1), 1) := by decide +kernel
theorem dX6_chainsOf_57 : decode cX6_chainsOf 57 = .ok (.goto 4, 3) := by decide +kernel
theorem dX6_chainsOf_60 : decode cX6_chainsOf 60 = .ok (.iconst 0, 1) := by decide +kernel
theorem dX6_chainsOf_61 : decode cX6_chainsOf 61 = .ok (.iload_n 3, 1) := by decide +kernel
theorem dX6_chainsOf_62 : decode cX6_chainsOf 62 = .ok (.ifCond .eq 7, 3) := by decide +kernel
theorem dX6_chainsOf_65 : decode cX6_chainsOf 65 = .ok (.iconst 0, 1) := by decide +kernel
theorem dX6_chainsOf_66 : decode cX6_chainsOf 66 = .ok (.goto 4, 3) := by decide +kernel
theorem dX6_chainsOf_69 : decode cX6_chainsOf 69 = .ok (.iconst (-1), 1) := by decide +kernel
theorem dX6_chainsOf_70 : decode cX6_chainsOf 70 = .ok (.invokevirtual 191, 3) := by decide +kernel
theorem dX6_chainsOf_73 : decode cX6_chainsOf 73 = .ok (.iinc 4 1, 3) := by decide +kernel
theorem dX6_chainsOf_76 : decode cX6_chainsOf 76 = .ok (.goto (-51), 3) := by decide +kernel
theorem dX6_chainsOf_79 : decode cX6_chainsOf 79 = .ok (.aload_n 0, 1) := by decide +kernel
theorem dX6_chainsOf_80 : decode cX6_chainsOf 80 = .ok (.invokevirtual 194, 3) := by decide +kernel
theorem dX6_chainsOf_83 : decode cX6_chainsOf 83 = .ok (.ireturn, 1) := by decide +kernel
theorem dX6_findLong_0 : decode cX6_findLong 0 = .ok (.aload_n 0, 1) := by decide +kernel
theorem dX6_findLong_1 : decode cX6_findLong 1 = .ok (.getfield 29, 3) := by decide +kernel
theorem dX6_findLong_4 : decode cX6_findLong 4 = .ok (.invokestatic 207, 3) := by decide +kernel
theorem dX6_findLong_7 : decode cX6_findLong 7 = .ok (.istore_n 2, 1) := by decide +kernel
theorem dX6_findLong_8 : decode cX6_findLong 8 = .ok (.iconst 0, 1) := by decide +kernel
theorem dX6_findLong_9 : decode cX6_findLong 9 = .ok (.istore_n 3, 1) := by decide +kernel
theorem dX6_findLong_10 : decode cX6_findLong 10 = .ok (.iconst 1, 1) := by decide +kernel
theorem dX6_findLong_11 : decode cX6_findLong 11 = .ok (.istore 4, 2) := by decide +kernel
theorem dX6_findLong_13 : decode cX6_findLong 13 = .ok (.iload 4, 2) := by decide +kernel
theorem dX6_findLong_15 : decode cX6_findLong 15 = .ok (.iconst 4, 1) := by decide +kernel
theorem dX6_findLong_16 : decode cX6_findLong 16 = .ok (.if_icmp .gt 34, 3) := by decide +kernel
theorem dX6_findLong_19 : decode cX6_findLong 19 = .ok (.aload_n 0, 1) := by decide +kernel
theorem dX6_findLong_20 : decode cX6_findLong 20 = .ok (.iload_n 1, 1) := by decide +kernel
theorem dX6_findLong_21 : decode cX6_findLong 21 = .ok (.iload 4, 2) := by decide +kernel
theorem dX6_findLong_23 : decode cX6_findLong 23 = .ok (.invokevirtual 211, 3) := by decide +kernel
theorem dX6_findLong_26 : decode cX6_findLong 26 = .ok (.istore 5, 2) := by decide +kernel
theorem dX6_findLong_28 : decode cX6_findLong 28 = .ok (.aload_n 0, 1) := by decide +kernel
theorem dX6_findLong_29 : decode cX6_findLong 29 = .ok (.getfield 35, 3) := by decide +kernel
theorem dX6_findLong_32 : decode cX6_findLong 32 = .ok (.iload 4, 2) := by decide +kernel
theorem dX6_findLong_34 : decode cX6_findLong 34 = .ok (.iload 5, 2) := by decide +kernel
theorem dX6_findLong_36 : decode cX6_findLong 36 = .ok (.iload_n 3, 1) := by decide +kernel
theorem dX6_findLong_37 : decode cX6_findLong 37 = .ok (.isub, 1) := by decide +kernel
theorem dX6_findLong_38 : decode cX6_findLong 38 = .ok (.iload_n 2, 1) := by decide +kernel
theorem dX6_findLong_39 : decode cX6_findLong 39 = .ok (.isub, 1) := by decide +kernel
theorem dX6_findLong_40 : decode cX6_findLong 40 = .ok (.iastore, 1) := by decide +kernel
theorem dX6_findLong_41 : decode cX6_findLong 41 = .ok (.iload 5, 2) := by decide +kernel
theorem dX6_findLong_43 : decode cX6_findLong 43 = .ok (.istore_n 3, 1) := by decide +kernel
theorem dX6_findLong_44 : decode cX6_findLong 44 = .ok (.iinc 4 1, 3) := by decide +kernel
theorem dX6_findLong_47 : decode cX6_findLong 47 = .ok (.goto (-34), 3) := by decide +kernel
theorem dX6_findLong_50 : decode cX6_findLong 50 = .ok (.return_, 1) := by decide +kernel
theorem dX6_lengthAt_0 : decode cX6_lengthAt 0 = .ok (.iconst 0, 1) := by decide +kernel
theorem dX6_lengthAt_1 : decode cX6_lengthAt 1 = .ok (.istore_n 2, 1) := by decide +kernel
theorem dX6_lengthAt_2 : decode cX6_lengthAt 2 = .ok (.iconst 1, 1) := by decide +kernel
theorem dX6_lengthAt_3 : decode cX6_lengthAt 3 = .ok (.istore_n 3, 1) := by decide +kernel
theorem dX6_lengthAt_4 : decode cX6_lengthAt 4 = .ok (.iload_n 3, 1) := by decide +kernel
theorem dX6_lengthAt_5 : decode cX6_lengthAt 5 = .ok (.iconst 4, 1) := by decide +kernel
theorem dX6_lengthAt_6 : decode cX6_lengthAt 6 = .ok (.if_icmp .gt 30, 3) := by decide +kernel
theorem dX6_lengthAt_9 : decode cX6_lengthAt 9 = .ok (.iload_n 2, 1) := by decide +kernel
theorem dX6_lengthAt_10 : decode cX6_lengthAt 10 = .ok (.aload_n 0, 1) := by decide +kernel
theorem dX6_lengthAt_11 : decode cX6_lengthAt 11 = .ok (.getfield 35, 3) := by decide +kernel
theorem dX6_lengthAt_14 : decode cX6_lengthAt 14 = .ok (.iload_n 3, 1) := by decide +kernel
theorem dX6_lengthAt_15 : decode cX6_lengthAt 15 = .ok (.iaload, 1) := by decide +kernel
theorem dX6_lengthAt_16 : decode cX6_lengthAt 16 = .ok (.iload_n 1, 1) := by decide +kernel
theorem dX6_lengthAt_17 : decode cX6_lengthAt 17 = .ok (.if_icmp .le 7, 3) := by decide +kernel
theorem dX6_lengthAt_20 : decode cX6_lengthAt 20 = .ok (.iconst 1, 1) := by decide +kernel
theorem dX6_lengthAt_21 : decode cX6_lengthAt 21 = .ok (.goto 4, 3) := by decide +kernel
theorem dX6_lengthAt_24 : decode cX6_lengthAt 24 = .ok (.iconst 0, 1) := by decide +kernel
theorem dX6_lengthAt_25 : decode cX6_lengthAt 25 = .ok (.invokestatic 214, 3) := by decide +kernel
theorem dX6_lengthAt_28 : decode cX6_lengthAt 28 = .ok (.iadd, 1) := by decide +kernel
theorem dX6_lengthAt_29 : decode cX6_lengthAt 29 = .ok (.istore_n 2, 1) := by decide +kernel
theorem dX6_lengthAt_30 : decode cX6_lengthAt 30 = .ok (.iinc 3 1, 3) := by decide +kernel
theorem dX6_lengthAt_33 : decode cX6_lengthAt 33 = .ok (.goto (-29), 3) := by decide +kernel
theorem dX6_lengthAt_36 : decode cX6_lengthAt 36 = .ok (.iload_n 2, 1) := by decide +kernel
theorem dX6_lengthAt_37 : decode cX6_lengthAt 37 = .ok (.ireturn, 1) := by decide +kernel
theorem dX6_lengthsAt_0 : decode cX6_lengthsAt 0 = .ok (.aload_n 0, 1) := by decide +kernel
theorem dX6_lengthsAt_1 : decode cX6_lengthsAt 1 = .ok (.iload_n 1, 1) := by decide +kernel
theorem dX6_lengthsAt_2 : decode cX6_lengthsAt 2 = .ok (.invokevirtual 218, 3) := by decide +kernel
theorem dX6_lengthsAt_5 : decode cX6_lengthsAt 5 = .ok (.aload_n 0, 1) := by decide +kernel
theorem dX6_lengthsAt_6 : decode cX6_lengthsAt 6 = .ok (.getfield 35, 3) := by decide +kernel
theorem dX6_lengthsAt_9 : decode cX6_lengthsAt 9 = .ok (.iconst 1, 1) := by decide +kernel
theorem dX6_lengthsAt_10 : decode cX6_lengthsAt 10 = .ok (.iaload, 1) := by decide +kernel
theorem dX6_lengthsAt_11 : decode cX6_lengthsAt 11 = .ok (.aload_n 0, 1) := by decide +kernel
theorem dX6_lengthsAt_12 : decode cX6_lengthsAt 12 = .ok (.getfield 35, 3) := by decide +kernel
theorem dX6_lengthsAt_15 : decode cX6_lengthsAt 15 = .ok (.iconst 2, 1) := by decide +kernel
theorem dX6_lengthsAt_16 : decode cX6_lengthsAt 16 = .ok (.iaload, 1) := by decide +kernel
theorem dX6_lengthsAt_17 : decode cX6_lengthsAt 17 = .ok (.iadd, 1) := by decide +kernel
theorem dX6_lengthsAt_18 : decode cX6_lengthsAt 18 = .ok (.aload_n 0, 1) := by decide +kernel
theorem dX6_lengthsAt_19 : decode cX6_lengthsAt 19 = .ok (.getfield 35, 3) := by decide +kernel
theorem dX6_lengthsAt_22 : decode cX6_lengthsAt 22 = .ok (.iconst 3, 1) := by decide +kernel
theorem dX6_lengthsAt_23 : decode cX6_lengthsAt 23 = .ok (.iaload, 1) := by decide +kernel
theorem dX6_lengthsAt_24 : decode cX6_lengthsAt 24 = .ok (.iadd, 1) := by decide +kernel
theorem dX6_lengthsAt_25 : decode cX6_lengthsAt 25 = .ok (.aload_n 0, 1) := by decide +kernel
theorem dX6_lengthsAt_26 : decode cX6_lengthsAt 26 = .ok (.getfield 35, 3) := by decide +kernel
theorem dX6_lengthsAt_29 : decode cX6_lengthsAt 29 = .ok (.iconst 4, 1) := by decide +kernel
theorem dX6_lengthsAt_30 : decode cX6_lengthsAt 30 = .ok (.iaload, 1) := by decide +kernel
theorem dX6_lengthsAt_31 : decode cX6_lengthsAt 31 = .ok (.iadd, 1) := by decide +kernel
theorem dX6_lengthsAt_32 : decode cX6_lengthsAt 32 = .ok (.ireturn, 1) := by decide +kernel
theorem dX6_lengthsBut_0 : decode cX6_lengthsBut 0 = .ok (.iconst 0, 1) := by decide +kernel
theorem dX6_lengthsBut_1 : decode cX6_lengthsBut 1 = .ok (.istore_n 1, 1) := by decide +kernel
theorem dX6_lengthsBut_2 : decode cX6_lengthsBut 2 = .ok (.iconst 0, 1) := by decide +kernel
theorem dX6_lengthsBut_3 : decode cX6_lengthsBut 3 = .ok (.istore_n 2, 1) := by decide +kernel
theorem dX6_lengthsBut_4 : decode cX6_lengthsBut 4 = .ok (.iload_n 2, 1) := by decide +kernel
theorem dX6_lengthsBut_5 : decode cX6_lengthsBut 5 = .ok (.aload_n 0, 1) := by decide +kernel
theorem dX6_lengthsBut_6 : decode cX6_lengthsBut 6 = .ok (.getfield 7, 3) := by decide +kernel
theorem dX6_lengthsBut_9 : decode cX6_lengthsBut 9 = .ok (.iconst 0, 1) := by decide +kernel
theorem dX6_lengthsBut_10 : decode cX6_lengthsBut 10 = .ok (.iaload, 1) := by decide +kernel
theorem dX6_lengthsBut_11 : decode cX6_lengthsBut 11 = .ok (.if_icmp .ge 17, 3) := by decide +kernel
theorem dX6_lengthsBut_14 : decode cX6_lengthsBut 14 = .ok (.iload_n 1, 1) := by decide +kernel
theorem dX6_lengthsBut_15 : decode cX6_lengthsBut 15 = .ok (.aload_n 0, 1) := by decide +kernel
theorem dX6_lengthsBut_16 : decode cX6_lengthsBut 16 = .ok (.iload_n 2, 1) := by decide +kernel
theorem dX6_lengthsBut_17 : decode cX6_lengthsBut 17 = .ok (.invokevirtual 221, 3) := by decide +kernel
theorem dX6_lengthsBut_20 : decode cX6_lengthsBut 20 = .ok (.iadd, 1) := by decide +kernel
theorem dX6_lengthsBut_21 : decode cX6_lengthsBut 21 = .ok (.istore_n 1, 1) := by decide +kernel
theorem dX6_lengthsBut_22 : decode cX6_lengthsBut 22 = .ok (.iinc 2 1, 3) := by decide +kernel
theorem dX6_lengthsBut_25 : decode cX6_lengthsBut 25 = .ok (.goto (-21), 3) := by decide +kernel
theorem dX6_lengthsBut_28 : decode cX6_lengthsBut 28 = .ok (.iload_n 1, 1) := by decide +kernel
theorem dX6_lengthsBut_29 : decode cX6_lengthsBut 29 = .ok (.ireturn, 1) := by decide +kernel
theorem dX6_rest_0 : decode cX6_rest 0 = .ok (.aload_n 0, 1) := by decide +kernel
theorem dX6_rest_1 : decode cX6_rest 1 = .ok (.getfield 7, 3) := by decide +kernel
theorem dX6_rest_4 : decode cX6_rest 4 = .ok (.iconst 2, 1) := by decide +kernel
theorem dX6_rest_5 : decode cX6_rest 5 = .ok (.iaload, 1) := by decide +kernel
theorem dX6_rest_6 : decode cX6_rest 6 = .ok (.aload_n 0, 1) := by decide +kernel
theorem dX6_rest_7 : decode cX6_rest 7 = .ok (.invokevirtual 224, 3) := by decide +kernel
theorem dX6_rest_10 : decode cX6_rest 10 = .ok (.isub, 1) := by decide +kernel
theorem dX6_rest_11 : decode cX6_rest 11 = .ok (.aload_n 0, 1) := by decide +kernel
theorem dX6_rest_12 : decode cX6_rest 12 = .ok (.aload_n 0, 1) := by decide +kernel
theorem dX6_rest_13 : decode cX6_rest 13 = .ok (.getfield 7, 3) := by decide +kernel
theorem dX6_rest_16 : decode cX6_rest 16 = .ok (.iconst 0, 1) := by decide +kernel
theorem dX6_rest_17 : decode cX6_rest 17 = .ok (.iaload, 1) := by decide +kernel
theorem dX6_rest_18 : decode cX6_rest 18 = .ok (.invokevirtual 221, 3) := by decide +kernel
theorem dX6_rest_21 : decode cX6_rest 21 = .ok (.isub, 1) := by decide +kernel
theorem dX6_rest_22 : decode cX6_rest 22 = .ok (.istore_n 1, 1) := by decide +kernel
theorem dX6_rest_23 : decode cX6_rest 23 = .ok (.iconst 0, 1) := by decide +kernel
theorem dX6_rest_24 : decode cX6_rest 24 = .ok (.istore_n 2, 1) := by decide +kernel
theorem dX6_rest_25 : decode cX6_rest 25 = .ok (.iload_n 2, 1) := by decide +kernel
theorem dX6_rest_26 : decode cX6_rest 26 = .ok (.iconst 4, 1) := by decide +kernel
theorem dX6_rest_27 : decode cX6_rest 27 = .ok (.if_icmp .gt 31, 3) := by decide +kernel
theorem dX6_rest_30 : decode cX6_rest 30 = .ok (.iload_n 1, 1) := by decide +kernel
theorem dX6_rest_31 : decode cX6_rest 31 = .ok (.iload_n 2, 1) := by decide +kernel
theorem dX6_rest_32 : decode cX6_rest 32 = .ok (.iconst 1, 1) := by decide +kernel
theorem dX6_rest_33 : decode cX6_rest 33 = .ok (.iadd, 1) := by decide +kernel
theorem dX6_rest_34 : decode cX6_rest 34 = .ok (.aload_n 0, 1) := by decide +kernel
theorem dX6_rest_35 : decode cX6_rest 35 = .ok (.getfield 29, 3) := by decide +kernel
theorem dX6_rest_38 : decode cX6_rest 38 = .ok (.iload_n 2, 1) := by decide +kernel
theorem dX6_rest_39 : decode cX6_rest 39 = .ok (.iaload, 1) := by decide +kernel
theorem dX6_rest_40 : decode cX6_rest 40 = .ok (.imul, 1) := by decide +kernel
theorem dX6_rest_41 : decode cX6_rest 41 = .ok (.iload_n 2, 1) := by decide +kernel
theorem dX6_rest_42 : decode cX6_rest 42 = .ok (.aload_n 0, 1) := by decide +kernel
theorem dX6_rest_43 : decode cX6_rest 43 = .ok (.getfield 32, 3) := by decide +kernel
theorem dX6_rest_46 : decode cX6_rest 46 = .ok (.iload_n 2, 1) := by decide +kernel
theorem dX6_rest_47 : decode cX6_rest 47 = .ok (.iaload, 1) := by decide +kernel
theorem dX6_rest_48 : decode cX6_rest 48 = .ok (.imul, 1) := by decide +kernel
theorem dX6_rest_49 : decode cX6_rest 49 = .ok (.iadd, 1) := by decide +kernel
theorem dX6_rest_50 : decode cX6_rest 50 = .ok (.isub, 1) := by decide +kernel
theorem dX6_rest_51 : decode cX6_rest 51 = .ok (.istore_n 1, 1) := by decide +kernel
theorem dX6_rest_52 : decode cX6_rest 52 = .ok (.iinc 2 1, 3) := by decide +kernel
theorem dX6_rest_55 : decode cX6_rest 55 = .ok (.goto (-30), 3) := by decide +kernel
theorem dX6_rest_58 : decode cX6_rest 58 = .ok (.iload_n 1, 1) := by decide +kernel
theorem dX6_rest_59 : decode cX6_rest 59 = .ok (.ireturn, 1) := by decide +kernel
theorem dX6_rule_0 : decode cX6_rule 0 = .ok (.aload_n 0, 1) := by decide +kernel
theorem dX6_rule_1 : decode cX6_rule 1 = .ok (.invokevirtual 227, 3) := by decide +kernel
theorem dX6_rule_4 : decode cX6_rule 4 = .ok (.iload_n 1, 1) := by decide +kernel
theorem dX6_rule_5 : decode cX6_rule 5 = .ok (.tableswitch 105 0 7 #[47, 54, 61, 68, 76, 84, 95, 100], 47) := by decide +kernel
theorem dX6_rule_52 : decode cX6_rule 52 = .ok (.aload_n 0, 1) := by decide +kernel
theorem dX6_rule_53 : decode cX6_rule 53 = .ok (.getfield 7, 3) := by decide +kernel
theorem dX6_rule_56 : decode cX6_rule 56 = .ok (.iconst 1, 1) := by decide +kernel
theorem dX6_rule_57 : decode cX6_rule 57 = .ok (.iaload, 1) := by decide +kernel
theorem dX6_rule_58 : decode cX6_rule 58 = .ok (.ireturn, 1) := by decide +kernel
theorem dX6_rule_59 : decode cX6_rule 59 = .ok (.aload_n 0, 1) := by decide +kernel
theorem dX6_rule_60 : decode cX6_rule 60 = .ok (.getfield 7, 3) := by decide +kernel
theorem dX6_rule_63 : decode cX6_rule 63 = .ok (.iconst 2, 1) := by decide +kernel
theorem dX6_rule_64 : decode cX6_rule 64 = .ok (.iaload, 1) := by decide +kernel
theorem dX6_rule_65 : decode cX6_rule 65 = .ok (.ireturn, 1) := by decide +kernel
theorem dX6_rule_66 : decode cX6_rule 66 = .ok (.aload_n 0, 1) := by decide +kernel
theorem dX6_rule_67 : decode cX6_rule 67 = .ok (.getfield 7, 3) := by decide +kernel
theorem dX6_rule_70 : decode cX6_rule 70 = .ok (.iconst 0, 1) := by decide +kernel
theorem dX6_rule_71 : decode cX6_rule 71 = .ok (.iaload, 1) := by decide +kernel
theorem dX6_rule_72 : decode cX6_rule 72 = .ok (.ireturn, 1) := by decide +kernel
theorem dX6_rule_73 : decode cX6_rule 73 = .ok (.aload_n 0, 1) := by decide +kernel
theorem dX6_rule_74 : decode cX6_rule 74 = .ok (.getfield 29, 3) := by decide +kernel
theorem dX6_rule_77 : decode cX6_rule 77 = .ok (.invokestatic 207, 3) := by decide +kernel
theorem dX6_rule_80 : decode cX6_rule 80 = .ok (.ireturn, 1) := by decide +kernel
theorem dX6_rule_81 : decode cX6_rule 81 = .ok (.aload_n 0, 1) := by decide +kernel
theorem dX6_rule_82 : decode cX6_rule 82 = .ok (.getfield 32, 3) := by decide +kernel
theorem dX6_rule_85 : decode cX6_rule 85 = .ok (.invokestatic 207, 3) := by decide +kernel
theorem dX6_rule_88 : decode cX6_rule 88 = .ok (.ireturn, 1) := by decide +kernel
theorem dX6_rule_89 : decode cX6_rule 89 = .ok (.aload_n 0, 1) := by decide +kernel
theorem dX6_rule_90 : decode cX6_rule 90 = .ok (.aload_n 0, 1) := by decide +kernel
theorem dX6_rule_91 : decode cX6_rule 91 = .ok (.getfield 7, 3) := by decide +kernel
theorem dX6_rule_94 : decode cX6_rule 94 = .ok (.iconst 0, 1) := by decide +kernel
theorem dX6_rule_95 : decode cX6_rule 95 = .ok (.iaload, 1) := by decide +kernel
theorem dX6_rule_96 : decode cX6_rule 96 = .ok (.invokevirtual 221, 3) := by decide +kernel
theorem dX6_rule_99 : decode cX6_rule 99 = .ok (.ireturn, 1) := by decide +kernel
theorem dX6_rule_100 : decode cX6_rule 100 = .ok (.aload_n 0, 1) := by decide +kernel
theorem dX6_rule_101 : decode cX6_rule 101 = .ok (.invokevirtual 224, 3) := by decide +kernel
theorem dX6_rule_104 : decode cX6_rule 104 = .ok (.ireturn, 1) := by decide +kernel
theorem dX6_rule_105 : decode cX6_rule 105 = .ok (.aload_n 0, 1) := by decide +kernel
theorem dX6_rule_106 : decode cX6_rule 106 = .ok (.invokevirtual 230, 3) := by decide +kernel
theorem dX6_rule_109 : decode cX6_rule 109 = .ok (.ireturn, 1) := by decide +kernel
theorem dX6_rule_110 : decode cX6_rule 110 = .ok (.iconst (-1), 1) := by decide +kernel
theorem dX6_rule_111 : decode cX6_rule 111 = .ok (.ireturn, 1) := by decide +kernel
theorem dX6_cell_0 : decode cX6_cell 0 = .ok (.aload_n 0, 1) := by decide +kernel
theorem dX6_cell_1 : decode cX6_cell 1 = .ok (.iload_n 1, 1) := by decide +kernel
theorem dX6_cell_2 : decode cX6_cell 2 = .ok (.invokevirtual 233, 3) := by decide +kernel
theorem dX6_cell_5 : decode cX6_cell 5 = .ok (.ifCond .eq 22, 3) := by decide +kernel
theorem dX6_cell_8 : decode cX6_cell 8 = .ok (.aload_n 0, 1) := by decide +kernel
theorem dX6_cell_9 : decode cX6_cell 9 = .ok (.iload_n 2, 1) := by decide +kernel
theorem dX6_cell_10 : decode cX6_cell 10 = .ok (.iload_n 3, 1) := by decide +kernel
theorem dX6_cell_11 : decode cX6_cell 11 = .ok (.invokevirtual 236, 3) := by decide +kernel
theorem dX6_cell_14 : decode cX6_cell 14 = .ok (.ifCond .eq 13, 3) := by decide +kernel
theorem dX6_cell_17 : decode cX6_cell 17 = .ok (.aload_n 0, 1) := by decide +kernel
theorem dX6_cell_18 : decode cX6_cell 18 = .ok (.iload_n 1, 1) := by decide +kernel
theorem dX6_cell_19 : decode cX6_cell 19 = .ok (.iload_n 2, 1) := by decide +kernel
theorem dX6_cell_20 : decode cX6_cell 20 = .ok (.iload_n 3, 1) := by decide +kernel
theorem dX6_cell_21 : decode cX6_cell 21 = .ok (.invokevirtual 150, 3) := by decide +kernel
theorem dX6_cell_24 : decode cX6_cell 24 = .ok (.goto 4, 3) := by decide +kernel
theorem dX6_cell_27 : decode cX6_cell 27 = .ok (.iconst (-1), 1) := by decide +kernel
theorem dX6_cell_28 : decode cX6_cell 28 = .ok (.ireturn, 1) := by decide +kernel
theorem dX6_rank_0 : decode cX6_rank 0 = .ok (.aload_n 0, 1) := by decide +kernel
theorem dX6_rank_1 : decode cX6_rank 1 = .ok (.iload_n 1, 1) := by decide +kernel
theorem dX6_rank_2 : decode cX6_rank 2 = .ok (.invokevirtual 240, 3) := by decide +kernel
theorem dX6_rank_5 : decode cX6_rank 5 = .ok (.ifCond .ne 5, 3) := by decide +kernel
theorem dX6_rank_8 : decode cX6_rank 8 = .ok (.iconst (-1), 1) := by decide +kernel
theorem dX6_rank_9 : decode cX6_rank 9 = .ok (.ireturn, 1) := by decide +kernel
theorem dX6_rank_10 : decode cX6_rank 10 = .ok (.aload_n 0, 1) := by decide +kernel
theorem dX6_rank_11 : decode cX6_rank 11 = .ok (.iconst 1, 1) := by decide +kernel
theorem dX6_rank_12 : decode cX6_rank 12 = .ok (.iconst 1, 1) := by decide +kernel
theorem dX6_rank_13 : decode cX6_rank 13 = .ok (.invokevirtual 188, 3) := by decide +kernel
theorem dX6_rank_16 : decode cX6_rank 16 = .ok (.aload_n 0, 1) := by decide +kernel
theorem dX6_rank_17 : decode cX6_rank 17 = .ok (.iconst 0, 1) := by decide +kernel
theorem dX6_rank_18 : decode cX6_rank 18 = .ok (.iconst 0, 1) := by decide +kernel
theorem dX6_rank_19 : decode cX6_rank 19 = .ok (.iload_n 1, 1) := by decide +kernel
theorem dX6_rank_20 : decode cX6_rank 20 = .ok (.invokevirtual 204, 3) := by decide +kernel
theorem dX6_rank_23 : decode cX6_rank 23 = .ok (.aload_n 0, 1) := by decide +kernel
theorem dX6_rank_24 : decode cX6_rank 24 = .ok (.aload_n 0, 1) := by decide +kernel
theorem dX6_rank_25 : decode cX6_rank 25 = .ok (.getfield 163, 3) := by decide +kernel
theorem dX6_rank_28 : decode cX6_rank 28 = .ok (.invokevirtual 185, 3) := by decide +kernel
theorem dX6_rank_31 : decode cX6_rank 31 = .ok (.ireturn, 1) := by decide +kernel
theorem dX6_nulls_0 : decode cX6_nulls 0 = .ok (.iload_n 1, 1) := by decide +kernel
theorem dX6_nulls_1 : decode cX6_nulls 1 = .ok (.i2l, 1) := by decide +kernel
theorem dX6_nulls_2 : decode cX6_nulls 2 = .ok (.lconst 0, 1) := by decide +kernel
theorem dX6_nulls_3 : decode cX6_nulls 3 = .ok (.ldc2_w 243, 3) := by decide +kernel
theorem dX6_nulls_6 : decode cX6_nulls 6 = .ok (.invokestatic 64, 3) := by decide +kernel
theorem dX6_nulls_9 : decode cX6_nulls 9 = .ok (.ifCond .eq 11, 3) := by decide +kernel
theorem dX6_nulls_12 : decode cX6_nulls 12 = .ok (.aload_n 0, 1) := by decide +kernel
theorem dX6_nulls_13 : decode cX6_nulls 13 = .ok (.iload_n 1, 1) := by decide +kernel
theorem dX6_nulls_14 : decode cX6_nulls 14 = .ok (.invokevirtual 197, 3) := by decide +kernel
theorem dX6_nulls_17 : decode cX6_nulls 17 = .ok (.goto 4, 3) := by decide +kernel
theorem dX6_nulls_20 : decode cX6_nulls 20 = .ok (.iconst (-1), 1) := by decide +kernel
theorem dX6_nulls_21 : decode cX6_nulls 21 = .ok (.ireturn, 1) := by decide +kernel
theorem dX6_col_0 : decode cX6_col 0 = .ok (.iload_n 1, 1) := by decide +kernel
theorem dX6_col_1 : decode cX6_col 1 = .ok (.ifCond .ge 5, 3) := by decide +kernel
theorem dX6_col_4 : decode cX6_col 4 = .ok (.iconst (-1), 1) := by decide +kernel
theorem dX6_col_5 : decode cX6_col 5 = .ok (.ireturn, 1) := by decide +kernel
theorem dX6_col_6 : decode cX6_col 6 = .ok (.aload_n 0, 1) := by decide +kernel
theorem dX6_col_7 : decode cX6_col 7 = .ok (.invokevirtual 227, 3) := by decide +kernel
theorem dX6_col_10 : decode cX6_col 10 = .ok (.aload_n 0, 1) := by decide +kernel
theorem dX6_col_11 : decode cX6_col 11 = .ok (.getfield 29, 3) := by decide +kernel
theorem dX6_col_14 : decode cX6_col 14 = .ok (.iload_n 1, 1) := by decide +kernel
theorem dX6_col_15 : decode cX6_col 15 = .ok (.invokestatic 245, 3) := by decide +kernel
theorem dX6_col_18 : decode cX6_col 18 = .ok (.ireturn, 1) := by decide +kernel
theorem dX6_row_0 : decode cX6_row 0 = .ok (.iload_n 1, 1) := by decide +kernel
theorem dX6_row_1 : decode cX6_row 1 = .ok (.ifCond .ge 5, 3) := by decide +kernel
theorem dX6_row_4 : decode cX6_row 4 = .ok (.iconst (-1), 1) := by decide +kernel
theorem dX6_row_5 : decode cX6_row 5 = .ok (.ireturn, 1) := by decide +kernel
theorem dX6_row_6 : decode cX6_row 6 = .ok (.aload_n 0, 1) := by decide +kernel
theorem dX6_row_7 : decode cX6_row 7 = .ok (.invokevirtual 227, 3) := by decide +kernel
theorem dX6_row_10 : decode cX6_row 10 = .ok (.aload_n 0, 1) := by decide +kernel
theorem dX6_row_11 : decode cX6_row 11 = .ok (.getfield 32, 3) := by decide +kernel
theorem dX6_row_14 : decode cX6_row 14 = .ok (.iload_n 1, 1) := by decide +kernel
theorem dX6_row_15 : decode cX6_row 15 = .ok (.invokestatic 245, 3) := by decide +kernel
theorem dX6_row_18 : decode cX6_row 18 = .ok (.ireturn, 1) := by decide +kernel
theorem dX6_chains_0 : decode cX6_chains 0 = .ok (.aload_n 0, 1) := by decide +kernel
theorem dX6_chains_1 : decode cX6_chains 1 = .ok (.iload_n 1, 1) := by decide +kernel
theorem dX6_chains_2 : decode cX6_chains 2 = .ok (.invokevirtual 240, 3) := by decide +kernel
theorem dX6_chains_5 : decode cX6_chains 5 = .ok (.ifCond .eq 24, 3) := by decide +kernel
theorem dX6_chains_8 : decode cX6_chains 8 = .ok (.iload_n 2, 1) := by decide +kernel
theorem dX6_chains_9 : decode cX6_chains 9 = .ok (.i2l, 1) := by decide +kernel
theorem dX6_chains_10 : decode cX6_chains 10 = .ok (.lconst 0, 1) := by decide +kernel
theorem dX6_chains_11 : decode cX6_chains 11 = .ok (.ldc2_w 243, 3) := by decide +kernel
theorem dX6_chains_14 : decode cX6_chains 14 = .ok (.invokestatic 64, 3) := by decide +kernel
theorem dX6_chains_17 : decode cX6_chains 17 = .ok (.ifCond .eq 12, 3) := by decide +kernel
theorem dX6_chains_20 : decode cX6_chains 20 = .ok (.aload_n 0, 1) := by decide +kernel
theorem dX6_chains_21 : decode cX6_chains 21 = .ok (.iload_n 1, 1) := by decide +kernel
theorem dX6_chains_22 : decode cX6_chains 22 = .ok (.iload_n 2, 1) := by decide +kernel
theorem dX6_chains_23 : decode cX6_chains 23 = .ok (.invokevirtual 211, 3) := by decide +kernel
theorem dX6_chains_26 : decode cX6_chains 26 = .ok (.goto 4, 3) := by decide +kernel
theorem dX6_chains_29 : decode cX6_chains 29 = .ok (.iconst (-1), 1) := by decide +kernel
theorem dX6_chains_30 : decode cX6_chains 30 = .ok (.ireturn, 1) := by decide +kernel
theorem dX6_length_0 : decode cX6_length 0 = .ok (.aload_n 0, 1) := by decide +kernel
theorem dX6_length_1 : decode cX6_length 1 = .ok (.iload_n 1, 1) := by decide +kernel
theorem dX6_length_2 : decode cX6_length 2 = .ok (.invokevirtual 240, 3) := by decide +kernel
theorem dX6_length_5 : decode cX6_length 5 = .ok (.ifCond .eq 7, 3) := by decide +kernel
theorem dX6_length_8 : decode cX6_length 8 = .ok (.iload_n 2, 1) := by decide +kernel
theorem dX6_length_9 : decode cX6_length 9 = .ok (.ifCond .ge 5, 3) := by decide +kernel
theorem dX6_length_12 : decode cX6_length 12 = .ok (.iconst (-1), 1) := by decide +kernel
theorem dX6_length_13 : decode cX6_length 13 = .ok (.ireturn, 1) := by decide +kernel
theorem dX6_length_14 : decode cX6_length 14 = .ok (.aload_n 0, 1) := by decide +kernel
theorem dX6_length_15 : decode cX6_length 15 = .ok (.invokevirtual 227, 3) := by decide +kernel
theorem dX6_length_18 : decode cX6_length 18 = .ok (.aload_n 0, 1) := by decide +kernel
theorem dX6_length_19 : decode cX6_length 19 = .ok (.iload_n 1, 1) := by decide +kernel
theorem dX6_length_20 : decode cX6_length 20 = .ok (.invokevirtual 218, 3) := by decide +kernel
theorem dX6_length_23 : decode cX6_length 23 = .ok (.aload_n 0, 1) := by decide +kernel
theorem dX6_length_24 : decode cX6_length 24 = .ok (.iload_n 2, 1) := by decide +kernel
theorem dX6_length_25 : decode cX6_length 25 = .ok (.invokevirtual 249, 3) := by decide +kernel
theorem dX6_length_28 : decode cX6_length 28 = .ok (.istore_n 3, 1) := by decide +kernel
theorem dX6_length_29 : decode cX6_length 29 = .ok (.iload_n 3, 1) := by decide +kernel
theorem dX6_length_30 : decode cX6_length 30 = .ok (.ifCond .ne 8, 3) := by decide +kernel
theorem dX6_length_33 : decode cX6_length 33 = .ok (.bipush (-4), 2) := by decide +kernel
theorem dX6_length_35 : decode cX6_length 35 = .ok (.goto 4, 3) := by decide +kernel
theorem dX6_length_38 : decode cX6_length 38 = .ok (.iload_n 3, 1) := by decide +kernel
theorem dX6_length_39 : decode cX6_length 39 = .ok (.ireturn, 1) := by decide +kernel
theorem dX6_startsSteps_0 : decode cX6_startsSteps 0 = .ok (.aload_n 0, 1) := by decide +kernel
theorem dX6_startsSteps_1 : decode cX6_startsSteps 1 = .ok (.iload_n 1, 1) := by decide +kernel
theorem dX6_startsSteps_2 : decode cX6_startsSteps 2 = .ok (.iload_n 2, 1) := by decide +kernel
theorem dX6_startsSteps_3 : decode cX6_startsSteps 3 = .ok (.ifCond .eq 7, 3) := by decide +kernel
theorem dX6_startsSteps_6 : decode cX6_startsSteps 6 = .ok (.iload_n 1, 1) := by decide +kernel
theorem dX6_startsSteps_7 : decode cX6_startsSteps 7 = .ok (.goto 6, 3) := by decide +kernel
theorem dX6_startsSteps_10 : decode cX6_startsSteps 10 = .ok (.iload_n 1, 1) := by decide +kernel
theorem dX6_startsSteps_11 : decode cX6_startsSteps 11 = .ok (.iconst 1, 1) := by decide +kernel
theorem dX6_startsSteps_12 : decode cX6_startsSteps 12 = .ok (.iadd, 1) := by decide +kernel
theorem dX6_startsSteps_13 : decode cX6_startsSteps 13 = .ok (.invokevirtual 188, 3) := by decide +kernel
theorem dX6_startsSteps_16 : decode cX6_startsSteps 16 = .ok (.iconst 0, 1) := by decide +kernel
theorem dX6_startsSteps_17 : decode cX6_startsSteps 17 = .ok (.istore_n 3, 1) := by decide +kernel
theorem dX6_startsSteps_18 : decode cX6_startsSteps 18 = .ok (.iload_n 3, 1) := by decide +kernel
theorem dX6_startsSteps_19 : decode cX6_startsSteps 19 = .ok (.iload_n 1, 1) := by decide +kernel
