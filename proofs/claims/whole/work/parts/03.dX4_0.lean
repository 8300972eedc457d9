theorem dX4_init_0 : decode cX4_init 0 = .ok (.aload_n 0, 1) := by decide +kernel
theorem dX4_init_1 : decode cX4_init 1 = .ok (.invokespecial 5, 3) := by decide +kernel
theorem dX4_init_4 : decode cX4_init 4 = .ok (.aload_n 0, 1) := by decide +kernel
theorem dX4_init_5 : decode cX4_init 5 = .ok (.new 11, 3) := by decide +kernel
theorem dX4_init_8 : decode cX4_init 8 = .ok (.dup, 1) := by decide +kernel
theorem dX4_init_9 : decode cX4_init 9 = .ok (.invokespecial 13, 3) := by decide +kernel
theorem dX4_init_12 : decode cX4_init 12 = .ok (.putfield 14, 3) := by decide +kernel
theorem dX4_init_15 : decode cX4_init 15 = .ok (.aload_n 0, 1) := by decide +kernel
theorem dX4_init_16 : decode cX4_init 16 = .ok (.new 18, 3) := by decide +kernel
theorem dX4_init_19 : decode cX4_init 19 = .ok (.dup, 1) := by decide +kernel
theorem dX4_init_20 : decode cX4_init 20 = .ok (.invokespecial 20, 3) := by decide +kernel
theorem dX4_init_23 : decode cX4_init 23 = .ok (.putfield 21, 3) := by decide +kernel
theorem dX4_init_26 : decode cX4_init 26 = .ok (.aload_n 0, 1) := by decide +kernel
theorem dX4_init_27 : decode cX4_init 27 = .ok (.iconst 5, 1) := by decide +kernel
theorem dX4_init_28 : decode cX4_init 28 = .ok (.newarray .int, 2) := by decide +kernel
theorem dX4_init_30 : decode cX4_init 30 = .ok (.putfield 25, 3) := by decide +kernel
theorem dX4_init_33 : decode cX4_init 33 = .ok (.aload_n 0, 1) := by decide +kernel
theorem dX4_init_34 : decode cX4_init 34 = .ok (.iconst 5, 1) := by decide +kernel
theorem dX4_init_35 : decode cX4_init 35 = .ok (.newarray .int, 2) := by decide +kernel
theorem dX4_init_37 : decode cX4_init 37 = .ok (.putfield 29, 3) := by decide +kernel
theorem dX4_init_40 : decode cX4_init 40 = .ok (.aload_n 0, 1) := by decide +kernel
theorem dX4_init_41 : decode cX4_init 41 = .ok (.iconst 4, 1) := by decide +kernel
theorem dX4_init_42 : decode cX4_init 42 = .ok (.newarray .int, 2) := by decide +kernel
theorem dX4_init_44 : decode cX4_init 44 = .ok (.putfield 32, 3) := by decide +kernel
theorem dX4_init_47 : decode cX4_init 47 = .ok (.return_, 1) := by decide +kernel
theorem dX4_rankAt_0 : decode cX4_rankAt 0 = .ok (.aload_n 0, 1) := by decide +kernel
theorem dX4_rankAt_1 : decode cX4_rankAt 1 = .ok (.aload_n 1, 1) := by decide +kernel
theorem dX4_rankAt_2 : decode cX4_rankAt 2 = .ok (.iload_n 2, 1) := by decide +kernel
theorem dX4_rankAt_3 : decode cX4_rankAt 3 = .ok (.iconst 1, 1) := by decide +kernel
theorem dX4_rankAt_4 : decode cX4_rankAt 4 = .ok (.invokevirtual 35, 3) := by decide +kernel
theorem dX4_rankAt_7 : decode cX4_rankAt 7 = .ok (.aload_n 0, 1) := by decide +kernel
theorem dX4_rankAt_8 : decode cX4_rankAt 8 = .ok (.getfield 21, 3) := by decide +kernel
theorem dX4_rankAt_11 : decode cX4_rankAt 11 = .ok (.invokevirtual 39, 3) := by decide +kernel
theorem dX4_rankAt_14 : decode cX4_rankAt 14 = .ok (.ireturn, 1) := by decide +kernel
theorem dX4_nullsOf_0 : decode cX4_nullsOf 0 = .ok (.aload_n 0, 1) := by decide +kernel
theorem dX4_nullsOf_1 : decode cX4_nullsOf 1 = .ok (.getfield 21, 3) := by decide +kernel
theorem dX4_nullsOf_4 : decode cX4_nullsOf 4 = .ok (.aload_n 1, 1) := by decide +kernel
theorem dX4_nullsOf_5 : decode cX4_nullsOf 5 = .ok (.iload_n 2, 1) := by decide +kernel
theorem dX4_nullsOf_6 : decode cX4_nullsOf 6 = .ok (.iconst 2, 1) := by decide +kernel
theorem dX4_nullsOf_7 : decode cX4_nullsOf 7 = .ok (.iadd, 1) := by decide +kernel
theorem dX4_nullsOf_8 : decode cX4_nullsOf 8 = .ok (.iload_n 2, 1) := by decide +kernel
theorem dX4_nullsOf_9 : decode cX4_nullsOf 9 = .ok (.iconst 1, 1) := by decide +kernel
theorem dX4_nullsOf_10 : decode cX4_nullsOf 10 = .ok (.iadd, 1) := by decide +kernel
theorem dX4_nullsOf_11 : decode cX4_nullsOf 11 = .ok (.invokevirtual 43, 3) := by decide +kernel
theorem dX4_nullsOf_14 : decode cX4_nullsOf 14 = .ok (.iconst 0, 1) := by decide +kernel
theorem dX4_nullsOf_15 : decode cX4_nullsOf 15 = .ok (.istore_n 3, 1) := by decide +kernel
theorem dX4_nullsOf_16 : decode cX4_nullsOf 16 = .ok (.iload_n 3, 1) := by decide +kernel
theorem dX4_nullsOf_17 : decode cX4_nullsOf 17 = .ok (.iload_n 2, 1) := by decide +kernel
theorem dX4_nullsOf_18 : decode cX4_nullsOf 18 = .ok (.if_icmp .gt 35, 3) := by decide +kernel
theorem dX4_nullsOf_21 : decode cX4_nullsOf 21 = .ok (.aload_n 0, 1) := by decide +kernel
theorem dX4_nullsOf_22 : decode cX4_nullsOf 22 = .ok (.getfield 21, 3) := by decide +kernel
theorem dX4_nullsOf_25 : decode cX4_nullsOf 25 = .ok (.aload_n 1, 1) := by decide +kernel
theorem dX4_nullsOf_26 : decode cX4_nullsOf 26 = .ok (.iload_n 3, 1) := by decide +kernel
theorem dX4_nullsOf_27 : decode cX4_nullsOf 27 = .ok (.iload_n 3, 1) := by decide +kernel
theorem dX4_nullsOf_28 : decode cX4_nullsOf 28 = .ok (.iconst 1, 1) := by decide +kernel
theorem dX4_nullsOf_29 : decode cX4_nullsOf 29 = .ok (.iconst 0, 1) := by decide +kernel
theorem dX4_nullsOf_30 : decode cX4_nullsOf 30 = .ok (.invokevirtual 46, 3) := by decide +kernel
theorem dX4_nullsOf_33 : decode cX4_nullsOf 33 = .ok (.aload_n 0, 1) := by decide +kernel
theorem dX4_nullsOf_34 : decode cX4_nullsOf 34 = .ok (.getfield 21, 3) := by decide +kernel
theorem dX4_nullsOf_37 : decode cX4_nullsOf 37 = .ok (.aload_n 1, 1) := by decide +kernel
theorem dX4_nullsOf_38 : decode cX4_nullsOf 38 = .ok (.iload_n 3, 1) := by decide +kernel
theorem dX4_nullsOf_39 : decode cX4_nullsOf 39 = .ok (.iconst 1, 1) := by decide +kernel
theorem dX4_nullsOf_40 : decode cX4_nullsOf 40 = .ok (.iadd, 1) := by decide +kernel
theorem dX4_nullsOf_41 : decode cX4_nullsOf 41 = .ok (.iload_n 3, 1) := by decide +kernel
theorem dX4_nullsOf_42 : decode cX4_nullsOf 42 = .ok (.iconst 0, 1) := by decide +kernel
theorem dX4_nullsOf_43 : decode cX4_nullsOf 43 = .ok (.iconst (-1), 1) := by decide +kernel
theorem dX4_nullsOf_44 : decode cX4_nullsOf 44 = .ok (.invokevirtual 46, 3) := by decide +kernel
theorem dX4_nullsOf_47 : decode cX4_nullsOf 47 = .ok (.iinc 3 1, 3) := by decide +kernel
theorem dX4_nullsOf_50 : decode cX4_nullsOf 50 = .ok (.goto (-34), 3) := by decide +kernel
theorem dX4_nullsOf_53 : decode cX4_nullsOf 53 = .ok (.aload_n 0, 1) := by decide +kernel
theorem dX4_nullsOf_54 : decode cX4_nullsOf 54 = .ok (.getfield 21, 3) := by decide +kernel
theorem dX4_nullsOf_57 : decode cX4_nullsOf 57 = .ok (.getfield 50, 3) := by decide +kernel
theorem dX4_nullsOf_60 : decode cX4_nullsOf 60 = .ok (.aload_n 0, 1) := by decide +kernel
theorem dX4_nullsOf_61 : decode cX4_nullsOf 61 = .ok (.getfield 21, 3) := by decide +kernel
theorem dX4_nullsOf_64 : decode cX4_nullsOf 64 = .ok (.invokevirtual 39, 3) := by decide +kernel
theorem dX4_nullsOf_67 : decode cX4_nullsOf 67 = .ok (.isub, 1) := by decide +kernel
theorem dX4_nullsOf_68 : decode cX4_nullsOf 68 = .ok (.ireturn, 1) := by decide +kernel
theorem dX4_chainsAt_0 : decode cX4_chainsAt 0 = .ok (.aload_n 0, 1) := by decide +kernel
theorem dX4_chainsAt_1 : decode cX4_chainsAt 1 = .ok (.aload_n 1, 1) := by decide +kernel
theorem dX4_chainsAt_2 : decode cX4_chainsAt 2 = .ok (.iload_n 2, 1) := by decide +kernel
theorem dX4_chainsAt_3 : decode cX4_chainsAt 3 = .ok (.iload_n 3, 1) := by decide +kernel
theorem dX4_chainsAt_4 : decode cX4_chainsAt 4 = .ok (.invokevirtual 35, 3) := by decide +kernel
theorem dX4_chainsAt_7 : decode cX4_chainsAt 7 = .ok (.aload_n 0, 1) := by decide +kernel
theorem dX4_chainsAt_8 : decode cX4_chainsAt 8 = .ok (.getfield 21, 3) := by decide +kernel
theorem dX4_chainsAt_11 : decode cX4_chainsAt 11 = .ok (.getfield 50, 3) := by decide +kernel
theorem dX4_chainsAt_14 : decode cX4_chainsAt 14 = .ok (.aload_n 0, 1) := by decide +kernel
theorem dX4_chainsAt_15 : decode cX4_chainsAt 15 = .ok (.getfield 21, 3) := by decide +kernel
theorem dX4_chainsAt_18 : decode cX4_chainsAt 18 = .ok (.invokevirtual 39, 3) := by decide +kernel
theorem dX4_chainsAt_21 : decode cX4_chainsAt 21 = .ok (.isub, 1) := by decide +kernel
theorem dX4_chainsAt_22 : decode cX4_chainsAt 22 = .ok (.ireturn, 1) := by decide +kernel
theorem dX4_stepsOf_0 : decode cX4_stepsOf 0 = .ok (.aload_n 0, 1) := by decide +kernel
theorem dX4_stepsOf_1 : decode cX4_stepsOf 1 = .ok (.getfield 21, 3) := by decide +kernel
theorem dX4_stepsOf_4 : decode cX4_stepsOf 4 = .ok (.aload_n 1, 1) := by decide +kernel
theorem dX4_stepsOf_5 : decode cX4_stepsOf 5 = .ok (.iload_n 2, 1) := by decide +kernel
theorem dX4_stepsOf_6 : decode cX4_stepsOf 6 = .ok (.iload_n 2, 1) := by decide +kernel
theorem dX4_stepsOf_7 : decode cX4_stepsOf 7 = .ok (.iconst 1, 1) := by decide +kernel
theorem dX4_stepsOf_8 : decode cX4_stepsOf 8 = .ok (.iadd, 1) := by decide +kernel
theorem dX4_stepsOf_9 : decode cX4_stepsOf 9 = .ok (.invokevirtual 43, 3) := by decide +kernel
theorem dX4_stepsOf_12 : decode cX4_stepsOf 12 = .ok (.iconst 0, 1) := by decide +kernel
theorem dX4_stepsOf_13 : decode cX4_stepsOf 13 = .ok (.istore_n 3, 1) := by decide +kernel
theorem dX4_stepsOf_14 : decode cX4_stepsOf 14 = .ok (.iload_n 3, 1) := by decide +kernel
theorem dX4_stepsOf_15 : decode cX4_stepsOf 15 = .ok (.iload_n 2, 1) := by decide +kernel
theorem dX4_stepsOf_16 : decode cX4_stepsOf 16 = .ok (.if_icmp .ge 35, 3) := by decide +kernel
theorem dX4_stepsOf_19 : decode cX4_stepsOf 19 = .ok (.aload_n 0, 1) := by decide +kernel
theorem dX4_stepsOf_20 : decode cX4_stepsOf 20 = .ok (.getfield 21, 3) := by decide +kernel
theorem dX4_stepsOf_23 : decode cX4_stepsOf 23 = .ok (.aload_n 1, 1) := by decide +kernel
theorem dX4_stepsOf_24 : decode cX4_stepsOf 24 = .ok (.iload_n 3, 1) := by decide +kernel
theorem dX4_stepsOf_25 : decode cX4_stepsOf 25 = .ok (.iload_n 3, 1) := by decide +kernel
theorem dX4_stepsOf_26 : decode cX4_stepsOf 26 = .ok (.iconst (-1), 1) := by decide +kernel
theorem dX4_stepsOf_27 : decode cX4_stepsOf 27 = .ok (.iconst 0, 1) := by decide +kernel
theorem dX4_stepsOf_28 : decode cX4_stepsOf 28 = .ok (.invokevirtual 46, 3) := by decide +kernel
theorem dX4_stepsOf_31 : decode cX4_stepsOf 31 = .ok (.aload_n 0, 1) := by decide +kernel
theorem dX4_stepsOf_32 : decode cX4_stepsOf 32 = .ok (.getfield 21, 3) := by decide +kernel
theorem dX4_stepsOf_35 : decode cX4_stepsOf 35 = .ok (.aload_n 1, 1) := by decide +kernel
theorem dX4_stepsOf_36 : decode cX4_stepsOf 36 = .ok (.iload_n 3, 1) := by decide +kernel
theorem dX4_stepsOf_37 : decode cX4_stepsOf 37 = .ok (.iload_n 3, 1) := by decide +kernel
theorem dX4_stepsOf_38 : decode cX4_stepsOf 38 = .ok (.iconst 1, 1) := by decide +kernel
theorem dX4_stepsOf_39 : decode cX4_stepsOf 39 = .ok (.iadd, 1) := by decide +kernel
theorem dX4_stepsOf_40 : decode cX4_stepsOf 40 = .ok (.iconst 0, 1) := by decide +kernel
theorem dX4_stepsOf_41 : decode cX4_stepsOf 41 = .ok (.iconst 1, 1) := by decide +kernel
theorem dX4_stepsOf_42 : decode cX4_stepsOf 42 = .ok (.invokevirtual 46, 3) := by decide +kernel
theorem dX4_stepsOf_45 : decode cX4_stepsOf 45 = .ok (.iinc 3 1, 3) := by decide +kernel
theorem dX4_stepsOf_48 : decode cX4_stepsOf 48 = .ok (.goto (-34), 3) := by decide +kernel
theorem dX4_stepsOf_51 : decode cX4_stepsOf 51 = .ok (.aload_n 0, 1) := by decide +kernel
theorem dX4_stepsOf_52 : decode cX4_stepsOf 52 = .ok (.getfield 21, 3) := by decide +kernel
theorem dX4_stepsOf_55 : decode cX4_stepsOf 55 = .ok (.getfield 50, 3) := by decide +kernel
theorem dX4_stepsOf_58 : decode cX4_stepsOf 58 = .ok (.aload_n 0, 1) := by decide +kernel
theorem dX4_stepsOf_59 : decode cX4_stepsOf 59 = .ok (.getfield 21, 3) := by decide +kernel
theorem dX4_stepsOf_62 : decode cX4_stepsOf 62 = .ok (.invokevirtual 39, 3) := by decide +kernel
theorem dX4_stepsOf_65 : decode cX4_stepsOf 65 = .ok (.isub, 1) := by decide +kernel
theorem dX4_stepsOf_66 : decode cX4_stepsOf 66 = .ok (.ireturn, 1) := by decide +kernel
theorem dX4_goersOf_0 : decode cX4_goersOf 0 = .ok (.aload_n 0, 1) := by decide +kernel
theorem dX4_goersOf_1 : decode cX4_goersOf 1 = .ok (.aload_n 1, 1) := by decide +kernel
theorem dX4_goersOf_2 : decode cX4_goersOf 2 = .ok (.iload_n 2, 1) := by decide +kernel
theorem dX4_goersOf_3 : decode cX4_goersOf 3 = .ok (.invokevirtual 54, 3) := by decide +kernel
theorem dX4_goersOf_6 : decode cX4_goersOf 6 = .ok (.aload_n 0, 1) := by decide +kernel
theorem dX4_goersOf_7 : decode cX4_goersOf 7 = .ok (.aload_n 1, 1) := by decide +kernel
theorem dX4_goersOf_8 : decode cX4_goersOf 8 = .ok (.aload_n 1, 1) := by decide +kernel
theorem dX4_goersOf_9 : decode cX4_goersOf 9 = .ok (.getfield 58, 3) := by decide +kernel
theorem dX4_goersOf_12 : decode cX4_goersOf 12 = .ok (.iload_n 2, 1) := by decide +kernel
theorem dX4_goersOf_13 : decode cX4_goersOf 13 = .ok (.invokevirtual 61, 3) := by decide +kernel
theorem dX4_goersOf_16 : decode cX4_goersOf 16 = .ok (.isub, 1) := by decide +kernel
theorem dX4_goersOf_17 : decode cX4_goersOf 17 = .ok (.ireturn, 1) := by decide +kernel
theorem dX4_takeColumn_0 : decode cX4_takeColumn 0 = .ok (.iload_n 2, 1) := by decide +kernel
theorem dX4_takeColumn_1 : decode cX4_takeColumn 1 = .ok (.ifCond .ge 5, 3) := by decide +kernel
theorem dX4_takeColumn_4 : decode cX4_takeColumn 4 = .ok (.iconst 0, 1) := by decide +kernel
theorem dX4_takeColumn_5 : decode cX4_takeColumn 5 = .ok (.ireturn, 1) := by decide +kernel
theorem dX4_takeColumn_6 : decode cX4_takeColumn 6 = .ok (.iload_n 2, 1) := by decide +kernel
theorem dX4_takeColumn_7 : decode cX4_takeColumn 7 = .ok (.istore_n 3, 1) := by decide +kernel
theorem dX4_takeColumn_8 : decode cX4_takeColumn 8 = .ok (.iconst 0, 1) := by decide +kernel
theorem dX4_takeColumn_9 : decode cX4_takeColumn 9 = .ok (.istore 4, 2) := by decide +kernel
theorem dX4_takeColumn_11 : decode cX4_takeColumn 11 = .ok (.iload 4, 2) := by decide +kernel
theorem dX4_takeColumn_13 : decode cX4_takeColumn 13 = .ok (.aload_n 1, 1) := by decide +kernel
theorem dX4_takeColumn_14 : decode cX4_takeColumn 14 = .ok (.getfield 65, 3) := by decide +kernel
theorem dX4_takeColumn_17 : decode cX4_takeColumn 17 = .ok (.if_icmp .ge 47, 3) := by decide +kernel
theorem dX4_takeColumn_20 : decode cX4_takeColumn 20 = .ok (.iload 4, 2) := by decide +kernel
theorem dX4_takeColumn_22 : decode cX4_takeColumn 22 = .ok (.iconst 4, 1) := by decide +kernel
theorem dX4_takeColumn_23 : decode cX4_takeColumn 23 = .ok (.if_icmp .ge 41, 3) := by decide +kernel
theorem dX4_takeColumn_26 : decode cX4_takeColumn 26 = .ok (.aload_n 0, 1) := by decide +kernel
theorem dX4_takeColumn_27 : decode cX4_takeColumn 27 = .ok (.getfield 32, 3) := by decide +kernel
theorem dX4_takeColumn_30 : decode cX4_takeColumn 30 = .ok (.iload 4, 2) := by decide +kernel
theorem dX4_takeColumn_32 : decode cX4_takeColumn 32 = .ok (.iload_n 3, 1) := by decide +kernel
theorem dX4_takeColumn_33 : decode cX4_takeColumn 33 = .ok (.bipush 10, 2) := by decide +kernel
theorem dX4_takeColumn_35 : decode cX4_takeColumn 35 = .ok (.irem, 1) := by decide +kernel
theorem dX4_takeColumn_36 : decode cX4_takeColumn 36 = .ok (.iastore, 1) := by decide +kernel
theorem dX4_takeColumn_37 : decode cX4_takeColumn 37 = .ok (.iload_n 3, 1) := by decide +kernel
theorem dX4_takeColumn_38 : decode cX4_takeColumn 38 = .ok (.bipush 10, 2) := by decide +kernel
theorem dX4_takeColumn_40 : decode cX4_takeColumn 40 = .ok (.idiv, 1) := by decide +kernel
theorem dX4_takeColumn_41 : decode cX4_takeColumn 41 = .ok (.istore_n 3, 1) := by decide +kernel
theorem dX4_takeColumn_42 : decode cX4_takeColumn 42 = .ok (.aload_n 0, 1) := by decide +kernel
theorem dX4_takeColumn_43 : decode cX4_takeColumn 43 = .ok (.getfield 32, 3) := by decide +kernel
theorem dX4_takeColumn_46 : decode cX4_takeColumn 46 = .ok (.iload 4, 2) := by decide +kernel
theorem dX4_takeColumn_48 : decode cX4_takeColumn 48 = .ok (.iaload, 1) := by decide +kernel
theorem dX4_takeColumn_49 : decode cX4_takeColumn 49 = .ok (.aload_n 1, 1) := by decide +kernel
theorem dX4_takeColumn_50 : decode cX4_takeColumn 50 = .ok (.getfield 58, 3) := by decide +kernel
theorem dX4_takeColumn_53 : decode cX4_takeColumn 53 = .ok (.if_icmp .lt 5, 3) := by decide +kernel
theorem dX4_takeColumn_56 : decode cX4_takeColumn 56 = .ok (.iconst 0, 1) := by decide +kernel
theorem dX4_takeColumn_57 : decode cX4_takeColumn 57 = .ok (.ireturn, 1) := by decide +kernel
theorem dX4_takeColumn_58 : decode cX4_takeColumn 58 = .ok (.iinc 4 1, 3) := by decide +kernel
theorem dX4_takeColumn_61 : decode cX4_takeColumn 61 = .ok (.goto (-50), 3) := by decide +kernel
theorem dX4_takeColumn_64 : decode cX4_takeColumn 64 = .ok (.iload_n 3, 1) := by decide +kernel
theorem dX4_takeColumn_65 : decode cX4_takeColumn 65 = .ok (.ifCond .ne 7, 3) := by decide +kernel
theorem dX4_takeColumn_68 : decode cX4_takeColumn 68 = .ok (.iconst 1, 1) := by decide +kernel
theorem dX4_takeColumn_69 : decode cX4_takeColumn 69 = .ok (.goto 4, 3) := by decide +kernel
theorem dX4_takeColumn_72 : decode cX4_takeColumn 72 = .ok (.iconst 0, 1) := by decide +kernel
theorem dX4_takeColumn_73 : decode cX4_takeColumn 73 = .ok (.ireturn, 1) := by decide +kernel
theorem dX4_columnCanGo_0 : decode cX4_columnCanGo 0 = .ok (.aload_n 0, 1) := by decide +kernel
theorem dX4_columnCanGo_1 : decode cX4_columnCanGo 1 = .ok (.aload_n 1, 1) := by decide +kernel
theorem dX4_columnCanGo_2 : decode cX4_columnCanGo 2 = .ok (.aload_n 1, 1) := by decide +kernel
theorem dX4_columnCanGo_3 : decode cX4_columnCanGo 3 = .ok (.getfield 58, 3) := by decide +kernel
theorem dX4_columnCanGo_6 : decode cX4_columnCanGo 6 = .ok (.iload_n 2, 1) := by decide +kernel
theorem dX4_columnCanGo_7 : decode cX4_columnCanGo 7 = .ok (.invokevirtual 35, 3) := by decide +kernel
theorem dX4_columnCanGo_10 : decode cX4_columnCanGo 10 = .ok (.aload_n 0, 1) := by decide +kernel
theorem dX4_columnCanGo_11 : decode cX4_columnCanGo 11 = .ok (.getfield 21, 3) := by decide +kernel
theorem dX4_columnCanGo_14 : decode cX4_columnCanGo 14 = .ok (.invokevirtual 39, 3) := by decide +kernel
theorem dX4_columnCanGo_17 : decode cX4_columnCanGo 17 = .ok (.istore_n 3, 1) := by decide +kernel
theorem dX4_columnCanGo_18 : decode cX4_columnCanGo 18 = .ok (.aload_n 0, 1) := by decide +kernel
theorem dX4_columnCanGo_19 : decode cX4_columnCanGo 19 = .ok (.aload_n 1, 1) := by decide +kernel
theorem dX4_columnCanGo_20 : decode cX4_columnCanGo 20 = .ok (.aload_n 1, 1) := by decide +kernel
theorem dX4_columnCanGo_21 : decode cX4_columnCanGo 21 = .ok (.getfield 58, 3) := by decide +kernel
theorem dX4_columnCanGo_24 : decode cX4_columnCanGo 24 = .ok (.iload_n 2, 1) := by decide +kernel
theorem dX4_columnCanGo_25 : decode cX4_columnCanGo 25 = .ok (.invokevirtual 35, 3) := by decide +kernel
theorem dX4_columnCanGo_28 : decode cX4_columnCanGo 28 = .ok (.iload_n 2, 1) := by decide +kernel
theorem dX4_columnCanGo_29 : decode cX4_columnCanGo 29 = .ok (.ifCond .le 15, 3) := by decide +kernel
theorem dX4_columnCanGo_32 : decode cX4_columnCanGo 32 = .ok (.aload_n 0, 1) := by decide +kernel
theorem dX4_columnCanGo_33 : decode cX4_columnCanGo 33 = .ok (.getfield 21, 3) := by decide +kernel
theorem dX4_columnCanGo_36 : decode cX4_columnCanGo 36 = .ok (.aload_n 1, 1) := by decide +kernel
theorem dX4_columnCanGo_37 : decode cX4_columnCanGo 37 = .ok (.aload_n 0, 1) := by decide +kernel
theorem dX4_columnCanGo_38 : decode cX4_columnCanGo 38 = .ok (.getfield 32, 3) := by decide +kernel
theorem dX4_columnCanGo_41 : decode cX4_columnCanGo 41 = .ok (.invokevirtual 68, 3) := by decide +kernel
theorem dX4_columnCanGo_44 : decode cX4_columnCanGo 44 = .ok (.aload_n 0, 1) := by decide +kernel
theorem dX4_columnCanGo_45 : decode cX4_columnCanGo 45 = .ok (.getfield 21, 3) := by decide +kernel
theorem dX4_columnCanGo_48 : decode cX4_columnCanGo 48 = .ok (.invokevirtual 39, 3) := by decide +kernel
theorem dX4_columnCanGo_51 : decode cX4_columnCanGo 51 = .ok (.iload_n 3, 1) := by decide +kernel
theorem dX4_columnCanGo_52 : decode cX4_columnCanGo 52 = .ok (.if_icmp .ne 7, 3) := by decide +kernel
theorem dX4_columnCanGo_55 : decode cX4_columnCanGo 55 = .ok (.iconst 1, 1) := by decide +kernel
theorem dX4_columnCanGo_56 : decode cX4_columnCanGo 56 = .ok (.goto 4, 3) := by decide +kernel
theorem dX4_columnCanGo_59 : decode cX4_columnCanGo 59 = .ok (.iconst 0, 1) := by decide +kernel
theorem dX4_columnCanGo_60 : decode cX4_columnCanGo 60 = .ok (.ireturn, 1) := by decide +kernel
theorem dX4_colIndex_0 : decode cX4_colIndex 0 = .ok (.aload_n 0, 1) := by decide +kernel
theorem dX4_colIndex_1 : decode cX4_colIndex 1 = .ok (.aload_n 1, 1) := by decide +kernel
theorem dX4_colIndex_2 : decode cX4_colIndex 2 = .ok (.aload_n 0, 1) := by decide +kernel
theorem dX4_colIndex_3 : decode cX4_colIndex 3 = .ok (.getfield 25, 3) := by decide +kernel
theorem dX4_colIndex_6 : decode cX4_colIndex 6 = .ok (.invokevirtual 72, 3) := by decide +kernel
theorem dX4_colIndex_9 : decode cX4_colIndex 9 = .ok (.pop, 1) := by decide +kernel
theorem dX4_colIndex_10 : decode cX4_colIndex 10 = .ok (.aload_n 0, 1) := by decide +kernel
theorem dX4_colIndex_11 : decode cX4_colIndex 11 = .ok (.getfield 25, 3) := by decide +kernel
theorem dX4_colIndex_14 : decode cX4_colIndex 14 = .ok (.iload_n 2, 1) := by decide +kernel
theorem dX4_colIndex_15 : decode cX4_colIndex 15 = .ok (.invokestatic 76, 3) := by decide +kernel
theorem dX4_colIndex_18 : decode cX4_colIndex 18 = .ok (.ireturn, 1) := by decide +kernel
theorem dX4_rowIndex_0 : decode cX4_rowIndex 0 = .ok (.aload_n 0, 1) := by decide +kernel
theorem dX4_rowIndex_1 : decode cX4_rowIndex 1 = .ok (.aload_n 0, 1) := by decide +kernel
theorem dX4_rowIndex_2 : decode cX4_rowIndex 2 = .ok (.aload_n 1, 1) := by decide +kernel
theorem dX4_rowIndex_3 : decode cX4_rowIndex 3 = .ok (.invokevirtual 80, 3) := by decide +kernel
theorem dX4_rowIndex_6 : decode cX4_rowIndex 6 = .ok (.aload_n 0, 1) := by decide +kernel
theorem dX4_rowIndex_7 : decode cX4_rowIndex 7 = .ok (.getfield 29, 3) := by decide +kernel
theorem dX4_rowIndex_10 : decode cX4_rowIndex 10 = .ok (.invokevirtual 72, 3) := by decide +kernel
theorem dX4_rowIndex_13 : decode cX4_rowIndex 13 = .ok (.pop, 1) := by decide +kernel
theorem dX4_rowIndex_14 : decode cX4_rowIndex 14 = .ok (.aload_n 0, 1) := by decide +kernel
theorem dX4_rowIndex_15 : decode cX4_rowIndex 15 = .ok (.getfield 29, 3) := by decide +kernel
theorem dX4_rowIndex_18 : decode cX4_rowIndex 18 = .ok (.iload_n 2, 1) := by decide +kernel
theorem dX4_rowIndex_19 : decode cX4_rowIndex 19 = .ok (.invokestatic 76, 3) := by decide +kernel
theorem dX4_rowIndex_22 : decode cX4_rowIndex 22 = .ok (.ireturn, 1) := by decide +kernel
theorem dX4_howManyCols_0 : decode cX4_howManyCols 0 = .ok (.aload_n 0, 1) := by decide +kernel
theorem dX4_howManyCols_1 : decode cX4_howManyCols 1 = .ok (.aload_n 1, 1) := by decide +kernel
theorem dX4_howManyCols_2 : decode cX4_howManyCols 2 = .ok (.aload_n 0, 1) := by decide +kernel
theorem dX4_howManyCols_3 : decode cX4_howManyCols 3 = .ok (.getfield 25, 3) := by decide +kernel
theorem dX4_howManyCols_6 : decode cX4_howManyCols 6 = .ok (.invokevirtual 72, 3) := by decide +kernel
theorem dX4_howManyCols_9 : decode cX4_howManyCols 9 = .ok (.ireturn, 1) := by decide +kernel
theorem dX4_howManyRows_0 : decode cX4_howManyRows 0 = .ok (.aload_n 0, 1) := by decide +kernel
theorem dX4_howManyRows_1 : decode cX4_howManyRows 1 = .ok (.aload_n 0, 1) := by decide +kernel
theorem dX4_howManyRows_2 : decode cX4_howManyRows 2 = .ok (.aload_n 1, 1) := by decide +kernel
theorem dX4_howManyRows_3 : decode cX4_howManyRows 3 = .ok (.invokevirtual 80, 3) := by decide +kernel
theorem dX4_howManyRows_6 : decode cX4_howManyRows 6 = .ok (.aload_n 0, 1) := by decide +kernel
theorem dX4_howManyRows_7 : decode cX4_howManyRows 7 = .ok (.getfield 29, 3) := by decide +kernel
theorem dX4_howManyRows_10 : decode cX4_howManyRows 10 = .ok (.invokevirtual 72, 3) := by decide +kernel
theorem dX4_howManyRows_13 : decode cX4_howManyRows 13 = .ok (.ireturn, 1) := by decide +kernel
theorem dX4_lengthAt_0 : decode cX4_lengthAt 0 = .ok (.aload_n 0, 1) := by decide +kernel
theorem dX4_lengthAt_1 : decode cX4_lengthAt 1 = .ok (.aload_n 1, 1) := by decide +kernel
theorem dX4_lengthAt_2 : decode cX4_lengthAt 2 = .ok (.aload_n 0, 1) := by decide +kernel
theorem dX4_lengthAt_3 : decode cX4_lengthAt 3 = .ok (.getfield 25, 3) := by decide +kernel
theorem dX4_lengthAt_6 : decode cX4_lengthAt 6 = .ok (.invokevirtual 72, 3) := by decide +kernel
theorem dX4_lengthAt_9 : decode cX4_lengthAt 9 = .ok (.istore 4, 2) := by decide +kernel
theorem dX4_lengthAt_11 : decode cX4_lengthAt 11 = .ok (.iconst 0, 1) := by decide +kernel
theorem dX4_lengthAt_12 : decode cX4_lengthAt 12 = .ok (.istore 5, 2) := by decide +kernel
theorem dX4_lengthAt_14 : decode cX4_lengthAt 14 = .ok (.iconst 0, 1) := by decide +kernel
theorem dX4_lengthAt_15 : decode cX4_lengthAt 15 = .ok (.istore 6, 2) := by decide +kernel
theorem dX4_lengthAt_17 : decode cX4_lengthAt 17 = .ok (.iconst 1, 1) := by decide +kernel
theorem dX4_lengthAt_18 : decode cX4_lengthAt 18 = .ok (.istore 7, 2) := by decide +kernel
theorem dX4_lengthAt_20 : decode cX4_lengthAt 20 = .ok (.iload 7, 2) := by decide +kernel
theorem dX4_lengthAt_22 : decode cX4_lengthAt 22 = .ok (.iconst 4, 1) := by decide +kernel
theorem dX4_lengthAt_23 : decode cX4_lengthAt 23 = .ok (.if_icmp .gt 39, 3) := by decide +kernel
theorem dX4_lengthAt_26 : decode cX4_lengthAt 26 = .ok (.aload_n 0, 1) := by decide +kernel
theorem dX4_lengthAt_27 : decode cX4_lengthAt 27 = .ok (.aload_n 1, 1) := by decide +kernel
theorem dX4_lengthAt_28 : decode cX4_lengthAt 28 = .ok (.iload_n 2, 1) := by decide +kernel
theorem dX4_lengthAt_29 : decode cX4_lengthAt 29 = .ok (.iload 7, 2) := by decide +kernel
theorem dX4_lengthAt_31 : decode cX4_lengthAt 31 = .ok (.invokevirtual 61, 3) := by decide +kernel
theorem dX4_lengthAt_34 : decode cX4_lengthAt 34 = .ok (.istore 8, 2) := by decide +kernel
theorem dX4_lengthAt_36 : decode cX4_lengthAt 36 = .ok (.iload 8, 2) := by decide +kernel
theorem dX4_lengthAt_38 : decode cX4_lengthAt 38 = .ok (.iload 6, 2) := by decide +kernel
theorem dX4_lengthAt_40 : decode cX4_lengthAt 40 = .ok (.isub, 1) := by decide +kernel
theorem dX4_lengthAt_41 : decode cX4_lengthAt 41 = .ok (.iload 4, 2) := by decide +kernel
theorem dX4_lengthAt_43 : decode cX4_lengthAt 43 = .ok (.isub, 1) := by decide +kernel
theorem dX4_lengthAt_44 : decode cX4_lengthAt 44 = .ok (.iload_n 3, 1) := by decide +kernel
theorem dX4_lengthAt_45 : decode cX4_lengthAt 45 = .ok (.if_icmp .le 7, 3) := by decide +kernel
theorem dX4_lengthAt_48 : decode cX4_lengthAt 48 = .ok (.iload 7, 2) := by decide +kernel
theorem dX4_lengthAt_50 : decode cX4_lengthAt 50 = .ok (.istore 5, 2) := by decide +kernel
theorem dX4_lengthAt_52 : decode cX4_lengthAt 52 = .ok (.iload 8, 2) := by decide +kernel
theorem dX4_lengthAt_54 : decode cX4_lengthAt 54 = .ok (.istore 6, 2) := by decide +kernel
theorem dX4_lengthAt_56 : decode cX4_lengthAt 56 = .ok (.iinc 7 1, 3) := by decide +kernel
theorem dX4_lengthAt_59 : decode cX4_lengthAt 59 = .ok (.goto (-39), 3) := by decide +kernel
theorem dX4_lengthAt_62 : decode cX4_lengthAt 62 = .ok (.iload 5, 2) := by decide +kernel
theorem dX4_lengthAt_64 : decode cX4_lengthAt 64 = .ok (.ifCond .ne 8, 3) := by decide +kernel
theorem dX4_lengthAt_67 : decode cX4_lengthAt 67 = .ok (.bipush (-4), 2) := by decide +kernel
theorem dX4_lengthAt_69 : decode cX4_lengthAt 69 = .ok (.goto 5, 3) := by decide +kernel
theorem dX4_lengthAt_72 : decode cX4_lengthAt 72 = .ok (.iload 5, 2) := by decide +kernel
theorem dX4_lengthAt_74 : decode cX4_lengthAt 74 = .ok (.ireturn, 1) := by decide +kernel
theorem dX4_lengthsFrom_0 : decode cX4_lengthsFrom 0 = .ok (.aload_n 0, 1) := by decide +kernel
theorem dX4_lengthsFrom_1 : decode cX4_lengthsFrom 1 = .ok (.aload_n 1, 1) := by decide +kernel
theorem dX4_lengthsFrom_2 : decode cX4_lengthsFrom 2 = .ok (.aload_n 0, 1) := by decide +kernel
theorem dX4_lengthsFrom_3 : decode cX4_lengthsFrom 3 = .ok (.getfield 25, 3) := by decide +kernel
theorem dX4_lengthsFrom_6 : decode cX4_lengthsFrom 6 = .ok (.invokevirtual 72, 3) := by decide +kernel
theorem dX4_lengthsFrom_9 : decode cX4_lengthsFrom 9 = .ok (.istore 4, 2) := by decide +kernel
theorem dX4_lengthsFrom_11 : decode cX4_lengthsFrom 11 = .ok (.iconst 0, 1) := by decide +kernel
theorem dX4_lengthsFrom_12 : decode cX4_lengthsFrom 12 = .ok (.istore 5, 2) := by decide +kernel
theorem dX4_lengthsFrom_14 : decode cX4_lengthsFrom 14 = .ok (.iload_n 2, 1) := by decide +kernel
theorem dX4_lengthsFrom_15 : decode cX4_lengthsFrom 15 = .ok (.istore 6, 2) := by decide +kernel
theorem dX4_lengthsFrom_17 : decode cX4_lengthsFrom 17 = .ok (.iload 6, 2) := by decide +kernel
theorem dX4_lengthsFrom_19 : decode cX4_lengthsFrom 19 = .ok (.iload_n 3, 1) := by decide +kernel
theorem dX4_lengthsFrom_20 : decode cX4_lengthsFrom 20 = .ok (.if_icmp .gt 34, 3) := by decide +kernel
theorem dX4_lengthsFrom_23 : decode cX4_lengthsFrom 23 = .ok (.iload 6, 2) := by decide +kernel
theorem dX4_lengthsFrom_25 : decode cX4_lengthsFrom 25 = .ok (.bipush 7, 2) := by decide +kernel
theorem dX4_lengthsFrom_27 : decode cX4_lengthsFrom 27 = .ok (.if_icmp .gt 27, 3) := by decide +kernel
theorem dX4_lengthsFrom_30 : decode cX4_lengthsFrom 30 = .ok (.iload 5, 2) := by decide +kernel
theorem dX4_lengthsFrom_32 : decode cX4_lengthsFrom 32 = .ok (.aload_n 0, 1) := by decide +kernel
theorem dX4_lengthsFrom_33 : decode cX4_lengthsFrom 33 = .ok (.aload_n 1, 1) := by decide +kernel
theorem dX4_lengthsFrom_34 : decode cX4_lengthsFrom 34 = .ok (.iload 6, 2) := by decide +kernel
theorem dX4_lengthsFrom_36 : decode cX4_lengthsFrom 36 = .ok (.iconst 4, 1) := by decide +kernel
theorem dX4_lengthsFrom_37 : decode cX4_lengthsFrom 37 = .ok (.invokevirtual 61, 3) := by decide +kernel
theorem dX4_lengthsFrom_40 : decode cX4_lengthsFrom 40 = .ok (.iconst 4, 1) := by decide +kernel
theorem dX4_lengthsFrom_41 : decode cX4_lengthsFrom 41 = .ok (.iload 4, 2) := by decide +kernel
theorem dX4_lengthsFrom_43 : decode cX4_lengthsFrom 43 = .ok (.imul, 1) := by decide +kernel
theorem dX4_lengthsFrom_44 : decode cX4_lengthsFrom 44 = .ok (.isub, 1) := by decide +kernel
theorem dX4_lengthsFrom_45 : decode cX4_lengthsFrom 45 = .ok (.iadd, 1) := by decide +kernel
theorem dX4_lengthsFrom_46 : decode cX4_lengthsFrom 46 = .ok (.istore 5, 2) := by decide +kernel
theorem dX4_lengthsFrom_48 : decode cX4_lengthsFrom 48 = .ok (.iinc 6 1, 3) := by decide +kernel
theorem dX4_lengthsFrom_51 : decode cX4_lengthsFrom 51 = .ok (.goto (-34), 3) := by decide +kernel
theorem dX4_lengthsFrom_54 : decode cX4_lengthsFrom 54 = .ok (.iload 5, 2) := by decide +kernel
theorem dX4_lengthsFrom_56 : decode cX4_lengthsFrom 56 = .ok (.ireturn, 1) := by decide +kernel
theorem dX4_columnsOfIndices_0 : decode cX4_columnsOfIndices 0 = .ok (.aload_n 0, 1) := by decide +kernel
theorem dX4_columnsOfIndices_1 : decode cX4_columnsOfIndices 1 = .ok (.aload_n 1, 1) := by decide +kernel
theorem dX4_columnsOfIndices_2 : decode cX4_columnsOfIndices 2 = .ok (.aload_n 0, 1) := by decide +kernel
theorem dX4_columnsOfIndices_3 : decode cX4_columnsOfIndices 3 = .ok (.getfield 25, 3) := by decide +kernel
theorem dX4_columnsOfIndices_6 : decode cX4_columnsOfIndices 6 = .ok (.invokevirtual 72, 3) := by decide +kernel
theorem dX4_columnsOfIndices_9 : decode cX4_columnsOfIndices 9 = .ok (.pop, 1) := by decide +kernel
theorem dX4_columnsOfIndices_10 : decode cX4_columnsOfIndices 10 = .ok (.aload_n 0, 1) := by decide +kernel
theorem dX4_columnsOfIndices_11 : decode cX4_columnsOfIndices 11 = .ok (.aload_n 0, 1) := by decide +kernel
theorem dX4_columnsOfIndices_12 : decode cX4_columnsOfIndices 12 = .ok (.aload_n 1, 1) := by decide +kernel
theorem dX4_columnsOfIndices_13 : decode cX4_columnsOfIndices 13 = .ok (.invokevirtual 80, 3) := by decide +kernel
theorem dX4_columnsOfIndices_16 : decode cX4_columnsOfIndices 16 = .ok (.aload_n 0, 1) := by decide +kernel
theorem dX4_columnsOfIndices_17 : decode cX4_columnsOfIndices 17 = .ok (.getfield 29, 3) := by decide +kernel
theorem dX4_columnsOfIndices_20 : decode cX4_columnsOfIndices 20 = .ok (.invokevirtual 72, 3) := by decide +kernel
theorem dX4_columnsOfIndices_23 : decode cX4_columnsOfIndices 23 = .ok (.pop, 1) := by decide +kernel
theorem dX4_columnsOfIndices_24 : decode cX4_columnsOfIndices 24 = .ok (.iconst 0, 1) := by decide +kernel
theorem dX4_columnsOfIndices_25 : decode cX4_columnsOfIndices 25 = .ok (.istore_n 2, 1) := by decide +kernel
theorem dX4_columnsOfIndices_26 : decode cX4_columnsOfIndices 26 = .ok (.iconst 0, 1) := by decide +kernel
theorem dX4_columnsOfIndices_27 : decode cX4_columnsOfIndices 27 = .ok (.istore_n 3, 1) := by decide +kernel
theorem dX4_columnsOfIndices_28 : decode cX4_columnsOfIndices 28 = .ok (.iload_n 3, 1) := by decide +kernel
theorem dX4_columnsOfIndices_29 : decode cX4_columnsOfIndices 29 = .ok (.iconst 5, 1) := by decide +kernel
theorem dX4_columnsOfIndices_30 : decode cX4_columnsOfIndices 30 = .ok (.if_icmp .ge 31, 3) := by decide +kernel
theorem dX4_columnsOfIndices_33 : decode cX4_columnsOfIndices 33 = .ok (.iload_n 2, 1) := by decide +kernel
theorem dX4_columnsOfIndices_34 : decode cX4_columnsOfIndices 34 = .ok (.iload_n 3, 1) := by decide +kernel
theorem dX4_columnsOfIndices_35 : decode cX4_columnsOfIndices 35 = .ok (.iconst 1, 1) := by decide +kernel
theorem dX4_columnsOfIndices_36 : decode cX4_columnsOfIndices 36 = .ok (.iadd, 1) := by decide +kernel
theorem dX4_columnsOfIndices_37 : decode cX4_columnsOfIndices 37 = .ok (.aload_n 0, 1) := by decide +kernel
theorem dX4_columnsOfIndices_38 : decode cX4_columnsOfIndices 38 = .ok (.getfield 25, 3) := by decide +kernel
theorem dX4_columnsOfIndices_41 : decode cX4_columnsOfIndices 41 = .ok (.iload_n 3, 1) := by decide +kernel
theorem dX4_columnsOfIndices_42 : decode cX4_columnsOfIndices 42 = .ok (.iaload, 1) := by decide +kernel
theorem dX4_columnsOfIndices_43 : decode cX4_columnsOfIndices 43 = .ok (.imul, 1) := by decide +kernel
theorem dX4_columnsOfIndices_44 : decode cX4_columnsOfIndices 44 = .ok (.iload_n 3, 1) := by decide +kernel
theorem dX4_columnsOfIndices_45 : decode cX4_columnsOfIndices 45 = .ok (.aload_n 0, 1) := by decide +kernel
theorem dX4_columnsOfIndices_46 : decode cX4_columnsOfIndices 46 = .ok (.getfield 29, 3) := by decide +kernel
theorem dX4_columnsOfIndices_49 : decode cX4_columnsOfIndices 49 = .ok (.iload_n 3, 1) := by decide +kernel
theorem dX4_columnsOfIndices_50 : decode cX4_columnsOfIndices 50 = .ok (.iaload, 1) := by decide +kernel
theorem dX4_columnsOfIndices_51 : decode cX4_columnsOfIndices 51 = .ok (.imul, 1) := by decide +kernel
theorem dX4_columnsOfIndices_52 : decode cX4_columnsOfIndices 52 = .ok (.iadd, 1) := by decide +kernel
theorem dX4_columnsOfIndices_53 : decode cX4_columnsOfIndices 53 = .ok (.iadd, 1) := by decide +kernel
theorem dX4_columnsOfIndices_54 : decode cX4_columnsOfIndices 54 = .ok (.istore_n 2, 1) := by decide +kernel
theorem dX4_columnsOfIndices_55 : decode cX4_columnsOfIndices 55 = .ok (.iinc 3 1, 3) := by decide +kernel
theorem dX4_columnsOfIndices_58 : decode cX4_columnsOfIndices 58 = .ok (.goto (-30), 3) := by decide +kernel
theorem dX4_columnsOfIndices_61 : decode cX4_columnsOfIndices 61 = .ok (.iload_n 2, 1) := by decide +kernel
theorem dX4_columnsOfIndices_62 : decode cX4_columnsOfIndices 62 = .ok (.ireturn, 1) := by decide +kernel
theorem dX4_tellForm_0 : decode cX4_tellForm 0 = .ok (.aload_n 2, 1) := by decide +kernel
theorem dX4_tellForm_1 : decode cX4_tellForm 1 = .ok (.iconst 0, 1) := by decide +kernel
theorem dX4_tellForm_2 : decode cX4_tellForm 2 = .ok (.invokestatic 84, 3) := by decide +kernel
theorem dX4_tellForm_5 : decode cX4_tellForm 5 = .ok (.aload_n 0, 1) := by decide +kernel
theorem dX4_tellForm_6 : decode cX4_tellForm 6 = .ok (.aload_n 1, 1) := by decide +kernel
theorem dX4_tellForm_7 : decode cX4_tellForm 7 = .ok (.aload_n 0, 1) := by decide +kernel
theorem dX4_tellForm_8 : decode cX4_tellForm 8 = .ok (.getfield 25, 3) := by decide +kernel
theorem dX4_tellForm_11 : decode cX4_tellForm 11 = .ok (.invokevirtual 72, 3) := by decide +kernel
theorem dX4_tellForm_14 : decode cX4_tellForm 14 = .ok (.pop, 1) := by decide +kernel
theorem dX4_tellForm_15 : decode cX4_tellForm 15 = .ok (.aload_n 0, 1) := by decide +kernel
theorem dX4_tellForm_16 : decode cX4_tellForm 16 = .ok (.aload_n 0, 1) := by decide +kernel
theorem dX4_tellForm_17 : decode cX4_tellForm 17 = .ok (.aload_n 1, 1) := by decide +kernel
theorem dX4_tellForm_18 : decode cX4_tellForm 18 = .ok (.invokevirtual 80, 3) := by decide +kernel
theorem dX4_tellForm_21 : decode cX4_tellForm 21 = .ok (.aload_n 0, 1) := by decide +kernel
theorem dX4_tellForm_22 : decode cX4_tellForm 22 = .ok (.getfield 29, 3) := by decide +kernel
theorem dX4_tellForm_25 : decode cX4_tellForm 25 = .ok (.invokevirtual 72, 3) := by decide +kernel
theorem dX4_tellForm_28 : decode cX4_tellForm 28 = .ok (.pop, 1) := by decide +kernel
theorem dX4_tellForm_29 : decode cX4_tellForm 29 = .ok (.aload_n 2, 1) := by decide +kernel
theorem dX4_tellForm_30 : decode cX4_tellForm 30 = .ok (.iconst 0, 1) := by decide +kernel
theorem dX4_tellForm_31 : decode cX4_tellForm 31 = .ok (.aload_n 1, 1) := by decide +kernel
theorem dX4_tellForm_32 : decode cX4_tellForm 32 = .ok (.getfield 58, 3) := by decide +kernel
theorem dX4_tellForm_35 : decode cX4_tellForm 35 = .ok (.invokestatic 90, 3) := by decide +kernel
theorem dX4_tellForm_38 : decode cX4_tellForm 38 = .ok (.istore_n 3, 1) := by decide +kernel
theorem dX4_tellForm_39 : decode cX4_tellForm 39 = .ok (.aload_n 2, 1) := by decide +kernel
theorem dX4_tellForm_40 : decode cX4_tellForm 40 = .ok (.iload_n 3, 1) := by decide +kernel
theorem dX4_tellForm_41 : decode cX4_tellForm 41 = .ok (.aload_n 1, 1) := by decide +kernel
theorem dX4_tellForm_42 : decode cX4_tellForm 42 = .ok (.getfield 94, 3) := by decide +kernel
theorem dX4_tellForm_45 : decode cX4_tellForm 45 = .ok (.invokestatic 90, 3) := by decide +kernel
theorem dX4_tellForm_48 : decode cX4_tellForm 48 = .ok (.istore_n 3, 1) := by decide +kernel
theorem dX4_tellForm_49 : decode cX4_tellForm 49 = .ok (.aload_n 2, 1) := by decide +kernel
theorem dX4_tellForm_50 : decode cX4_tellForm 50 = .ok (.iload_n 3, 1) := by decide +kernel
theorem dX4_tellForm_51 : decode cX4_tellForm 51 = .ok (.aload_n 1, 1) := by decide +kernel
theorem dX4_tellForm_52 : decode cX4_tellForm 52 = .ok (.getfield 65, 3) := by decide +kernel
theorem dX4_tellForm_55 : decode cX4_tellForm 55 = .ok (.invokestatic 90, 3) := by decide +kernel
theorem dX4_tellForm_58 : decode cX4_tellForm 58 = .ok (.istore_n 3, 1) := by decide +kernel
theorem dX4_tellForm_59 : decode cX4_tellForm 59 = .ok (.iconst 0, 1) := by decide +kernel
theorem dX4_tellForm_60 : decode cX4_tellForm 60 = .ok (.istore 4, 2) := by decide +kernel
theorem dX4_tellForm_62 : decode cX4_tellForm 62 = .ok (.iload 4, 2) := by decide +kernel
theorem dX4_tellForm_64 : decode cX4_tellForm 64 = .ok (.iconst 5, 1) := by decide +kernel
theorem dX4_tellForm_65 : decode cX4_tellForm 65 = .ok (.if_icmp .ge 35, 3) := by decide +kernel
theorem dX4_tellForm_68 : decode cX4_tellForm 68 = .ok (.aload_n 2, 1) := by decide +kernel
theorem dX4_tellForm_69 : decode cX4_tellForm 69 = .ok (.iload_n 3, 1) := by decide +kernel
theorem dX4_tellForm_70 : decode cX4_tellForm 70 = .ok (.aload_n 0, 1) := by decide +kernel
theorem dX4_tellForm_71 : decode cX4_tellForm 71 = .ok (.getfield 25, 3) := by decide +kernel
theorem dX4_tellForm_74 : decode cX4_tellForm 74 = .ok (.iload 4, 2) := by decide +kernel
theorem dX4_tellForm_76 : decode cX4_tellForm 76 = .ok (.iaload, 1) := by decide +kernel
theorem dX4_tellForm_77 : decode cX4_tellForm 77 = .ok (.invokestatic 90, 3) := by decide +kernel
theorem dX4_tellForm_80 : decode cX4_tellForm 80 = .ok (.istore_n 3, 1) := by decide +kernel
theorem dX4_tellForm_81 : decode cX4_tellForm 81 = .ok (.aload_n 2, 1) := by decide +kernel
theorem dX4_tellForm_82 : decode cX4_tellForm 82 = .ok (.iload_n 3, 1) := by decide +kernel
theorem dX4_tellForm_83 : decode cX4_tellForm 83 = .ok (.aload_n 0, 1) := by decide +kernel
theorem dX4_tellForm_84 : decode cX4_tellForm 84 = .ok (.getfield 29, 3) := by decide +kernel
theorem dX4_tellForm_87 : decode cX4_tellForm 87 = .ok (.iload 4, 2) := by decide +kernel
theorem dX4_tellForm_89 : decode cX4_tellForm 89 = .ok (.iaload, 1) := by decide +kernel
theorem dX4_tellForm_90 : decode cX4_tellForm 90 = .ok (.invokestatic 90, 3) := by decide +kernel
theorem dX4_tellForm_93 : decode cX4_tellForm 93 = .ok (.istore_n 3, 1) := by decide +kernel
theorem dX4_tellForm_94 : decode cX4_tellForm 94 = .ok (.iinc 4 1, 3) := by decide +kernel
theorem dX4_tellForm_97 : decode cX4_tellForm 97 = .ok (.goto (-35), 3) := by decide +kernel
theorem dX4_tellForm_100 : decode cX4_tellForm 100 = .ok (.iconst 0, 1) := by decide +kernel
theorem dX4_tellForm_101 : decode cX4_tellForm 101 = .ok (.istore 4, 2) := by decide +kernel
theorem dX4_tellForm_103 : decode cX4_tellForm 103 = .ok (.iload 4, 2) := by decide +kernel
theorem dX4_tellForm_105 : decode cX4_tellForm 105 = .ok (.aload_n 1, 1) := by decide +kernel
theorem dX4_tellForm_106 : decode cX4_tellForm 106 = .ok (.getfield 58, 3) := by decide +kernel
theorem dX4_tellForm_109 : decode cX4_tellForm 109 = .ok (.if_icmp .gt 39, 3) := by decide +kernel
theorem dX4_tellForm_112 : decode cX4_tellForm 112 = .ok (.iconst 1, 1) := by decide +kernel
theorem dX4_tellForm_113 : decode cX4_tellForm 113 = .ok (.istore 5, 2) := by decide +kernel
theorem dX4_tellForm_115 : decode cX4_tellForm 115 = .ok (.iload 5, 2) := by decide +kernel
theorem dX4_tellForm_117 : decode cX4_tellForm 117 = .ok (.iconst 4, 1) := by decide +kernel
theorem dX4_tellForm_118 : decode cX4_tellForm 118 = .ok (.if_icmp .gt 24, 3) := by decide +kernel
theorem dX4_tellForm_121 : decode cX4_tellForm 121 = .ok (.aload_n 2, 1) := by decide +kernel
theorem dX4_tellForm_122 : decode cX4_tellForm 122 = .ok (.iload_n 3, 1) := by decide +kernel
theorem dX4_tellForm_123 : decode cX4_tellForm 123 = .ok (.aload_n 0, 1) := by decide +kernel
theorem dX4_tellForm_124 : decode cX4_tellForm 124 = .ok (.aload_n 1, 1) := by decide +kernel
theorem dX4_tellForm_125 : decode cX4_tellForm 125 = .ok (.iload 4, 2) := by decide +kernel
theorem dX4_tellForm_127 : decode cX4_tellForm 127 = .ok (.iload 5, 2) := by decide +kernel
theorem dX4_tellForm_129 : decode cX4_tellForm 129 = .ok (.invokevirtual 61, 3) := by decide +kernel
theorem dX4_tellForm_132 : decode cX4_tellForm 132 = .ok (.invokestatic 90, 3) := by decide +kernel
theorem dX4_tellForm_135 : decode cX4_tellForm 135 = .ok (.istore_n 3, 1) := by decide +kernel
theorem dX4_tellForm_136 : decode cX4_tellForm 136 = .ok (.iinc 5 1, 3) := by decide +kernel
theorem dX4_tellForm_139 : decode cX4_tellForm 139 = .ok (.goto (-24), 3) := by decide +kernel
theorem dX4_tellForm_142 : decode cX4_tellForm 142 = .ok (.iinc 4 1, 3) := by decide +kernel
theorem dX4_tellForm_145 : decode cX4_tellForm 145 = .ok (.goto (-42), 3) := by decide +kernel
theorem dX4_tellForm_148 : decode cX4_tellForm 148 = .ok (.return_, 1) := by decide +kernel
theorem dX4_putChains_0 : decode cX4_putChains 0 = .ok (.iload_n 2, 1) := by decide +kernel
theorem dX4_putChains_1 : decode cX4_putChains 1 = .ok (.aload_n 1, 1) := by decide +kernel
theorem dX4_putChains_2 : decode cX4_putChains 2 = .ok (.getfield 58, 3) := by decide +kernel
theorem dX4_putChains_5 : decode cX4_putChains 5 = .ok (.if_icmp .ne 7, 3) := by decide +kernel
theorem dX4_putChains_8 : decode cX4_putChains 8 = .ok (.iconst 1, 1) := by decide +kernel
theorem dX4_putChains_9 : decode cX4_putChains 9 = .ok (.goto 4, 3) := by decide +kernel
theorem dX4_putChains_12 : decode cX4_putChains 12 = .ok (.iconst 0, 1) := by decide +kernel
theorem dX4_putChains_13 : decode cX4_putChains 13 = .ok (.istore 4, 2) := by decide +kernel
theorem dX4_putChains_15 : decode cX4_putChains 15 = .ok (.aload_n 0, 1) := by decide +kernel
theorem dX4_putChains_16 : decode cX4_putChains 16 = .ok (.getfield 21, 3) := by decide +kernel
theorem dX4_putChains_19 : decode cX4_putChains 19 = .ok (.aload_n 1, 1) := by decide +kernel
theorem dX4_putChains_20 : decode cX4_putChains 20 = .ok (.iload_n 3, 1) := by decide +kernel
theorem dX4_putChains_21 : decode cX4_putChains 21 = .ok (.iload_n 3, 1) := by decide +kernel
theorem dX4_putChains_22 : decode cX4_putChains 22 = .ok (.invokevirtual 43, 3) := by decide +kernel
theorem dX4_putChains_25 : decode cX4_putChains 25 = .ok (.iconst 0, 1) := by decide +kernel
theorem dX4_putChains_26 : decode cX4_putChains 26 = .ok (.istore 5, 2) := by decide +kernel
theorem dX4_putChains_28 : decode cX4_putChains 28 = .ok (.iload 5, 2) := by decide +kernel
theorem dX4_putChains_30 : decode cX4_putChains 30 = .ok (.iload_n 3, 1) := by decide +kernel
theorem dX4_putChains_31 : decode cX4_putChains 31 = .ok (.if_icmp .ge 81, 3) := by decide +kernel
theorem dX4_putChains_34 : decode cX4_putChains 34 = .ok (.aload_n 0, 1) := by decide +kernel
theorem dX4_putChains_35 : decode cX4_putChains 35 = .ok (.getfield 21, 3) := by decide +kernel
theorem dX4_putChains_38 : decode cX4_putChains 38 = .ok (.aload_n 1, 1) := by decide +kernel
theorem dX4_putChains_39 : decode cX4_putChains 39 = .ok (.iload 5, 2) := by decide +kernel
theorem dX4_putChains_41 : decode cX4_putChains 41 = .ok (.iload 5, 2) := by decide +kernel
theorem dX4_putChains_43 : decode cX4_putChains 43 = .ok (.iload 4, 2) := by decide +kernel
theorem dX4_putChains_45 : decode cX4_putChains 45 = .ok (.ifCond .eq 7, 3) := by decide +kernel
theorem dX4_putChains_48 : decode cX4_putChains 48 = .ok (.iconst 0, 1) := by decide +kernel
theorem dX4_putChains_49 : decode cX4_putChains 49 = .ok (.goto 4, 3) := by decide +kernel
theorem dX4_putChains_52 : decode cX4_putChains 52 = .ok (.iconst 1, 1) := by decide +kernel
theorem dX4_putChains_53 : decode cX4_putChains 53 = .ok (.iload 4, 2) := by decide +kernel
theorem dX4_putChains_55 : decode cX4_putChains 55 = .ok (.ifCond .eq 7, 3) := by decide +kernel
theorem dX4_putChains_58 : decode cX4_putChains 58 = .ok (.iconst 1, 1) := by decide +kernel
theorem dX4_putChains_59 : decode cX4_putChains 59 = .ok (.goto 5, 3) := by decide +kernel
theorem dX4_putChains_62 : decode cX4_putChains 62 = .ok (.iload_n 2, 1) := by decide +kernel
theorem dX4_putChains_63 : decode cX4_putChains 63 = .ok (.ineg, 1) := by decide +kernel
theorem dX4_putChains_64 : decode cX4_putChains 64 = .ok (.invokevirtual 46, 3) := by decide +kernel
theorem dX4_putChains_67 : decode cX4_putChains 67 = .ok (.iload 5, 2) := by decide +kernel
theorem dX4_putChains_69 : decode cX4_putChains 69 = .ok (.ifCond .le 37, 3) := by decide +kernel
theorem dX4_putChains_72 : decode cX4_putChains 72 = .ok (.aload_n 0, 1) := by decide +kernel
theorem dX4_putChains_73 : decode cX4_putChains 73 = .ok (.getfield 21, 3) := by decide +kernel
theorem dX4_putChains_76 : decode cX4_putChains 76 = .ok (.aload_n 1, 1) := by decide +kernel
theorem dX4_putChains_77 : decode cX4_putChains 77 = .ok (.iload 5, 2) := by decide +kernel
theorem dX4_putChains_79 : decode cX4_putChains 79 = .ok (.iload 5, 2) := by decide +kernel
theorem dX4_putChains_81 : decode cX4_putChains 81 = .ok (.iconst 1, 1) := by decide +kernel
theorem dX4_putChains_82 : decode cX4_putChains 82 = .ok (.isub, 1) := by decide +kernel
theorem dX4_putChains_83 : decode cX4_putChains 83 = .ok (.iload 4, 2) := by decide +kernel
theorem dX4_putChains_85 : decode cX4_putChains 85 = .ok (.ifCond .eq 7, 3) := by decide +kernel
theorem dX4_putChains_88 : decode cX4_putChains 88 = .ok (.iconst (-1), 1) := by decide +kernel
theorem dX4_putChains_89 : decode cX4_putChains 89 = .ok (.goto 4, 3) := by decide +kernel
theorem dX4_putChains_92 : decode cX4_putChains 92 = .ok (.iconst 0, 1) := by decide +kernel
theorem dX4_putChains_93 : decode cX4_putChains 93 = .ok (.iload 4, 2) := by decide +kernel
theorem dX4_putChains_95 : decode cX4_putChains 95 = .ok (.ifCond .eq 7, 3) := by decide +kernel
theorem dX4_putChains_98 : decode cX4_putChains 98 = .ok (.iconst 0, 1) := by decide +kernel
theorem dX4_putChains_99 : decode cX4_putChains 99 = .ok (.goto 4, 3) := by decide +kernel
theorem dX4_putChains_102 : decode cX4_putChains 102 = .ok (.iconst (-1), 1) := by decide +kernel
theorem dX4_putChains_103 : decode cX4_putChains 103 = .ok (.invokevirtual 46, 3) := by decide +kernel
theorem dX4_putChains_106 : decode cX4_putChains 106 = .ok (.iinc 5 1, 3) := by decide +kernel
theorem dX4_putChains_109 : decode cX4_putChains 109 = .ok (.goto (-81), 3) := by decide +kernel
theorem dX4_putChains_112 : decode cX4_putChains 112 = .ok (.return_, 1) := by decide +kernel
theorem dX4_countIndices_0 : decode cX4_countIndices 0 = .ok (.iconst 0, 1) := by decide +kernel
theorem dX4_countIndices_1 : decode cX4_countIndices 1 = .ok (.istore_n 3, 1) := by decide +kernel
theorem dX4_countIndices_2 : decode cX4_countIndices 2 = .ok (.iconst 0, 1) := by decide +kernel
theorem dX4_countIndices_3 : decode cX4_countIndices 3 = .ok (.istore 4, 2) := by decide +kernel
theorem dX4_countIndices_5 : decode cX4_countIndices 5 = .ok (.iconst 0, 1) := by decide +kernel
theorem dX4_countIndices_6 : decode cX4_countIndices 6 = .ok (.istore 5, 2) := by decide +kernel
theorem dX4_countIndices_8 : decode cX4_countIndices 8 = .ok (.iconst 0, 1) := by decide +kernel
theorem dX4_countIndices_9 : decode cX4_countIndices 9 = .ok (.istore 6, 2) := by decide +kernel
theorem dX4_countIndices_11 : decode cX4_countIndices 11 = .ok (.iload 6, 2) := by decide +kernel
theorem dX4_countIndices_13 : decode cX4_countIndices 13 = .ok (.iconst 5, 1) := by decide +kernel
theorem dX4_countIndices_14 : decode cX4_countIndices 14 = .ok (.if_icmp .ge 54, 3) := by decide +kernel
theorem dX4_countIndices_17 : decode cX4_countIndices 17 = .ok (.iload 6, 2) := by decide +kernel
theorem dX4_countIndices_19 : decode cX4_countIndices 19 = .ok (.aload_n 2, 1) := by decide +kernel
theorem dX4_countIndices_20 : decode cX4_countIndices 20 = .ok (.arraylength, 1) := by decide +kernel
theorem dX4_countIndices_21 : decode cX4_countIndices 21 = .ok (.if_icmp .ge 47, 3) := by decide +kernel
theorem dX4_countIndices_24 : decode cX4_countIndices 24 = .ok (.aload_n 0, 1) := by decide +kernel
theorem dX4_countIndices_25 : decode cX4_countIndices 25 = .ok (.aload_n 1, 1) := by decide +kernel
theorem dX4_countIndices_26 : decode cX4_countIndices 26 = .ok (.iload 6, 2) := by decide +kernel
theorem dX4_countIndices_28 : decode cX4_countIndices 28 = .ok (.invokevirtual 97, 3) := by decide +kernel
theorem dX4_countIndices_31 : decode cX4_countIndices 31 = .ok (.istore 7, 2) := by decide +kernel
theorem dX4_countIndices_33 : decode cX4_countIndices 33 = .ok (.aload_n 2, 1) := by decide +kernel
theorem dX4_countIndices_34 : decode cX4_countIndices 34 = .ok (.iload 6, 2) := by decide +kernel
theorem dX4_countIndices_36 : decode cX4_countIndices 36 = .ok (.iload 7, 2) := by decide +kernel
theorem dX4_countIndices_38 : decode cX4_countIndices 38 = .ok (.iconst 2, 1) := by decide +kernel
theorem dX4_countIndices_39 : decode cX4_countIndices 39 = .ok (.iload 4, 2) := by decide +kernel
theorem dX4_countIndices_41 : decode cX4_countIndices 41 = .ok (.imul, 1) := by decide +kernel
theorem dX4_countIndices_42 : decode cX4_countIndices 42 = .ok (.isub, 1) := by decide +kernel
theorem dX4_countIndices_43 : decode cX4_countIndices 43 = .ok (.iload 5, 2) := by decide +kernel
theorem dX4_countIndices_45 : decode cX4_countIndices 45 = .ok (.iadd, 1) := by decide +kernel
theorem dX4_countIndices_46 : decode cX4_countIndices 46 = .ok (.iastore, 1) := by decide +kernel
theorem dX4_countIndices_47 : decode cX4_countIndices 47 = .ok (.iload_n 3, 1) := by decide +kernel
theorem dX4_countIndices_48 : decode cX4_countIndices 48 = .ok (.aload_n 2, 1) := by decide +kernel
theorem dX4_countIndices_49 : decode cX4_countIndices 49 = .ok (.iload 6, 2) := by decide +kernel
theorem dX4_countIndices_51 : decode cX4_countIndices 51 = .ok (.iaload, 1) := by decide +kernel
theorem dX4_countIndices_52 : decode cX4_countIndices 52 = .ok (.iadd, 1) := by decide +kernel
theorem dX4_countIndices_53 : decode cX4_countIndices 53 = .ok (.istore_n 3, 1) := by decide +kernel
theorem dX4_countIndices_54 : decode cX4_countIndices 54 = .ok (.iload 4, 2) := by decide +kernel
theorem dX4_countIndices_56 : decode cX4_countIndices 56 = .ok (.istore 5, 2) := by decide +kernel
theorem dX4_countIndices_58 : decode cX4_countIndices 58 = .ok (.iload 7, 2) := by decide +kernel
theorem dX4_countIndices_60 : decode cX4_countIndices 60 = .ok (.istore 4, 2) := by decide +kernel
theorem dX4_countIndices_62 : decode cX4_countIndices 62 = .ok (.iinc 6 1, 3) := by decide +kernel
theorem dX4_countIndices_65 : decode cX4_countIndices 65 = .ok (.goto (-54), 3) := by decide +kernel
theorem dX4_countIndices_68 : decode cX4_countIndices 68 = .ok (.iload_n 3, 1) := by decide +kernel
theorem dX4_countIndices_69 : decode cX4_countIndices 69 = .ok (.ireturn, 1) := by decide +kernel
theorem dX4_flippedOf_0 : decode cX4_flippedOf 0 = .ok (.aload_n 0, 1) := by decide +kernel
theorem dX4_flippedOf_1 : decode cX4_flippedOf 1 = .ok (.getfield 14, 3) := by decide +kernel
theorem dX4_flippedOf_4 : decode cX4_flippedOf 4 = .ok (.aload_n 1, 1) := by decide +kernel
theorem dX4_flippedOf_5 : decode cX4_flippedOf 5 = .ok (.invokevirtual 100, 3) := by decide +kernel
theorem dX4_flippedOf_8 : decode cX4_flippedOf 8 = .ok (.aload_n 0, 1) := by decide +kernel
theorem dX4_flippedOf_9 : decode cX4_flippedOf 9 = .ok (.getfield 14, 3) := by decide +kernel
theorem dX4_flippedOf_12 : decode cX4_flippedOf 12 = .ok (.invokevirtual 104, 3) := by decide +kernel
theorem dX4_flippedOf_15 : decode cX4_flippedOf 15 = .ok (.aload_n 0, 1) := by decide +kernel
theorem dX4_flippedOf_16 : decode cX4_flippedOf 16 = .ok (.getfield 14, 3) := by decide +kernel
theorem dX4_flippedOf_19 : decode cX4_flippedOf 19 = .ok (.areturn, 1) := by decide +kernel
theorem dX4_indexIn_0 : decode cX4_indexIn 0 = .ok (.iconst 0, 1) := by decide +kernel
theorem dX4_indexIn_1 : decode cX4_indexIn 1 = .ok (.istore_n 2, 1) := by decide +kernel
theorem dX4_indexIn_2 : decode cX4_indexIn 2 = .ok (.iconst 0, 1) := by decide +kernel
theorem dX4_indexIn_3 : decode cX4_indexIn 3 = .ok (.istore_n 3, 1) := by decide +kernel
theorem dX4_indexIn_4 : decode cX4_indexIn 4 = .ok (.iload_n 3, 1) := by decide +kernel
theorem dX4_indexIn_5 : decode cX4_indexIn 5 = .ok (.aload_n 0, 1) := by decide +kernel
theorem dX4_indexIn_6 : decode cX4_indexIn 6 = .ok (.arraylength, 1) := by decide +kernel
theorem dX4_indexIn_7 : decode cX4_indexIn 7 = .ok (.if_icmp .ge 22, 3) := by decide +kernel
theorem dX4_indexIn_10 : decode cX4_indexIn 10 = .ok (.iload_n 2, 1) := by decide +kernel
theorem dX4_indexIn_11 : decode cX4_indexIn 11 = .ok (.aload_n 0, 1) := by decide +kernel
theorem dX4_indexIn_12 : decode cX4_indexIn 12 = .ok (.iload_n 3, 1) := by decide +kernel
theorem dX4_indexIn_13 : decode cX4_indexIn 13 = .ok (.iaload, 1) := by decide +kernel
theorem dX4_indexIn_14 : decode cX4_indexIn 14 = .ok (.iadd, 1) := by decide +kernel
theorem dX4_indexIn_15 : decode cX4_indexIn 15 = .ok (.istore_n 2, 1) := by decide +kernel
theorem dX4_indexIn_16 : decode cX4_indexIn 16 = .ok (.iload_n 1, 1) := by decide +kernel
theorem dX4_indexIn_17 : decode cX4_indexIn 17 = .ok (.iload_n 2, 1) := by decide +kernel
theorem dX4_indexIn_18 : decode cX4_indexIn 18 = .ok (.if_icmp .ge 5, 3) := by decide +kernel
theorem dX4_indexIn_21 : decode cX4_indexIn 21 = .ok (.iload_n 3, 1) := by decide +kernel
theorem dX4_indexIn_22 : decode cX4_indexIn 22 = .ok (.ireturn, 1) := by decide +kernel
theorem dX4_indexIn_23 : decode cX4_indexIn 23 = .ok (.iinc 3 1, 3) := by decide +kernel
theorem dX4_indexIn_26 : decode cX4_indexIn 26 = .ok (.goto (-22), 3) := by decide +kernel
theorem dX4_indexIn_29 : decode cX4_indexIn 29 = .ok (.bipush (-4), 2) := by decide +kernel
theorem dX4_indexIn_31 : decode cX4_indexIn 31 = .ok (.ireturn, 1) := by decide +kernel
theorem dX4_putIn_0 : decode cX4_putIn 0 = .ok (.iload_n 1, 1) := by decide +kernel
theorem dX4_putIn_1 : decode cX4_putIn 1 = .ok (.ifCond .lt 13, 3) := by decide +kernel
theorem dX4_putIn_4 : decode cX4_putIn 4 = .ok (.iload_n 1, 1) := by decide +kernel
theorem dX4_putIn_5 : decode cX4_putIn 5 = .ok (.aload_n 0, 1) := by decide +kernel
theorem dX4_putIn_6 : decode cX4_putIn 6 = .ok (.arraylength, 1) := by decide +kernel
theorem dX4_putIn_7 : decode cX4_putIn 7 = .ok (.if_icmp .ge 7, 3) := by decide +kernel
theorem dX4_putIn_10 : decode cX4_putIn 10 = .ok (.aload_n 0, 1) := by decide +kernel
theorem dX4_putIn_11 : decode cX4_putIn 11 = .ok (.iload_n 1, 1) := by decide +kernel
theorem dX4_putIn_12 : decode cX4_putIn 12 = .ok (.iload_n 2, 1) := by decide +kernel
theorem dX4_putIn_13 : decode cX4_putIn 13 = .ok (.iastore, 1) := by decide +kernel
theorem dX4_putIn_14 : decode cX4_putIn 14 = .ok (.iload_n 1, 1) := by decide +kernel
theorem dX4_putIn_15 : decode cX4_putIn 15 = .ok (.iconst 1, 1) := by decide +kernel
theorem dX4_putIn_16 : decode cX4_putIn 16 = .ok (.iadd, 1) := by decide +kernel
theorem dX4_putIn_17 : decode cX4_putIn 17 = .ok (.ireturn, 1) := by decide +kernel
