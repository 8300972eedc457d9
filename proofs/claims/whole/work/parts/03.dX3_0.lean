theorem dX3_init_0 : decode cX3_init 0 = .ok (.aload_n 0, 1) := by decide +kernel
theorem dX3_init_1 : decode cX3_init 1 = .ok (.invokespecial 3, 3) := by decide +kernel
theorem dX3_init_4 : decode cX3_init 4 = .ok (.aload_n 0, 1) := by decide +kernel
theorem dX3_init_5 : decode cX3_init 5 = .ok (.sipush 160, 3) := by decide +kernel
theorem dX3_init_8 : decode cX3_init 8 = .ok (.newarray .byte, 2) := by decide +kernel
theorem dX3_init_10 : decode cX3_init 10 = .ok (.putfield 9, 3) := by decide +kernel
theorem dX3_init_13 : decode cX3_init 13 = .ok (.aload_n 0, 1) := by decide +kernel
theorem dX3_init_14 : decode cX3_init 14 = .ok (.new 15, 3) := by decide +kernel
theorem dX3_init_17 : decode cX3_init 17 = .ok (.dup, 1) := by decide +kernel
theorem dX3_init_18 : decode cX3_init 18 = .ok (.invokespecial 17, 3) := by decide +kernel
theorem dX3_init_21 : decode cX3_init 21 = .ok (.putfield 18, 3) := by decide +kernel
theorem dX3_init_24 : decode cX3_init 24 = .ok (.return_, 1) := by decide +kernel
theorem dX3_addByte_0 : decode cX3_addByte 0 = .ok (.aload_n 0, 1) := by decide +kernel
theorem dX3_addByte_1 : decode cX3_addByte 1 = .ok (.getfield 22, 3) := by decide +kernel
theorem dX3_addByte_4 : decode cX3_addByte 4 = .ok (.sipush 160, 3) := by decide +kernel
theorem dX3_addByte_7 : decode cX3_addByte 7 = .ok (.if_icmp .lt 5, 3) := by decide +kernel
theorem dX3_addByte_10 : decode cX3_addByte 10 = .ok (.iconst 0, 1) := by decide +kernel
theorem dX3_addByte_11 : decode cX3_addByte 11 = .ok (.ireturn, 1) := by decide +kernel
theorem dX3_addByte_12 : decode cX3_addByte 12 = .ok (.aload_n 0, 1) := by decide +kernel
theorem dX3_addByte_13 : decode cX3_addByte 13 = .ok (.getfield 9, 3) := by decide +kernel
theorem dX3_addByte_16 : decode cX3_addByte 16 = .ok (.aload_n 0, 1) := by decide +kernel
theorem dX3_addByte_17 : decode cX3_addByte 17 = .ok (.getfield 22, 3) := by decide +kernel
theorem dX3_addByte_20 : decode cX3_addByte 20 = .ok (.iload_n 1, 1) := by decide +kernel
theorem dX3_addByte_21 : decode cX3_addByte 21 = .ok (.i2b, 1) := by decide +kernel
theorem dX3_addByte_22 : decode cX3_addByte 22 = .ok (.bastore, 1) := by decide +kernel
theorem dX3_addByte_23 : decode cX3_addByte 23 = .ok (.aload_n 0, 1) := by decide +kernel
theorem dX3_addByte_24 : decode cX3_addByte 24 = .ok (.dup, 1) := by decide +kernel
theorem dX3_addByte_25 : decode cX3_addByte 25 = .ok (.getfield 22, 3) := by decide +kernel
theorem dX3_addByte_28 : decode cX3_addByte 28 = .ok (.iconst 1, 1) := by decide +kernel
theorem dX3_addByte_29 : decode cX3_addByte 29 = .ok (.iadd, 1) := by decide +kernel
theorem dX3_addByte_30 : decode cX3_addByte 30 = .ok (.putfield 22, 3) := by decide +kernel
theorem dX3_addByte_33 : decode cX3_addByte 33 = .ok (.iconst 1, 1) := by decide +kernel
theorem dX3_addByte_34 : decode cX3_addByte 34 = .ok (.ireturn, 1) := by decide +kernel
theorem dX3_readText_0 : decode cX3_readText 0 = .ok (.aload_n 0, 1) := by decide +kernel
theorem dX3_readText_1 : decode cX3_readText 1 = .ok (.iconst 0, 1) := by decide +kernel
theorem dX3_readText_2 : decode cX3_readText 2 = .ok (.putfield 26, 3) := by decide +kernel
theorem dX3_readText_5 : decode cX3_readText 5 = .ok (.aload_n 0, 1) := by decide +kernel
theorem dX3_readText_6 : decode cX3_readText 6 = .ok (.iconst (-1), 1) := by decide +kernel
theorem dX3_readText_7 : decode cX3_readText 7 = .ok (.putfield 29, 3) := by decide +kernel
theorem dX3_readText_10 : decode cX3_readText 10 = .ok (.aload_n 0, 1) := by decide +kernel
theorem dX3_readText_11 : decode cX3_readText 11 = .ok (.iconst 0, 1) := by decide +kernel
theorem dX3_readText_12 : decode cX3_readText 12 = .ok (.putfield 32, 3) := by decide +kernel
theorem dX3_readText_15 : decode cX3_readText 15 = .ok (.aload_n 0, 1) := by decide +kernel
theorem dX3_readText_16 : decode cX3_readText 16 = .ok (.iconst 0, 1) := by decide +kernel
theorem dX3_readText_17 : decode cX3_readText 17 = .ok (.putfield 36, 3) := by decide +kernel
theorem dX3_readText_20 : decode cX3_readText 20 = .ok (.aload_n 0, 1) := by decide +kernel
theorem dX3_readText_21 : decode cX3_readText 21 = .ok (.iconst 0, 1) := by decide +kernel
theorem dX3_readText_22 : decode cX3_readText 22 = .ok (.putfield 39, 3) := by decide +kernel
theorem dX3_readText_25 : decode cX3_readText 25 = .ok (.aload_n 0, 1) := by decide +kernel
theorem dX3_readText_26 : decode cX3_readText 26 = .ok (.getfield 18, 3) := by decide +kernel
theorem dX3_readText_29 : decode cX3_readText 29 = .ok (.invokevirtual 42, 3) := by decide +kernel
theorem dX3_readText_32 : decode cX3_readText 32 = .ok (.aload_n 0, 1) := by decide +kernel
theorem dX3_readText_33 : decode cX3_readText 33 = .ok (.iconst 0, 1) := by decide +kernel
theorem dX3_readText_34 : decode cX3_readText 34 = .ok (.putfield 45, 3) := by decide +kernel
theorem dX3_readText_37 : decode cX3_readText 37 = .ok (.iconst 1, 1) := by decide +kernel
theorem dX3_readText_38 : decode cX3_readText 38 = .ok (.istore_n 1, 1) := by decide +kernel
theorem dX3_readText_39 : decode cX3_readText 39 = .ok (.iconst 0, 1) := by decide +kernel
theorem dX3_readText_40 : decode cX3_readText 40 = .ok (.istore_n 2, 1) := by decide +kernel
theorem dX3_readText_41 : decode cX3_readText 41 = .ok (.iload_n 2, 1) := by decide +kernel
theorem dX3_readText_42 : decode cX3_readText 42 = .ok (.aload_n 0, 1) := by decide +kernel
theorem dX3_readText_43 : decode cX3_readText 43 = .ok (.getfield 22, 3) := by decide +kernel
theorem dX3_readText_46 : decode cX3_readText 46 = .ok (.if_icmp .gt 58, 3) := by decide +kernel
theorem dX3_readText_49 : decode cX3_readText 49 = .ok (.iload_n 1, 1) := by decide +kernel
theorem dX3_readText_50 : decode cX3_readText 50 = .ok (.ifCond .eq 54, 3) := by decide +kernel
theorem dX3_readText_53 : decode cX3_readText 53 = .ok (.aload_n 0, 1) := by decide +kernel
theorem dX3_readText_54 : decode cX3_readText 54 = .ok (.invokevirtual 48, 3) := by decide +kernel
theorem dX3_readText_57 : decode cX3_readText 57 = .ok (.ifCond .eq 21, 3) := by decide +kernel
theorem dX3_readText_60 : decode cX3_readText 60 = .ok (.aload_n 0, 1) := by decide +kernel
theorem dX3_readText_61 : decode cX3_readText 61 = .ok (.getfield 52, 3) := by decide +kernel
theorem dX3_readText_64 : decode cX3_readText 64 = .ok (.ifCond .eq 14, 3) := by decide +kernel
theorem dX3_readText_67 : decode cX3_readText 67 = .ok (.aload_n 0, 1) := by decide +kernel
theorem dX3_readText_68 : decode cX3_readText 68 = .ok (.invokevirtual 55, 3) := by decide +kernel
theorem dX3_readText_71 : decode cX3_readText 71 = .ok (.ifCond .eq 7, 3) := by decide +kernel
theorem dX3_readText_74 : decode cX3_readText 74 = .ok (.iconst 1, 1) := by decide +kernel
theorem dX3_readText_75 : decode cX3_readText 75 = .ok (.goto 4, 3) := by decide +kernel
theorem dX3_readText_78 : decode cX3_readText 78 = .ok (.iconst 0, 1) := by decide +kernel
theorem dX3_readText_79 : decode cX3_readText 79 = .ok (.istore_n 1, 1) := by decide +kernel
theorem dX3_readText_80 : decode cX3_readText 80 = .ok (.aload_n 0, 1) := by decide +kernel
theorem dX3_readText_81 : decode cX3_readText 81 = .ok (.dup, 1) := by decide +kernel
theorem dX3_readText_82 : decode cX3_readText 82 = .ok (.getfield 45, 3) := by decide +kernel
theorem dX3_readText_85 : decode cX3_readText 85 = .ok (.iload_n 1, 1) := by decide +kernel
theorem dX3_readText_86 : decode cX3_readText 86 = .ok (.ifCond .eq 7, 3) := by decide +kernel
theorem dX3_readText_89 : decode cX3_readText 89 = .ok (.iconst 1, 1) := by decide +kernel
theorem dX3_readText_90 : decode cX3_readText 90 = .ok (.goto 4, 3) := by decide +kernel
theorem dX3_readText_93 : decode cX3_readText 93 = .ok (.iconst 0, 1) := by decide +kernel
theorem dX3_readText_94 : decode cX3_readText 94 = .ok (.iadd, 1) := by decide +kernel
theorem dX3_readText_95 : decode cX3_readText 95 = .ok (.putfield 45, 3) := by decide +kernel
theorem dX3_readText_98 : decode cX3_readText 98 = .ok (.iinc 2 1, 3) := by decide +kernel
theorem dX3_readText_101 : decode cX3_readText 101 = .ok (.goto (-60), 3) := by decide +kernel
theorem dX3_readText_104 : decode cX3_readText 104 = .ok (.aload_n 0, 1) := by decide +kernel
theorem dX3_readText_105 : decode cX3_readText 105 = .ok (.getfield 36, 3) := by decide +kernel
theorem dX3_readText_108 : decode cX3_readText 108 = .ok (.ifCond .ne 28, 3) := by decide +kernel
theorem dX3_readText_111 : decode cX3_readText 111 = .ok (.aload_n 0, 1) := by decide +kernel
theorem dX3_readText_112 : decode cX3_readText 112 = .ok (.getfield 29, 3) := by decide +kernel
theorem dX3_readText_115 : decode cX3_readText 115 = .ok (.aload_n 0, 1) := by decide +kernel
theorem dX3_readText_116 : decode cX3_readText 116 = .ok (.getfield 18, 3) := by decide +kernel
theorem dX3_readText_119 : decode cX3_readText 119 = .ok (.getfield 58, 3) := by decide +kernel
theorem dX3_readText_122 : decode cX3_readText 122 = .ok (.if_icmp .lt 14, 3) := by decide +kernel
theorem dX3_readText_125 : decode cX3_readText 125 = .ok (.aload_n 0, 1) := by decide +kernel
theorem dX3_readText_126 : decode cX3_readText 126 = .ok (.bipush 6, 2) := by decide +kernel
theorem dX3_readText_128 : decode cX3_readText 128 = .ok (.aload_n 0, 1) := by decide +kernel
theorem dX3_readText_129 : decode cX3_readText 129 = .ok (.getfield 22, 3) := by decide +kernel
theorem dX3_readText_132 : decode cX3_readText 132 = .ok (.invokevirtual 61, 3) := by decide +kernel
theorem dX3_readText_135 : decode cX3_readText 135 = .ok (.pop, 1) := by decide +kernel
theorem dX3_readText_136 : decode cX3_readText 136 = .ok (.return_, 1) := by decide +kernel
theorem dX3_readLine_0 : decode cX3_readLine 0 = .ok (.aload_n 0, 1) := by decide +kernel
theorem dX3_readLine_1 : decode cX3_readLine 1 = .ok (.getfield 52, 3) := by decide +kernel
theorem dX3_readLine_4 : decode cX3_readLine 4 = .ok (.iconst 1, 1) := by decide +kernel
theorem dX3_readLine_5 : decode cX3_readLine 5 = .ok (.if_icmp .ne 10, 3) := by decide +kernel
theorem dX3_readLine_8 : decode cX3_readLine 8 = .ok (.aload_n 0, 1) := by decide +kernel
theorem dX3_readLine_9 : decode cX3_readLine 9 = .ok (.invokevirtual 65, 3) := by decide +kernel
theorem dX3_readLine_12 : decode cX3_readLine 12 = .ok (.goto 4, 3) := by decide +kernel
theorem dX3_readLine_15 : decode cX3_readLine 15 = .ok (.iconst 0, 1) := by decide +kernel
theorem dX3_readLine_16 : decode cX3_readLine 16 = .ok (.istore_n 1, 1) := by decide +kernel
theorem dX3_readLine_17 : decode cX3_readLine 17 = .ok (.iload_n 1, 1) := by decide +kernel
theorem dX3_readLine_18 : decode cX3_readLine 18 = .ok (.ifCond .ne 13, 3) := by decide +kernel
theorem dX3_readLine_21 : decode cX3_readLine 21 = .ok (.aload_n 0, 1) := by decide +kernel
theorem dX3_readLine_22 : decode cX3_readLine 22 = .ok (.iconst 2, 1) := by decide +kernel
theorem dX3_readLine_23 : decode cX3_readLine 23 = .ok (.aload_n 0, 1) := by decide +kernel
theorem dX3_readLine_24 : decode cX3_readLine 24 = .ok (.getfield 69, 3) := by decide +kernel
theorem dX3_readLine_27 : decode cX3_readLine 27 = .ok (.invokevirtual 61, 3) := by decide +kernel
theorem dX3_readLine_30 : decode cX3_readLine 30 = .ok (.ireturn, 1) := by decide +kernel
theorem dX3_readLine_31 : decode cX3_readLine 31 = .ok (.iload_n 1, 1) := by decide +kernel
theorem dX3_readLine_32 : decode cX3_readLine 32 = .ok (.iconst 1, 1) := by decide +kernel
theorem dX3_readLine_33 : decode cX3_readLine 33 = .ok (.if_icmp .ne 10, 3) := by decide +kernel
theorem dX3_readLine_36 : decode cX3_readLine 36 = .ok (.aload_n 0, 1) := by decide +kernel
theorem dX3_readLine_37 : decode cX3_readLine 37 = .ok (.invokevirtual 72, 3) := by decide +kernel
theorem dX3_readLine_40 : decode cX3_readLine 40 = .ok (.goto 8, 3) := by decide +kernel
theorem dX3_readLine_43 : decode cX3_readLine 43 = .ok (.aload_n 0, 1) := by decide +kernel
theorem dX3_readLine_44 : decode cX3_readLine 44 = .ok (.iload_n 1, 1) := by decide +kernel
theorem dX3_readLine_45 : decode cX3_readLine 45 = .ok (.invokevirtual 75, 3) := by decide +kernel
theorem dX3_readLine_48 : decode cX3_readLine 48 = .ok (.istore_n 2, 1) := by decide +kernel
theorem dX3_readLine_49 : decode cX3_readLine 49 = .ok (.iload_n 2, 1) := by decide +kernel
theorem dX3_readLine_50 : decode cX3_readLine 50 = .ok (.ifCond .eq 10, 3) := by decide +kernel
theorem dX3_readLine_53 : decode cX3_readLine 53 = .ok (.aload_n 0, 1) := by decide +kernel
theorem dX3_readLine_54 : decode cX3_readLine 54 = .ok (.invokevirtual 48, 3) := by decide +kernel
theorem dX3_readLine_57 : decode cX3_readLine 57 = .ok (.ifCond .ne 5, 3) := by decide +kernel
theorem dX3_readLine_60 : decode cX3_readLine 60 = .ok (.iconst 0, 1) := by decide +kernel
theorem dX3_readLine_61 : decode cX3_readLine 61 = .ok (.ireturn, 1) := by decide +kernel
theorem dX3_readLine_62 : decode cX3_readLine 62 = .ok (.aload_n 0, 1) := by decide +kernel
theorem dX3_readLine_63 : decode cX3_readLine 63 = .ok (.getfield 52, 3) := by decide +kernel
theorem dX3_readLine_66 : decode cX3_readLine 66 = .ok (.iconst 3, 1) := by decide +kernel
theorem dX3_readLine_67 : decode cX3_readLine 67 = .ok (.if_icmp .eq 15, 3) := by decide +kernel
theorem dX3_readLine_70 : decode cX3_readLine 70 = .ok (.aload_n 0, 1) := by decide +kernel
theorem dX3_readLine_71 : decode cX3_readLine 71 = .ok (.iconst 2, 1) := by decide +kernel
theorem dX3_readLine_72 : decode cX3_readLine 72 = .ok (.aload_n 0, 1) := by decide +kernel
theorem dX3_readLine_73 : decode cX3_readLine 73 = .ok (.getfield 69, 3) := by decide +kernel
theorem dX3_readLine_76 : decode cX3_readLine 76 = .ok (.invokevirtual 61, 3) := by decide +kernel
theorem dX3_readLine_79 : decode cX3_readLine 79 = .ok (.ifCond .eq 7, 3) := by decide +kernel
theorem dX3_readLine_82 : decode cX3_readLine 82 = .ok (.iconst 1, 1) := by decide +kernel
theorem dX3_readLine_83 : decode cX3_readLine 83 = .ok (.goto 4, 3) := by decide +kernel
theorem dX3_readLine_86 : decode cX3_readLine 86 = .ok (.iconst 0, 1) := by decide +kernel
theorem dX3_readLine_87 : decode cX3_readLine 87 = .ok (.ireturn, 1) := by decide +kernel
theorem dX3_readPrime_0 : decode cX3_readPrime 0 = .ok (.aload_n 0, 1) := by decide +kernel
theorem dX3_readPrime_1 : decode cX3_readPrime 1 = .ok (.getfield 32, 3) := by decide +kernel
theorem dX3_readPrime_4 : decode cX3_readPrime 4 = .ok (.ifCond .eq 13, 3) := by decide +kernel
theorem dX3_readPrime_7 : decode cX3_readPrime 7 = .ok (.aload_n 0, 1) := by decide +kernel
theorem dX3_readPrime_8 : decode cX3_readPrime 8 = .ok (.iconst 4, 1) := by decide +kernel
theorem dX3_readPrime_9 : decode cX3_readPrime 9 = .ok (.aload_n 0, 1) := by decide +kernel
theorem dX3_readPrime_10 : decode cX3_readPrime 10 = .ok (.getfield 69, 3) := by decide +kernel
theorem dX3_readPrime_13 : decode cX3_readPrime 13 = .ok (.invokevirtual 61, 3) := by decide +kernel
theorem dX3_readPrime_16 : decode cX3_readPrime 16 = .ok (.ireturn, 1) := by decide +kernel
theorem dX3_readPrime_17 : decode cX3_readPrime 17 = .ok (.aload_n 0, 1) := by decide +kernel
theorem dX3_readPrime_18 : decode cX3_readPrime 18 = .ok (.iconst 1, 1) := by decide +kernel
theorem dX3_readPrime_19 : decode cX3_readPrime 19 = .ok (.putfield 32, 3) := by decide +kernel
theorem dX3_readPrime_22 : decode cX3_readPrime 22 = .ok (.aload_n 0, 1) := by decide +kernel
theorem dX3_readPrime_23 : decode cX3_readPrime 23 = .ok (.iconst 2, 1) := by decide +kernel
theorem dX3_readPrime_24 : decode cX3_readPrime 24 = .ok (.bipush 7, 2) := by decide +kernel
theorem dX3_readPrime_26 : decode cX3_readPrime 26 = .ok (.invokevirtual 79, 3) := by decide +kernel
theorem dX3_readPrime_29 : decode cX3_readPrime 29 = .ok (.ifCond .ne 5, 3) := by decide +kernel
theorem dX3_readPrime_32 : decode cX3_readPrime 32 = .ok (.iconst 0, 1) := by decide +kernel
theorem dX3_readPrime_33 : decode cX3_readPrime 33 = .ok (.ireturn, 1) := by decide +kernel
theorem dX3_readPrime_34 : decode cX3_readPrime 34 = .ok (.aload_n 0, 1) := by decide +kernel
theorem dX3_readPrime_35 : decode cX3_readPrime 35 = .ok (.getfield 82, 3) := by decide +kernel
theorem dX3_readPrime_38 : decode cX3_readPrime 38 = .ok (.iconst 4, 1) := by decide +kernel
theorem dX3_readPrime_39 : decode cX3_readPrime 39 = .ok (.if_icmp .eq 12, 3) := by decide +kernel
theorem dX3_readPrime_42 : decode cX3_readPrime 42 = .ok (.aload_n 0, 1) := by decide +kernel
theorem dX3_readPrime_43 : decode cX3_readPrime 43 = .ok (.getfield 82, 3) := by decide +kernel
theorem dX3_readPrime_46 : decode cX3_readPrime 46 = .ok (.bipush 6, 2) := by decide +kernel
theorem dX3_readPrime_48 : decode cX3_readPrime 48 = .ok (.if_icmp .ne 13, 3) := by decide +kernel
theorem dX3_readPrime_51 : decode cX3_readPrime 51 = .ok (.aload_n 0, 1) := by decide +kernel
theorem dX3_readPrime_52 : decode cX3_readPrime 52 = .ok (.iconst 3, 1) := by decide +kernel
theorem dX3_readPrime_53 : decode cX3_readPrime 53 = .ok (.aload_n 0, 1) := by decide +kernel
theorem dX3_readPrime_54 : decode cX3_readPrime 54 = .ok (.getfield 69, 3) := by decide +kernel
theorem dX3_readPrime_57 : decode cX3_readPrime 57 = .ok (.invokevirtual 61, 3) := by decide +kernel
theorem dX3_readPrime_60 : decode cX3_readPrime 60 = .ok (.ireturn, 1) := by decide +kernel
theorem dX3_readPrime_61 : decode cX3_readPrime 61 = .ok (.aload_n 0, 1) := by decide +kernel
theorem dX3_readPrime_62 : decode cX3_readPrime 62 = .ok (.getfield 18, 3) := by decide +kernel
theorem dX3_readPrime_65 : decode cX3_readPrime 65 = .ok (.aload_n 0, 1) := by decide +kernel
theorem dX3_readPrime_66 : decode cX3_readPrime 66 = .ok (.getfield 82, 3) := by decide +kernel
theorem dX3_readPrime_69 : decode cX3_readPrime 69 = .ok (.putfield 58, 3) := by decide +kernel
theorem dX3_readPrime_72 : decode cX3_readPrime 72 = .ok (.iconst 1, 1) := by decide +kernel
theorem dX3_readPrime_73 : decode cX3_readPrime 73 = .ok (.ireturn, 1) := by decide +kernel
theorem dX3_readBlock_0 : decode cX3_readBlock 0 = .ok (.iconst 0, 1) := by decide +kernel
theorem dX3_readBlock_1 : decode cX3_readBlock 1 = .ok (.istore_n 2, 1) := by decide +kernel
theorem dX3_readBlock_2 : decode cX3_readBlock 2 = .ok (.iload_n 1, 1) := by decide +kernel
theorem dX3_readBlock_3 : decode cX3_readBlock 3 = .ok (.iconst 5, 1) := by decide +kernel
theorem dX3_readBlock_4 : decode cX3_readBlock 4 = .ok (.if_icmp .ne 32, 3) := by decide +kernel
theorem dX3_readBlock_7 : decode cX3_readBlock 7 = .ok (.aload_n 0, 1) := by decide +kernel
theorem dX3_readBlock_8 : decode cX3_readBlock 8 = .ok (.iconst 0, 1) := by decide +kernel
theorem dX3_readBlock_9 : decode cX3_readBlock 9 = .ok (.bipush 6, 2) := by decide +kernel
theorem dX3_readBlock_11 : decode cX3_readBlock 11 = .ok (.invokevirtual 79, 3) := by decide +kernel
theorem dX3_readBlock_14 : decode cX3_readBlock 14 = .ok (.ifCond .ne 5, 3) := by decide +kernel
theorem dX3_readBlock_17 : decode cX3_readBlock 17 = .ok (.iconst 0, 1) := by decide +kernel
theorem dX3_readBlock_18 : decode cX3_readBlock 18 = .ok (.ireturn, 1) := by decide +kernel
theorem dX3_readBlock_19 : decode cX3_readBlock 19 = .ok (.aload_n 0, 1) := by decide +kernel
theorem dX3_readBlock_20 : decode cX3_readBlock 20 = .ok (.getfield 82, 3) := by decide +kernel
theorem dX3_readBlock_23 : decode cX3_readBlock 23 = .ok (.istore_n 2, 1) := by decide +kernel
theorem dX3_readBlock_24 : decode cX3_readBlock 24 = .ok (.aload_n 0, 1) := by decide +kernel
theorem dX3_readBlock_25 : decode cX3_readBlock 25 = .ok (.aload_n 0, 1) := by decide +kernel
theorem dX3_readBlock_26 : decode cX3_readBlock 26 = .ok (.getfield 29, 3) := by decide +kernel
theorem dX3_readBlock_29 : decode cX3_readBlock 29 = .ok (.iload_n 2, 1) := by decide +kernel
theorem dX3_readBlock_30 : decode cX3_readBlock 30 = .ok (.invokestatic 85, 3) := by decide +kernel
theorem dX3_readBlock_33 : decode cX3_readBlock 33 = .ok (.putfield 29, 3) := by decide +kernel
theorem dX3_readBlock_36 : decode cX3_readBlock 36 = .ok (.iload_n 1, 1) := by decide +kernel
theorem dX3_readBlock_37 : decode cX3_readBlock 37 = .ok (.iconst 2, 1) := by decide +kernel
theorem dX3_readBlock_38 : decode cX3_readBlock 38 = .ok (.if_icmp .eq 8, 3) := by decide +kernel
theorem dX3_readBlock_41 : decode cX3_readBlock 41 = .ok (.iload_n 1, 1) := by decide +kernel
theorem dX3_readBlock_42 : decode cX3_readBlock 42 = .ok (.iconst 3, 1) := by decide +kernel
theorem dX3_readBlock_43 : decode cX3_readBlock 43 = .ok (.if_icmp .ne 7, 3) := by decide +kernel
theorem dX3_readBlock_46 : decode cX3_readBlock 46 = .ok (.iconst 0, 1) := by decide +kernel
theorem dX3_readBlock_47 : decode cX3_readBlock 47 = .ok (.goto 4, 3) := by decide +kernel
theorem dX3_readBlock_50 : decode cX3_readBlock 50 = .ok (.iconst 1, 1) := by decide +kernel
theorem dX3_readBlock_51 : decode cX3_readBlock 51 = .ok (.istore_n 3, 1) := by decide +kernel
theorem dX3_readBlock_52 : decode cX3_readBlock 52 = .ok (.aload_n 0, 1) := by decide +kernel
theorem dX3_readBlock_53 : decode cX3_readBlock 53 = .ok (.iload_n 3, 1) := by decide +kernel
theorem dX3_readBlock_54 : decode cX3_readBlock 54 = .ok (.iconst 4, 1) := by decide +kernel
theorem dX3_readBlock_55 : decode cX3_readBlock 55 = .ok (.invokevirtual 79, 3) := by decide +kernel
theorem dX3_readBlock_58 : decode cX3_readBlock 58 = .ok (.ifCond .ne 5, 3) := by decide +kernel
theorem dX3_readBlock_61 : decode cX3_readBlock 61 = .ok (.iconst 0, 1) := by decide +kernel
theorem dX3_readBlock_62 : decode cX3_readBlock 62 = .ok (.ireturn, 1) := by decide +kernel
theorem dX3_readBlock_63 : decode cX3_readBlock 63 = .ok (.aload_n 0, 1) := by decide +kernel
theorem dX3_readBlock_64 : decode cX3_readBlock 64 = .ok (.getfield 18, 3) := by decide +kernel
theorem dX3_readBlock_67 : decode cX3_readBlock 67 = .ok (.getfield 91, 3) := by decide +kernel
theorem dX3_readBlock_70 : decode cX3_readBlock 70 = .ok (.aload_n 0, 1) := by decide +kernel
theorem dX3_readBlock_71 : decode cX3_readBlock 71 = .ok (.getfield 82, 3) := by decide +kernel
theorem dX3_readBlock_74 : decode cX3_readBlock 74 = .ok (.iadd, 1) := by decide +kernel
theorem dX3_readBlock_75 : decode cX3_readBlock 75 = .ok (.iload_n 1, 1) := by decide +kernel
theorem dX3_readBlock_76 : decode cX3_readBlock 76 = .ok (.iconst 3, 1) := by decide +kernel
theorem dX3_readBlock_77 : decode cX3_readBlock 77 = .ok (.if_icmp .ne 7, 3) := by decide +kernel
theorem dX3_readBlock_80 : decode cX3_readBlock 80 = .ok (.iconst 1, 1) := by decide +kernel
theorem dX3_readBlock_81 : decode cX3_readBlock 81 = .ok (.goto 4, 3) := by decide +kernel
theorem dX3_readBlock_84 : decode cX3_readBlock 84 = .ok (.iconst 0, 1) := by decide +kernel
theorem dX3_readBlock_85 : decode cX3_readBlock 85 = .ok (.iadd, 1) := by decide +kernel
theorem dX3_readBlock_86 : decode cX3_readBlock 86 = .ok (.istore 4, 2) := by decide +kernel
theorem dX3_readBlock_88 : decode cX3_readBlock 88 = .ok (.aload_n 0, 1) := by decide +kernel
theorem dX3_readBlock_89 : decode cX3_readBlock 89 = .ok (.getfield 18, 3) := by decide +kernel
theorem dX3_readBlock_92 : decode cX3_readBlock 92 = .ok (.getfield 94, 3) := by decide +kernel
theorem dX3_readBlock_95 : decode cX3_readBlock 95 = .ok (.aload_n 0, 1) := by decide +kernel
theorem dX3_readBlock_96 : decode cX3_readBlock 96 = .ok (.getfield 82, 3) := by decide +kernel
theorem dX3_readBlock_99 : decode cX3_readBlock 99 = .ok (.iadd, 1) := by decide +kernel
theorem dX3_readBlock_100 : decode cX3_readBlock 100 = .ok (.iload_n 1, 1) := by decide +kernel
theorem dX3_readBlock_101 : decode cX3_readBlock 101 = .ok (.iconst 2, 1) := by decide +kernel
theorem dX3_readBlock_102 : decode cX3_readBlock 102 = .ok (.if_icmp .ne 7, 3) := by decide +kernel
theorem dX3_readBlock_105 : decode cX3_readBlock 105 = .ok (.iconst 1, 1) := by decide +kernel
theorem dX3_readBlock_106 : decode cX3_readBlock 106 = .ok (.goto 4, 3) := by decide +kernel
theorem dX3_readBlock_109 : decode cX3_readBlock 109 = .ok (.iconst 0, 1) := by decide +kernel
theorem dX3_readBlock_110 : decode cX3_readBlock 110 = .ok (.iadd, 1) := by decide +kernel
theorem dX3_readBlock_111 : decode cX3_readBlock 111 = .ok (.istore 5, 2) := by decide +kernel
theorem dX3_readBlock_113 : decode cX3_readBlock 113 = .ok (.iload 4, 2) := by decide +kernel
theorem dX3_readBlock_115 : decode cX3_readBlock 115 = .ok (.iconst 4, 1) := by decide +kernel
theorem dX3_readBlock_116 : decode cX3_readBlock 116 = .ok (.if_icmp .gt 9, 3) := by decide +kernel
theorem dX3_readBlock_119 : decode cX3_readBlock 119 = .ok (.iload 5, 2) := by decide +kernel
theorem dX3_readBlock_121 : decode cX3_readBlock 121 = .ok (.iconst 4, 1) := by decide +kernel
theorem dX3_readBlock_122 : decode cX3_readBlock 122 = .ok (.if_icmp .le 13, 3) := by decide +kernel
theorem dX3_readBlock_125 : decode cX3_readBlock 125 = .ok (.aload_n 0, 1) := by decide +kernel
theorem dX3_readBlock_126 : decode cX3_readBlock 126 = .ok (.iconst 5, 1) := by decide +kernel
theorem dX3_readBlock_127 : decode cX3_readBlock 127 = .ok (.aload_n 0, 1) := by decide +kernel
theorem dX3_readBlock_128 : decode cX3_readBlock 128 = .ok (.getfield 69, 3) := by decide +kernel
theorem dX3_readBlock_131 : decode cX3_readBlock 131 = .ok (.invokevirtual 61, 3) := by decide +kernel
theorem dX3_readBlock_134 : decode cX3_readBlock 134 = .ok (.ireturn, 1) := by decide +kernel
theorem dX3_readBlock_135 : decode cX3_readBlock 135 = .ok (.aload_n 0, 1) := by decide +kernel
theorem dX3_readBlock_136 : decode cX3_readBlock 136 = .ok (.iload_n 1, 1) := by decide +kernel
theorem dX3_readBlock_137 : decode cX3_readBlock 137 = .ok (.iload_n 2, 1) := by decide +kernel
theorem dX3_readBlock_138 : decode cX3_readBlock 138 = .ok (.iload 4, 2) := by decide +kernel
theorem dX3_readBlock_140 : decode cX3_readBlock 140 = .ok (.iload 5, 2) := by decide +kernel
theorem dX3_readBlock_142 : decode cX3_readBlock 142 = .ok (.invokevirtual 97, 3) := by decide +kernel
theorem dX3_readBlock_145 : decode cX3_readBlock 145 = .ok (.iconst 1, 1) := by decide +kernel
theorem dX3_readBlock_146 : decode cX3_readBlock 146 = .ok (.ireturn, 1) := by decide +kernel
theorem dX3_putBlock_0 : decode cX3_putBlock 0 = .ok (.aload_n 0, 1) := by decide +kernel
theorem dX3_putBlock_1 : decode cX3_putBlock 1 = .ok (.getfield 18, 3) := by decide +kernel
theorem dX3_putBlock_4 : decode cX3_putBlock 4 = .ok (.getfield 91, 3) := by decide +kernel
theorem dX3_putBlock_7 : decode cX3_putBlock 7 = .ok (.istore 5, 2) := by decide +kernel
theorem dX3_putBlock_9 : decode cX3_putBlock 9 = .ok (.aload_n 0, 1) := by decide +kernel
theorem dX3_putBlock_10 : decode cX3_putBlock 10 = .ok (.getfield 18, 3) := by decide +kernel
theorem dX3_putBlock_13 : decode cX3_putBlock 13 = .ok (.getfield 94, 3) := by decide +kernel
theorem dX3_putBlock_16 : decode cX3_putBlock 16 = .ok (.istore 6, 2) := by decide +kernel
theorem dX3_putBlock_18 : decode cX3_putBlock 18 = .ok (.aload_n 0, 1) := by decide +kernel
theorem dX3_putBlock_19 : decode cX3_putBlock 19 = .ok (.getfield 18, 3) := by decide +kernel
theorem dX3_putBlock_22 : decode cX3_putBlock 22 = .ok (.iload_n 3, 1) := by decide +kernel
theorem dX3_putBlock_23 : decode cX3_putBlock 23 = .ok (.iload 4, 2) := by decide +kernel
theorem dX3_putBlock_25 : decode cX3_putBlock 25 = .ok (.invokevirtual 101, 3) := by decide +kernel
theorem dX3_putBlock_28 : decode cX3_putBlock 28 = .ok (.iconst 0, 1) := by decide +kernel
theorem dX3_putBlock_29 : decode cX3_putBlock 29 = .ok (.istore 7, 2) := by decide +kernel
theorem dX3_putBlock_31 : decode cX3_putBlock 31 = .ok (.iload 7, 2) := by decide +kernel
theorem dX3_putBlock_33 : decode cX3_putBlock 33 = .ok (.aload_n 0, 1) := by decide +kernel
theorem dX3_putBlock_34 : decode cX3_putBlock 34 = .ok (.getfield 82, 3) := by decide +kernel
theorem dX3_putBlock_37 : decode cX3_putBlock 37 = .ok (.if_icmp .ge 136, 3) := by decide +kernel
theorem dX3_putBlock_40 : decode cX3_putBlock 40 = .ok (.iload 5, 2) := by decide +kernel
theorem dX3_putBlock_42 : decode cX3_putBlock 42 = .ok (.iload 7, 2) := by decide +kernel
theorem dX3_putBlock_44 : decode cX3_putBlock 44 = .ok (.iadd, 1) := by decide +kernel
theorem dX3_putBlock_45 : decode cX3_putBlock 45 = .ok (.istore 8, 2) := by decide +kernel
theorem dX3_putBlock_47 : decode cX3_putBlock 47 = .ok (.iload 6, 2) := by decide +kernel
theorem dX3_putBlock_49 : decode cX3_putBlock 49 = .ok (.iload 7, 2) := by decide +kernel
theorem dX3_putBlock_51 : decode cX3_putBlock 51 = .ok (.iadd, 1) := by decide +kernel
theorem dX3_putBlock_52 : decode cX3_putBlock 52 = .ok (.istore 9, 2) := by decide +kernel
theorem dX3_putBlock_54 : decode cX3_putBlock 54 = .ok (.iload_n 1, 1) := by decide +kernel
theorem dX3_putBlock_55 : decode cX3_putBlock 55 = .ok (.iconst 5, 1) := by decide +kernel
theorem dX3_putBlock_56 : decode cX3_putBlock 56 = .ok (.if_icmp .ne 47, 3) := by decide +kernel
theorem dX3_putBlock_59 : decode cX3_putBlock 59 = .ok (.aload_n 0, 1) := by decide +kernel
theorem dX3_putBlock_60 : decode cX3_putBlock 60 = .ok (.getfield 18, 3) := by decide +kernel
theorem dX3_putBlock_63 : decode cX3_putBlock 63 = .ok (.iconst 0, 1) := by decide +kernel
theorem dX3_putBlock_64 : decode cX3_putBlock 64 = .ok (.iload 8, 2) := by decide +kernel
theorem dX3_putBlock_66 : decode cX3_putBlock 66 = .ok (.iload 9, 2) := by decide +kernel
theorem dX3_putBlock_68 : decode cX3_putBlock 68 = .ok (.iload_n 2, 1) := by decide +kernel
theorem dX3_putBlock_69 : decode cX3_putBlock 69 = .ok (.invokevirtual 105, 3) := by decide +kernel
theorem dX3_putBlock_72 : decode cX3_putBlock 72 = .ok (.aload_n 0, 1) := by decide +kernel
theorem dX3_putBlock_73 : decode cX3_putBlock 73 = .ok (.getfield 18, 3) := by decide +kernel
theorem dX3_putBlock_76 : decode cX3_putBlock 76 = .ok (.iconst 0, 1) := by decide +kernel
theorem dX3_putBlock_77 : decode cX3_putBlock 77 = .ok (.iload 8, 2) := by decide +kernel
theorem dX3_putBlock_79 : decode cX3_putBlock 79 = .ok (.iload 9, 2) := by decide +kernel
theorem dX3_putBlock_81 : decode cX3_putBlock 81 = .ok (.iconst 1, 1) := by decide +kernel
theorem dX3_putBlock_82 : decode cX3_putBlock 82 = .ok (.iadd, 1) := by decide +kernel
theorem dX3_putBlock_83 : decode cX3_putBlock 83 = .ok (.iconst 1, 1) := by decide +kernel
theorem dX3_putBlock_84 : decode cX3_putBlock 84 = .ok (.invokevirtual 105, 3) := by decide +kernel
theorem dX3_putBlock_87 : decode cX3_putBlock 87 = .ok (.aload_n 0, 1) := by decide +kernel
theorem dX3_putBlock_88 : decode cX3_putBlock 88 = .ok (.getfield 18, 3) := by decide +kernel
theorem dX3_putBlock_91 : decode cX3_putBlock 91 = .ok (.iconst 1, 1) := by decide +kernel
theorem dX3_putBlock_92 : decode cX3_putBlock 92 = .ok (.iload 8, 2) := by decide +kernel
theorem dX3_putBlock_94 : decode cX3_putBlock 94 = .ok (.iload 9, 2) := by decide +kernel
theorem dX3_putBlock_96 : decode cX3_putBlock 96 = .ok (.iconst 1, 1) := by decide +kernel
theorem dX3_putBlock_97 : decode cX3_putBlock 97 = .ok (.invokevirtual 105, 3) := by decide +kernel
theorem dX3_putBlock_100 : decode cX3_putBlock 100 = .ok (.goto 67, 3) := by decide +kernel
theorem dX3_putBlock_103 : decode cX3_putBlock 103 = .ok (.iload_n 1, 1) := by decide +kernel
theorem dX3_putBlock_104 : decode cX3_putBlock 104 = .ok (.iconst 3, 1) := by decide +kernel
theorem dX3_putBlock_105 : decode cX3_putBlock 105 = .ok (.if_icmp .ne 34, 3) := by decide +kernel
theorem dX3_putBlock_108 : decode cX3_putBlock 108 = .ok (.aload_n 0, 1) := by decide +kernel
theorem dX3_putBlock_109 : decode cX3_putBlock 109 = .ok (.getfield 18, 3) := by decide +kernel
theorem dX3_putBlock_112 : decode cX3_putBlock 112 = .ok (.iconst 0, 1) := by decide +kernel
theorem dX3_putBlock_113 : decode cX3_putBlock 113 = .ok (.iload 8, 2) := by decide +kernel
theorem dX3_putBlock_115 : decode cX3_putBlock 115 = .ok (.iload 9, 2) := by decide +kernel
theorem dX3_putBlock_117 : decode cX3_putBlock 117 = .ok (.iconst 1, 1) := by decide +kernel
theorem dX3_putBlock_118 : decode cX3_putBlock 118 = .ok (.invokevirtual 105, 3) := by decide +kernel
theorem dX3_putBlock_121 : decode cX3_putBlock 121 = .ok (.aload_n 0, 1) := by decide +kernel
theorem dX3_putBlock_122 : decode cX3_putBlock 122 = .ok (.getfield 18, 3) := by decide +kernel
theorem dX3_putBlock_125 : decode cX3_putBlock 125 = .ok (.iconst 1, 1) := by decide +kernel
theorem dX3_putBlock_126 : decode cX3_putBlock 126 = .ok (.iload 8, 2) := by decide +kernel
theorem dX3_putBlock_128 : decode cX3_putBlock 128 = .ok (.iconst 1, 1) := by decide +kernel
theorem dX3_putBlock_129 : decode cX3_putBlock 129 = .ok (.iadd, 1) := by decide +kernel
theorem dX3_putBlock_130 : decode cX3_putBlock 130 = .ok (.iload 9, 2) := by decide +kernel
theorem dX3_putBlock_132 : decode cX3_putBlock 132 = .ok (.iconst 1, 1) := by decide +kernel
theorem dX3_putBlock_133 : decode cX3_putBlock 133 = .ok (.invokevirtual 105, 3) := by decide +kernel
theorem dX3_putBlock_136 : decode cX3_putBlock 136 = .ok (.goto 31, 3) := by decide +kernel
theorem dX3_putBlock_139 : decode cX3_putBlock 139 = .ok (.aload_n 0, 1) := by decide +kernel
theorem dX3_putBlock_140 : decode cX3_putBlock 140 = .ok (.getfield 18, 3) := by decide +kernel
theorem dX3_putBlock_143 : decode cX3_putBlock 143 = .ok (.iconst 0, 1) := by decide +kernel
theorem dX3_putBlock_144 : decode cX3_putBlock 144 = .ok (.iload 8, 2) := by decide +kernel
theorem dX3_putBlock_146 : decode cX3_putBlock 146 = .ok (.iload 9, 2) := by decide +kernel
theorem dX3_putBlock_148 : decode cX3_putBlock 148 = .ok (.iconst 1, 1) := by decide +kernel
theorem dX3_putBlock_149 : decode cX3_putBlock 149 = .ok (.invokevirtual 105, 3) := by decide +kernel
theorem dX3_putBlock_152 : decode cX3_putBlock 152 = .ok (.aload_n 0, 1) := by decide +kernel
theorem dX3_putBlock_153 : decode cX3_putBlock 153 = .ok (.getfield 18, 3) := by decide +kernel
theorem dX3_putBlock_156 : decode cX3_putBlock 156 = .ok (.iconst 1, 1) := by decide +kernel
theorem dX3_putBlock_157 : decode cX3_putBlock 157 = .ok (.iload 8, 2) := by decide +kernel
theorem dX3_putBlock_159 : decode cX3_putBlock 159 = .ok (.iload 9, 2) := by decide +kernel
theorem dX3_putBlock_161 : decode cX3_putBlock 161 = .ok (.iconst 1, 1) := by decide +kernel
theorem dX3_putBlock_162 : decode cX3_putBlock 162 = .ok (.iadd, 1) := by decide +kernel
theorem dX3_putBlock_163 : decode cX3_putBlock 163 = .ok (.iconst 1, 1) := by decide +kernel
theorem dX3_putBlock_164 : decode cX3_putBlock 164 = .ok (.invokevirtual 105, 3) := by decide +kernel
theorem dX3_putBlock_167 : decode cX3_putBlock 167 = .ok (.iinc 7 1, 3) := by decide +kernel
theorem dX3_putBlock_170 : decode cX3_putBlock 170 = .ok (.goto (-139), 3) := by decide +kernel
theorem dX3_putBlock_173 : decode cX3_putBlock 173 = .ok (.return_, 1) := by decide +kernel
theorem dX3_readNumber_0 : decode cX3_readNumber 0 = .ok (.aload_n 0, 1) := by decide +kernel
theorem dX3_readNumber_1 : decode cX3_readNumber 1 = .ok (.invokevirtual 48, 3) := by decide +kernel
theorem dX3_readNumber_4 : decode cX3_readNumber 4 = .ok (.ifCond .ne 5, 3) := by decide +kernel
theorem dX3_readNumber_7 : decode cX3_readNumber 7 = .ok (.iconst 0, 1) := by decide +kernel
theorem dX3_readNumber_8 : decode cX3_readNumber 8 = .ok (.ireturn, 1) := by decide +kernel
theorem dX3_readNumber_9 : decode cX3_readNumber 9 = .ok (.aload_n 0, 1) := by decide +kernel
theorem dX3_readNumber_10 : decode cX3_readNumber 10 = .ok (.getfield 52, 3) := by decide +kernel
theorem dX3_readNumber_13 : decode cX3_readNumber 13 = .ok (.iconst 2, 1) := by decide +kernel
theorem dX3_readNumber_14 : decode cX3_readNumber 14 = .ok (.if_icmp .eq 13, 3) := by decide +kernel
theorem dX3_readNumber_17 : decode cX3_readNumber 17 = .ok (.aload_n 0, 1) := by decide +kernel
theorem dX3_readNumber_18 : decode cX3_readNumber 18 = .ok (.iconst 2, 1) := by decide +kernel
theorem dX3_readNumber_19 : decode cX3_readNumber 19 = .ok (.aload_n 0, 1) := by decide +kernel
theorem dX3_readNumber_20 : decode cX3_readNumber 20 = .ok (.getfield 69, 3) := by decide +kernel
theorem dX3_readNumber_23 : decode cX3_readNumber 23 = .ok (.invokevirtual 61, 3) := by decide +kernel
theorem dX3_readNumber_26 : decode cX3_readNumber 26 = .ok (.ireturn, 1) := by decide +kernel
theorem dX3_readNumber_27 : decode cX3_readNumber 27 = .ok (.aload_n 0, 1) := by decide +kernel
theorem dX3_readNumber_28 : decode cX3_readNumber 28 = .ok (.getfield 82, 3) := by decide +kernel
theorem dX3_readNumber_31 : decode cX3_readNumber 31 = .ok (.iload_n 1, 1) := by decide +kernel
theorem dX3_readNumber_32 : decode cX3_readNumber 32 = .ok (.if_icmp .lt 11, 3) := by decide +kernel
theorem dX3_readNumber_35 : decode cX3_readNumber 35 = .ok (.aload_n 0, 1) := by decide +kernel
theorem dX3_readNumber_36 : decode cX3_readNumber 36 = .ok (.getfield 82, 3) := by decide +kernel
theorem dX3_readNumber_39 : decode cX3_readNumber 39 = .ok (.iload_n 2, 1) := by decide +kernel
theorem dX3_readNumber_40 : decode cX3_readNumber 40 = .ok (.if_icmp .le 15, 3) := by decide +kernel
theorem dX3_readNumber_43 : decode cX3_readNumber 43 = .ok (.aload_n 0, 1) := by decide +kernel
theorem dX3_readNumber_44 : decode cX3_readNumber 44 = .ok (.iconst 3, 1) := by decide +kernel
theorem dX3_readNumber_45 : decode cX3_readNumber 45 = .ok (.aload_n 0, 1) := by decide +kernel
theorem dX3_readNumber_46 : decode cX3_readNumber 46 = .ok (.getfield 69, 3) := by decide +kernel
theorem dX3_readNumber_49 : decode cX3_readNumber 49 = .ok (.invokevirtual 61, 3) := by decide +kernel
theorem dX3_readNumber_52 : decode cX3_readNumber 52 = .ok (.ifCond .eq 7, 3) := by decide +kernel
theorem dX3_readNumber_55 : decode cX3_readNumber 55 = .ok (.iconst 1, 1) := by decide +kernel
theorem dX3_readNumber_56 : decode cX3_readNumber 56 = .ok (.goto 4, 3) := by decide +kernel
theorem dX3_readNumber_59 : decode cX3_readNumber 59 = .ok (.iconst 0, 1) := by decide +kernel
theorem dX3_readNumber_60 : decode cX3_readNumber 60 = .ok (.ireturn, 1) := by decide +kernel
theorem dX3_readToken_0 : decode cX3_readToken 0 = .ok (.aload_n 0, 1) := by decide +kernel
theorem dX3_readToken_1 : decode cX3_readToken 1 = .ok (.aload_n 0, 1) := by decide +kernel
theorem dX3_readToken_2 : decode cX3_readToken 2 = .ok (.bipush 32, 2) := by decide +kernel
theorem dX3_readToken_4 : decode cX3_readToken 4 = .ok (.bipush 32, 2) := by decide +kernel
theorem dX3_readToken_6 : decode cX3_readToken 6 = .ok (.invokevirtual 108, 3) := by decide +kernel
theorem dX3_readToken_9 : decode cX3_readToken 9 = .ok (.putfield 26, 3) := by decide +kernel
theorem dX3_readToken_12 : decode cX3_readToken 12 = .ok (.aload_n 0, 1) := by decide +kernel
theorem dX3_readToken_13 : decode cX3_readToken 13 = .ok (.aload_n 0, 1) := by decide +kernel
theorem dX3_readToken_14 : decode cX3_readToken 14 = .ok (.getfield 26, 3) := by decide +kernel
theorem dX3_readToken_17 : decode cX3_readToken 17 = .ok (.putfield 69, 3) := by decide +kernel
theorem dX3_readToken_20 : decode cX3_readToken 20 = .ok (.aload_n 0, 1) := by decide +kernel
theorem dX3_readToken_21 : decode cX3_readToken 21 = .ok (.getfield 26, 3) := by decide +kernel
theorem dX3_readToken_24 : decode cX3_readToken 24 = .ok (.aload_n 0, 1) := by decide +kernel
theorem dX3_readToken_25 : decode cX3_readToken 25 = .ok (.getfield 22, 3) := by decide +kernel
theorem dX3_readToken_28 : decode cX3_readToken 28 = .ok (.if_icmp .lt 10, 3) := by decide +kernel
theorem dX3_readToken_31 : decode cX3_readToken 31 = .ok (.aload_n 0, 1) := by decide +kernel
theorem dX3_readToken_32 : decode cX3_readToken 32 = .ok (.iconst 0, 1) := by decide +kernel
theorem dX3_readToken_33 : decode cX3_readToken 33 = .ok (.putfield 52, 3) := by decide +kernel
theorem dX3_readToken_36 : decode cX3_readToken 36 = .ok (.iconst 1, 1) := by decide +kernel
theorem dX3_readToken_37 : decode cX3_readToken 37 = .ok (.ireturn, 1) := by decide +kernel
theorem dX3_readToken_38 : decode cX3_readToken 38 = .ok (.aload_n 0, 1) := by decide +kernel
theorem dX3_readToken_39 : decode cX3_readToken 39 = .ok (.getfield 9, 3) := by decide +kernel
theorem dX3_readToken_42 : decode cX3_readToken 42 = .ok (.aload_n 0, 1) := by decide +kernel
theorem dX3_readToken_43 : decode cX3_readToken 43 = .ok (.getfield 26, 3) := by decide +kernel
theorem dX3_readToken_46 : decode cX3_readToken 46 = .ok (.baload, 1) := by decide +kernel
theorem dX3_readToken_47 : decode cX3_readToken 47 = .ok (.istore_n 1, 1) := by decide +kernel
theorem dX3_readToken_48 : decode cX3_readToken 48 = .ok (.iload_n 1, 1) := by decide +kernel
theorem dX3_readToken_49 : decode cX3_readToken 49 = .ok (.bipush 97, 2) := by decide +kernel
theorem dX3_readToken_51 : decode cX3_readToken 51 = .ok (.if_icmp .lt 28, 3) := by decide +kernel
theorem dX3_readToken_54 : decode cX3_readToken 54 = .ok (.iload_n 1, 1) := by decide +kernel
theorem dX3_readToken_55 : decode cX3_readToken 55 = .ok (.bipush 122, 2) := by decide +kernel
theorem dX3_readToken_57 : decode cX3_readToken 57 = .ok (.if_icmp .gt 22, 3) := by decide +kernel
theorem dX3_readToken_60 : decode cX3_readToken 60 = .ok (.aload_n 0, 1) := by decide +kernel
theorem dX3_readToken_61 : decode cX3_readToken 61 = .ok (.iconst 1, 1) := by decide +kernel
theorem dX3_readToken_62 : decode cX3_readToken 62 = .ok (.putfield 52, 3) := by decide +kernel
theorem dX3_readToken_65 : decode cX3_readToken 65 = .ok (.aload_n 0, 1) := by decide +kernel
theorem dX3_readToken_66 : decode cX3_readToken 66 = .ok (.aload_n 0, 1) := by decide +kernel
theorem dX3_readToken_67 : decode cX3_readToken 67 = .ok (.bipush 97, 2) := by decide +kernel
theorem dX3_readToken_69 : decode cX3_readToken 69 = .ok (.bipush 122, 2) := by decide +kernel
theorem dX3_readToken_71 : decode cX3_readToken 71 = .ok (.invokevirtual 108, 3) := by decide +kernel
theorem dX3_readToken_74 : decode cX3_readToken 74 = .ok (.putfield 26, 3) := by decide +kernel
theorem dX3_readToken_77 : decode cX3_readToken 77 = .ok (.iconst 1, 1) := by decide +kernel
theorem dX3_readToken_78 : decode cX3_readToken 78 = .ok (.ireturn, 1) := by decide +kernel
theorem dX3_readToken_79 : decode cX3_readToken 79 = .ok (.iload_n 1, 1) := by decide +kernel
theorem dX3_readToken_80 : decode cX3_readToken 80 = .ok (.bipush 48, 2) := by decide +kernel
theorem dX3_readToken_82 : decode cX3_readToken 82 = .ok (.if_icmp .lt 56, 3) := by decide +kernel
theorem dX3_readToken_85 : decode cX3_readToken 85 = .ok (.iload_n 1, 1) := by decide +kernel
theorem dX3_readToken_86 : decode cX3_readToken 86 = .ok (.bipush 57, 2) := by decide +kernel
theorem dX3_readToken_88 : decode cX3_readToken 88 = .ok (.if_icmp .gt 50, 3) := by decide +kernel
theorem dX3_readToken_91 : decode cX3_readToken 91 = .ok (.aload_n 0, 1) := by decide +kernel
theorem dX3_readToken_92 : decode cX3_readToken 92 = .ok (.iconst 2, 1) := by decide +kernel
theorem dX3_readToken_93 : decode cX3_readToken 93 = .ok (.putfield 52, 3) := by decide +kernel
theorem dX3_readToken_96 : decode cX3_readToken 96 = .ok (.aload_n 0, 1) := by decide +kernel
theorem dX3_readToken_97 : decode cX3_readToken 97 = .ok (.aload_n 0, 1) := by decide +kernel
theorem dX3_readToken_98 : decode cX3_readToken 98 = .ok (.bipush 48, 2) := by decide +kernel
theorem dX3_readToken_100 : decode cX3_readToken 100 = .ok (.bipush 57, 2) := by decide +kernel
theorem dX3_readToken_102 : decode cX3_readToken 102 = .ok (.invokevirtual 108, 3) := by decide +kernel
theorem dX3_readToken_105 : decode cX3_readToken 105 = .ok (.putfield 26, 3) := by decide +kernel
theorem dX3_readToken_108 : decode cX3_readToken 108 = .ok (.aload_n 0, 1) := by decide +kernel
theorem dX3_readToken_109 : decode cX3_readToken 109 = .ok (.getfield 26, 3) := by decide +kernel
theorem dX3_readToken_112 : decode cX3_readToken 112 = .ok (.aload_n 0, 1) := by decide +kernel
theorem dX3_readToken_113 : decode cX3_readToken 113 = .ok (.getfield 69, 3) := by decide +kernel
theorem dX3_readToken_116 : decode cX3_readToken 116 = .ok (.isub, 1) := by decide +kernel
theorem dX3_readToken_117 : decode cX3_readToken 117 = .ok (.iconst 2, 1) := by decide +kernel
theorem dX3_readToken_118 : decode cX3_readToken 118 = .ok (.if_icmp .gt 10, 3) := by decide +kernel
theorem dX3_readToken_121 : decode cX3_readToken 121 = .ok (.aload_n 0, 1) := by decide +kernel
theorem dX3_readToken_122 : decode cX3_readToken 122 = .ok (.invokevirtual 112, 3) := by decide +kernel
theorem dX3_readToken_125 : decode cX3_readToken 125 = .ok (.goto 12, 3) := by decide +kernel
theorem dX3_readToken_128 : decode cX3_readToken 128 = .ok (.aload_n 0, 1) := by decide +kernel
theorem dX3_readToken_129 : decode cX3_readToken 129 = .ok (.iconst 1, 1) := by decide +kernel
theorem dX3_readToken_130 : decode cX3_readToken 130 = .ok (.aload_n 0, 1) := by decide +kernel
theorem dX3_readToken_131 : decode cX3_readToken 131 = .ok (.getfield 69, 3) := by decide +kernel
theorem dX3_readToken_134 : decode cX3_readToken 134 = .ok (.invokevirtual 61, 3) := by decide +kernel
theorem dX3_readToken_137 : decode cX3_readToken 137 = .ok (.ireturn, 1) := by decide +kernel
theorem dX3_readToken_138 : decode cX3_readToken 138 = .ok (.iload_n 1, 1) := by decide +kernel
theorem dX3_readToken_139 : decode cX3_readToken 139 = .ok (.bipush 59, 2) := by decide +kernel
theorem dX3_readToken_141 : decode cX3_readToken 141 = .ok (.if_icmp .ne 20, 3) := by decide +kernel
theorem dX3_readToken_144 : decode cX3_readToken 144 = .ok (.aload_n 0, 1) := by decide +kernel
theorem dX3_readToken_145 : decode cX3_readToken 145 = .ok (.iconst 3, 1) := by decide +kernel
theorem dX3_readToken_146 : decode cX3_readToken 146 = .ok (.putfield 52, 3) := by decide +kernel
theorem dX3_readToken_149 : decode cX3_readToken 149 = .ok (.aload_n 0, 1) := by decide +kernel
theorem dX3_readToken_150 : decode cX3_readToken 150 = .ok (.dup, 1) := by decide +kernel
theorem dX3_readToken_151 : decode cX3_readToken 151 = .ok (.getfield 26, 3) := by decide +kernel
theorem dX3_readToken_154 : decode cX3_readToken 154 = .ok (.iconst 1, 1) := by decide +kernel
theorem dX3_readToken_155 : decode cX3_readToken 155 = .ok (.iadd, 1) := by decide +kernel
theorem dX3_readToken_156 : decode cX3_readToken 156 = .ok (.putfield 26, 3) := by decide +kernel
theorem dX3_readToken_159 : decode cX3_readToken 159 = .ok (.iconst 1, 1) := by decide +kernel
theorem dX3_readToken_160 : decode cX3_readToken 160 = .ok (.ireturn, 1) := by decide +kernel
theorem dX3_readToken_161 : decode cX3_readToken 161 = .ok (.aload_n 0, 1) := by decide +kernel
theorem dX3_readToken_162 : decode cX3_readToken 162 = .ok (.iconst 1, 1) := by decide +kernel
theorem dX3_readToken_163 : decode cX3_readToken 163 = .ok (.aload_n 0, 1) := by decide +kernel
theorem dX3_readToken_164 : decode cX3_readToken 164 = .ok (.getfield 69, 3) := by decide +kernel
theorem dX3_readToken_167 : decode cX3_readToken 167 = .ok (.invokevirtual 61, 3) := by decide +kernel
theorem dX3_readToken_170 : decode cX3_readToken 170 = .ok (.ireturn, 1) := by decide +kernel
theorem dX3_takeNumber_0 : decode cX3_takeNumber 0 = .ok (.aload_n 0, 1) := by decide +kernel
theorem dX3_takeNumber_1 : decode cX3_takeNumber 1 = .ok (.iconst 0, 1) := by decide +kernel
theorem dX3_takeNumber_2 : decode cX3_takeNumber 2 = .ok (.putfield 82, 3) := by decide +kernel
theorem dX3_takeNumber_5 : decode cX3_takeNumber 5 = .ok (.aload_n 0, 1) := by decide +kernel
theorem dX3_takeNumber_6 : decode cX3_takeNumber 6 = .ok (.getfield 69, 3) := by decide +kernel
theorem dX3_takeNumber_9 : decode cX3_takeNumber 9 = .ok (.istore_n 1, 1) := by decide +kernel
theorem dX3_takeNumber_10 : decode cX3_takeNumber 10 = .ok (.iload_n 1, 1) := by decide +kernel
theorem dX3_takeNumber_11 : decode cX3_takeNumber 11 = .ok (.aload_n 0, 1) := by decide +kernel
theorem dX3_takeNumber_12 : decode cX3_takeNumber 12 = .ok (.getfield 26, 3) := by decide +kernel
theorem dX3_takeNumber_15 : decode cX3_takeNumber 15 = .ok (.if_icmp .ge 30, 3) := by decide +kernel
theorem dX3_takeNumber_18 : decode cX3_takeNumber 18 = .ok (.aload_n 0, 1) := by decide +kernel
theorem dX3_takeNumber_19 : decode cX3_takeNumber 19 = .ok (.bipush 10, 2) := by decide +kernel
theorem dX3_takeNumber_21 : decode cX3_takeNumber 21 = .ok (.aload_n 0, 1) := by decide +kernel
theorem dX3_takeNumber_22 : decode cX3_takeNumber 22 = .ok (.getfield 82, 3) := by decide +kernel
theorem dX3_takeNumber_25 : decode cX3_takeNumber 25 = .ok (.imul, 1) := by decide +kernel
theorem dX3_takeNumber_26 : decode cX3_takeNumber 26 = .ok (.aload_n 0, 1) := by decide +kernel
theorem dX3_takeNumber_27 : decode cX3_takeNumber 27 = .ok (.getfield 9, 3) := by decide +kernel
theorem dX3_takeNumber_30 : decode cX3_takeNumber 30 = .ok (.iload_n 1, 1) := by decide +kernel
theorem dX3_takeNumber_31 : decode cX3_takeNumber 31 = .ok (.baload, 1) := by decide +kernel
theorem dX3_takeNumber_32 : decode cX3_takeNumber 32 = .ok (.iadd, 1) := by decide +kernel
theorem dX3_takeNumber_33 : decode cX3_takeNumber 33 = .ok (.bipush 48, 2) := by decide +kernel
theorem dX3_takeNumber_35 : decode cX3_takeNumber 35 = .ok (.isub, 1) := by decide +kernel
theorem dX3_takeNumber_36 : decode cX3_takeNumber 36 = .ok (.putfield 82, 3) := by decide +kernel
theorem dX3_takeNumber_39 : decode cX3_takeNumber 39 = .ok (.iinc 1 1, 3) := by decide +kernel
theorem dX3_takeNumber_42 : decode cX3_takeNumber 42 = .ok (.goto (-32), 3) := by decide +kernel
theorem dX3_takeNumber_45 : decode cX3_takeNumber 45 = .ok (.iconst 1, 1) := by decide +kernel
theorem dX3_takeNumber_46 : decode cX3_takeNumber 46 = .ok (.ireturn, 1) := by decide +kernel
theorem dX3_endOfRun_0 : decode cX3_endOfRun 0 = .ok (.aload_n 0, 1) := by decide +kernel
theorem dX3_endOfRun_1 : decode cX3_endOfRun 1 = .ok (.getfield 26, 3) := by decide +kernel
theorem dX3_endOfRun_4 : decode cX3_endOfRun 4 = .ok (.istore_n 3, 1) := by decide +kernel
theorem dX3_endOfRun_5 : decode cX3_endOfRun 5 = .ok (.iload_n 3, 1) := by decide +kernel
theorem dX3_endOfRun_6 : decode cX3_endOfRun 6 = .ok (.aload_n 0, 1) := by decide +kernel
theorem dX3_endOfRun_7 : decode cX3_endOfRun 7 = .ok (.getfield 22, 3) := by decide +kernel
theorem dX3_endOfRun_10 : decode cX3_endOfRun 10 = .ok (.if_icmp .ge 29, 3) := by decide +kernel
theorem dX3_endOfRun_13 : decode cX3_endOfRun 13 = .ok (.aload_n 0, 1) := by decide +kernel
theorem dX3_endOfRun_14 : decode cX3_endOfRun 14 = .ok (.getfield 9, 3) := by decide +kernel
theorem dX3_endOfRun_17 : decode cX3_endOfRun 17 = .ok (.iload_n 3, 1) := by decide +kernel
theorem dX3_endOfRun_18 : decode cX3_endOfRun 18 = .ok (.baload, 1) := by decide +kernel
theorem dX3_endOfRun_19 : decode cX3_endOfRun 19 = .ok (.iload_n 1, 1) := by decide +kernel
theorem dX3_endOfRun_20 : decode cX3_endOfRun 20 = .ok (.if_icmp .lt 19, 3) := by decide +kernel
theorem dX3_endOfRun_23 : decode cX3_endOfRun 23 = .ok (.aload_n 0, 1) := by decide +kernel
theorem dX3_endOfRun_24 : decode cX3_endOfRun 24 = .ok (.getfield 9, 3) := by decide +kernel
theorem dX3_endOfRun_27 : decode cX3_endOfRun 27 = .ok (.iload_n 3, 1) := by decide +kernel
theorem dX3_endOfRun_28 : decode cX3_endOfRun 28 = .ok (.baload, 1) := by decide +kernel
theorem dX3_endOfRun_29 : decode cX3_endOfRun 29 = .ok (.iload_n 2, 1) := by decide +kernel
theorem dX3_endOfRun_30 : decode cX3_endOfRun 30 = .ok (.if_icmp .gt 9, 3) := by decide +kernel
theorem dX3_endOfRun_33 : decode cX3_endOfRun 33 = .ok (.iinc 3 1, 3) := by decide +kernel
theorem dX3_endOfRun_36 : decode cX3_endOfRun 36 = .ok (.goto (-31), 3) := by decide +kernel
theorem dX3_endOfRun_39 : decode cX3_endOfRun 39 = .ok (.iload_n 3, 1) := by decide +kernel
theorem dX3_endOfRun_40 : decode cX3_endOfRun 40 = .ok (.ireturn, 1) := by decide +kernel
theorem dX3_lineOfName_0 : decode cX3_lineOfName 0 = .ok (.aload_n 0, 1) := by decide +kernel
theorem dX3_lineOfName_1 : decode cX3_lineOfName 1 = .ok (.ldc 115, 2) := by decide +kernel
theorem dX3_lineOfName_3 : decode cX3_lineOfName 3 = .ok (.invokevirtual 116, 3) := by decide +kernel
theorem dX3_lineOfName_6 : decode cX3_lineOfName 6 = .ok (.ifCond .eq 5, 3) := by decide +kernel
theorem dX3_lineOfName_9 : decode cX3_lineOfName 9 = .ok (.iconst 1, 1) := by decide +kernel
theorem dX3_lineOfName_10 : decode cX3_lineOfName 10 = .ok (.ireturn, 1) := by decide +kernel
theorem dX3_lineOfName_11 : decode cX3_lineOfName 11 = .ok (.aload_n 0, 1) := by decide +kernel
theorem dX3_lineOfName_12 : decode cX3_lineOfName 12 = .ok (.ldc 120, 2) := by decide +kernel
theorem dX3_lineOfName_14 : decode cX3_lineOfName 14 = .ok (.invokevirtual 116, 3) := by decide +kernel
theorem dX3_lineOfName_17 : decode cX3_lineOfName 17 = .ok (.ifCond .eq 5, 3) := by decide +kernel
theorem dX3_lineOfName_20 : decode cX3_lineOfName 20 = .ok (.iconst 2, 1) := by decide +kernel
theorem dX3_lineOfName_21 : decode cX3_lineOfName 21 = .ok (.ireturn, 1) := by decide +kernel
theorem dX3_lineOfName_22 : decode cX3_lineOfName 22 = .ok (.aload_n 0, 1) := by decide +kernel
theorem dX3_lineOfName_23 : decode cX3_lineOfName 23 = .ok (.ldc 122, 2) := by decide +kernel
theorem dX3_lineOfName_25 : decode cX3_lineOfName 25 = .ok (.invokevirtual 116, 3) := by decide +kernel
theorem dX3_lineOfName_28 : decode cX3_lineOfName 28 = .ok (.ifCond .eq 5, 3) := by decide +kernel
theorem dX3_lineOfName_31 : decode cX3_lineOfName 31 = .ok (.iconst 3, 1) := by decide +kernel
theorem dX3_lineOfName_32 : decode cX3_lineOfName 32 = .ok (.ireturn, 1) := by decide +kernel
theorem dX3_lineOfName_33 : decode cX3_lineOfName 33 = .ok (.aload_n 0, 1) := by decide +kernel
theorem dX3_lineOfName_34 : decode cX3_lineOfName 34 = .ok (.ldc 124, 2) := by decide +kernel
theorem dX3_lineOfName_36 : decode cX3_lineOfName 36 = .ok (.invokevirtual 116, 3) := by decide +kernel
theorem dX3_lineOfName_39 : decode cX3_lineOfName 39 = .ok (.ifCond .eq 5, 3) := by decide +kernel
theorem dX3_lineOfName_42 : decode cX3_lineOfName 42 = .ok (.iconst 4, 1) := by decide +kernel
theorem dX3_lineOfName_43 : decode cX3_lineOfName 43 = .ok (.ireturn, 1) := by decide +kernel
theorem dX3_lineOfName_44 : decode cX3_lineOfName 44 = .ok (.aload_n 0, 1) := by decide +kernel
theorem dX3_lineOfName_45 : decode cX3_lineOfName 45 = .ok (.ldc 126, 2) := by decide +kernel
theorem dX3_lineOfName_47 : decode cX3_lineOfName 47 = .ok (.invokevirtual 116, 3) := by decide +kernel
theorem dX3_lineOfName_50 : decode cX3_lineOfName 50 = .ok (.ifCond .eq 7, 3) := by decide +kernel
theorem dX3_lineOfName_53 : decode cX3_lineOfName 53 = .ok (.iconst 5, 1) := by decide +kernel
theorem dX3_lineOfName_54 : decode cX3_lineOfName 54 = .ok (.goto 4, 3) := by decide +kernel
theorem dX3_lineOfName_57 : decode cX3_lineOfName 57 = .ok (.iconst 0, 1) := by decide +kernel
theorem dX3_lineOfName_58 : decode cX3_lineOfName 58 = .ok (.ireturn, 1) := by decide +kernel
theorem dX3_nameIs_0 : decode cX3_nameIs 0 = .ok (.aload_n 0, 1) := by decide +kernel
theorem dX3_nameIs_1 : decode cX3_nameIs 1 = .ok (.getfield 26, 3) := by decide +kernel
theorem dX3_nameIs_4 : decode cX3_nameIs 4 = .ok (.aload_n 0, 1) := by decide +kernel
theorem dX3_nameIs_5 : decode cX3_nameIs 5 = .ok (.getfield 69, 3) := by decide +kernel
theorem dX3_nameIs_8 : decode cX3_nameIs 8 = .ok (.isub, 1) := by decide +kernel
theorem dX3_nameIs_9 : decode cX3_nameIs 9 = .ok (.aload_n 1, 1) := by decide +kernel
theorem dX3_nameIs_10 : decode cX3_nameIs 10 = .ok (.invokevirtual 128, 3) := by decide +kernel
theorem dX3_nameIs_13 : decode cX3_nameIs 13 = .ok (.if_icmp .eq 5, 3) := by decide +kernel
theorem dX3_nameIs_16 : decode cX3_nameIs 16 = .ok (.iconst 0, 1) := by decide +kernel
theorem dX3_nameIs_17 : decode cX3_nameIs 17 = .ok (.ireturn, 1) := by decide +kernel
theorem dX3_nameIs_18 : decode cX3_nameIs 18 = .ok (.iconst 0, 1) := by decide +kernel
theorem dX3_nameIs_19 : decode cX3_nameIs 19 = .ok (.istore_n 2, 1) := by decide +kernel
theorem dX3_nameIs_20 : decode cX3_nameIs 20 = .ok (.iload_n 2, 1) := by decide +kernel
theorem dX3_nameIs_21 : decode cX3_nameIs 21 = .ok (.aload_n 1, 1) := by decide +kernel
theorem dX3_nameIs_22 : decode cX3_nameIs 22 = .ok (.invokevirtual 128, 3) := by decide +kernel
theorem dX3_nameIs_25 : decode cX3_nameIs 25 = .ok (.if_icmp .ge 30, 3) := by decide +kernel
theorem dX3_nameIs_28 : decode cX3_nameIs 28 = .ok (.aload_n 0, 1) := by decide +kernel
theorem dX3_nameIs_29 : decode cX3_nameIs 29 = .ok (.getfield 9, 3) := by decide +kernel
theorem dX3_nameIs_32 : decode cX3_nameIs 32 = .ok (.aload_n 0, 1) := by decide +kernel
theorem dX3_nameIs_33 : decode cX3_nameIs 33 = .ok (.getfield 69, 3) := by decide +kernel
theorem dX3_nameIs_36 : decode cX3_nameIs 36 = .ok (.iload_n 2, 1) := by decide +kernel
theorem dX3_nameIs_37 : decode cX3_nameIs 37 = .ok (.iadd, 1) := by decide +kernel
theorem dX3_nameIs_38 : decode cX3_nameIs 38 = .ok (.baload, 1) := by decide +kernel
theorem dX3_nameIs_39 : decode cX3_nameIs 39 = .ok (.aload_n 1, 1) := by decide +kernel
theorem dX3_nameIs_40 : decode cX3_nameIs 40 = .ok (.iload_n 2, 1) := by decide +kernel
theorem dX3_nameIs_41 : decode cX3_nameIs 41 = .ok (.invokevirtual 133, 3) := by decide +kernel
theorem dX3_nameIs_44 : decode cX3_nameIs 44 = .ok (.if_icmp .eq 5, 3) := by decide +kernel
theorem dX3_nameIs_47 : decode cX3_nameIs 47 = .ok (.iconst 0, 1) := by decide +kernel
theorem dX3_nameIs_48 : decode cX3_nameIs 48 = .ok (.ireturn, 1) := by decide +kernel
theorem dX3_nameIs_49 : decode cX3_nameIs 49 = .ok (.iinc 2 1, 3) := by decide +kernel
theorem dX3_nameIs_52 : decode cX3_nameIs 52 = .ok (.goto (-32), 3) := by decide +kernel
theorem dX3_nameIs_55 : decode cX3_nameIs 55 = .ok (.iconst 1, 1) := by decide +kernel
theorem dX3_nameIs_56 : decode cX3_nameIs 56 = .ok (.ireturn, 1) := by decide +kernel
theorem dX3_stopAt_0 : decode cX3_stopAt 0 = .ok (.aload_n 0, 1) := by decide +kernel
theorem dX3_stopAt_1 : decode cX3_stopAt 1 = .ok (.iload_n 1, 1) := by decide +kernel
theorem dX3_stopAt_2 : decode cX3_stopAt 2 = .ok (.putfield 36, 3) := by decide +kernel
theorem dX3_stopAt_5 : decode cX3_stopAt 5 = .ok (.aload_n 0, 1) := by decide +kernel
theorem dX3_stopAt_6 : decode cX3_stopAt 6 = .ok (.iload_n 2, 1) := by decide +kernel
theorem dX3_stopAt_7 : decode cX3_stopAt 7 = .ok (.putfield 39, 3) := by decide +kernel
theorem dX3_stopAt_10 : decode cX3_stopAt 10 = .ok (.iconst 0, 1) := by decide +kernel
theorem dX3_stopAt_11 : decode cX3_stopAt 11 = .ok (.ireturn, 1) := by decide +kernel
