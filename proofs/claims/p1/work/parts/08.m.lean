theorem dX12_bestRow_0 : decode cX12_bestRow 0 = .ok (.iconst (-1), 1) := by decide +kernel
theorem dX12_bestRow_1 : decode cX12_bestRow 1 = .ok (.istore_n 1, 1) := by decide +kernel
theorem dX12_bestRow_2 : decode cX12_bestRow 2 = .ok (.iconst 0, 1) := by decide +kernel
theorem dX12_bestRow_3 : decode cX12_bestRow 3 = .ok (.istore_n 2, 1) := by decide +kernel
theorem dX12_bestRow_4 : decode cX12_bestRow 4 = .ok (.iconst 0, 1) := by decide +kernel
theorem dX12_bestRow_5 : decode cX12_bestRow 5 = .ok (.istore_n 3, 1) := by decide +kernel
theorem dX12_bestRow_6 : decode cX12_bestRow 6 = .ok (.iload_n 3, 1) := by decide +kernel
theorem dX12_bestRow_7 : decode cX12_bestRow 7 = .ok (.aload_n 0, 1) := by decide +kernel
theorem dX12_bestRow_8 : decode cX12_bestRow 8 = .ok (.invokevirtual 554, 3) := by decide +kernel
theorem dX12_bestRow_11 : decode cX12_bestRow 11 = .ok (.if_icmp .ge 62, 3) := by decide +kernel
theorem dX12_bestRow_14 : decode cX12_bestRow 14 = .ok (.aload_n 0, 1) := by decide +kernel
theorem dX12_bestRow_15 : decode cX12_bestRow 15 = .ok (.iload_n 3, 1) := by decide +kernel
theorem dX12_bestRow_16 : decode cX12_bestRow 16 = .ok (.invokevirtual 557, 3) := by decide +kernel
theorem dX12_bestRow_19 : decode cX12_bestRow 19 = .ok (.istore 4, 2) := by decide +kernel
theorem dX12_bestRow_21 : decode cX12_bestRow 21 = .ok (.iload 4, 2) := by decide +kernel
theorem dX12_bestRow_23 : decode cX12_bestRow 23 = .ok (.iconst (-1), 1) := by decide +kernel
theorem dX12_bestRow_24 : decode cX12_bestRow 24 = .ok (.if_icmp .eq 43, 3) := by decide +kernel
theorem dX12_bestRow_27 : decode cX12_bestRow 27 = .ok (.iload_n 1, 1) := by decide +kernel
theorem dX12_bestRow_28 : decode cX12_bestRow 28 = .ok (.iconst (-1), 1) := by decide +kernel
theorem dX12_bestRow_29 : decode cX12_bestRow 29 = .ok (.if_icmp .eq 33, 3) := by decide +kernel
theorem dX12_bestRow_62 : decode cX12_bestRow 62 = .ok (.iload_n 3, 1) := by decide +kernel
theorem dX12_bestRow_63 : decode cX12_bestRow 63 = .ok (.istore_n 1, 1) := by decide +kernel
theorem dX12_bestRow_64 : decode cX12_bestRow 64 = .ok (.iload 4, 2) := by decide +kernel
theorem dX12_bestRow_66 : decode cX12_bestRow 66 = .ok (.istore_n 2, 1) := by decide +kernel
theorem dX12_bestRow_67 : decode cX12_bestRow 67 = .ok (.iinc 3 1, 3) := by decide +kernel
theorem dX12_bestRow_70 : decode cX12_bestRow 70 = .ok (.goto (-64), 3) := by decide +kernel
theorem dX12_bestRow_73 : decode cX12_bestRow 73 = .ok (.iload_n 1, 1) := by decide +kernel
theorem dX12_bestRow_74 : decode cX12_bestRow 74 = .ok (.ireturn, 1) := by decide +kernel
theorem dX12_costOf_0 : decode cX12_costOf 0 = .ok (.iconst 0, 1) := by decide +kernel
theorem dX12_costOf_1 : decode cX12_costOf 1 = .ok (.istore_n 2, 1) := by decide +kernel
theorem dX12_costOf_2 : decode cX12_costOf 2 = .ok (.iconst 0, 1) := by decide +kernel
theorem dX12_costOf_3 : decode cX12_costOf 3 = .ok (.istore_n 3, 1) := by decide +kernel
theorem dX12_costOf_4 : decode cX12_costOf 4 = .ok (.iload_n 3, 1) := by decide +kernel
theorem dX12_costOf_5 : decode cX12_costOf 5 = .ok (.aload_n 0, 1) := by decide +kernel
theorem dX12_costOf_6 : decode cX12_costOf 6 = .ok (.getfield 506, 3) := by decide +kernel
theorem dX12_costOf_9 : decode cX12_costOf 9 = .ok (.if_icmp .ge 27, 3) := by decide +kernel
theorem dX12_costOf_36 : decode cX12_costOf 36 = .ok (.iload_n 2, 1) := by decide +kernel
theorem dX12_costOf_37 : decode cX12_costOf 37 = .ok (.ireturn, 1) := by decide +kernel
theorem dX12_daysBy_0 : decode cX12_daysBy 0 = .ok (.aload_n 0, 1) := by decide +kernel
theorem dX12_daysBy_1 : decode cX12_daysBy 1 = .ok (.getfield 545, 3) := by decide +kernel
theorem dX12_daysBy_4 : decode cX12_daysBy 4 = .ok (.ifCond .ne 13, 3) := by decide +kernel
theorem dX12_daysBy_7 : decode cX12_daysBy 7 = .ok (.iload_n 1, 1) := by decide +kernel
theorem dX12_daysBy_8 : decode cX12_daysBy 8 = .ok (.ifCond .ne 7, 3) := by decide +kernel
theorem dX12_daysBy_11 : decode cX12_daysBy 11 = .ok (.iconst 0, 1) := by decide +kernel
theorem dX12_daysBy_12 : decode cX12_daysBy 12 = .ok (.goto 4, 3) := by decide +kernel
theorem dX12_daysBy_15 : decode cX12_daysBy 15 = .ok (.iconst (-1), 1) := by decide +kernel
theorem dX12_daysBy_16 : decode cX12_daysBy 16 = .ok (.ireturn, 1) := by decide +kernel
theorem dX12_fixedVerse_0 : decode cX12_fixedVerse 0 = .ok (.iconst 0, 1) := by decide +kernel
theorem dX12_fixedVerse_1 : decode cX12_fixedVerse 1 = .ok (.istore_n 2, 1) := by decide +kernel
theorem dX12_fixedVerse_2 : decode cX12_fixedVerse 2 = .ok (.iconst 0, 1) := by decide +kernel
theorem dX12_fixedVerse_3 : decode cX12_fixedVerse 3 = .ok (.istore_n 3, 1) := by decide +kernel
theorem dX12_fixedVerse_4 : decode cX12_fixedVerse 4 = .ok (.iload_n 3, 1) := by decide +kernel
theorem dX12_fixedVerse_5 : decode cX12_fixedVerse 5 = .ok (.aload_n 0, 1) := by decide +kernel
theorem dX12_fixedVerse_6 : decode cX12_fixedVerse 6 = .ok (.getfield 210, 3) := by decide +kernel
theorem dX12_fixedVerse_9 : decode cX12_fixedVerse 9 = .ok (.if_icmp .ge 31, 3) := by decide +kernel
theorem dX12_fixedVerse_40 : decode cX12_fixedVerse 40 = .ok (.iconst (-1), 1) := by decide +kernel
theorem dX12_fixedVerse_41 : decode cX12_fixedVerse 41 = .ok (.ireturn, 1) := by decide +kernel
theorem dX12_isChoice_0 : decode cX12_isChoice 0 = .ok (.iload_n 1, 1) := by decide +kernel
theorem dX12_isChoice_1 : decode cX12_isChoice 1 = .ok (.iconst 0, 1) := by decide +kernel
theorem dX12_isChoice_2 : decode cX12_isChoice 2 = .ok (.iconst 1, 1) := by decide +kernel
theorem dX12_isChoice_3 : decode cX12_isChoice 3 = .ok (.iconst 2, 1) := by decide +kernel
theorem dX12_isChoice_4 : decode cX12_isChoice 4 = .ok (.aload_n 0, 1) := by decide +kernel
theorem dX12_isChoice_5 : decode cX12_isChoice 5 = .ok (.getfield 506, 3) := by decide +kernel
theorem dX12_isChoice_8 : decode cX12_isChoice 8 = .ok (.imul, 1) := by decide +kernel
theorem dX12_isChoice_9 : decode cX12_isChoice 9 = .ok (.ishl, 1) := by decide +kernel
theorem dX12_isChoice_10 : decode cX12_isChoice 10 = .ok (.iconst 1, 1) := by decide +kernel
theorem dX12_isChoice_11 : decode cX12_isChoice 11 = .ok (.isub, 1) := by decide +kernel
theorem dX12_isChoice_12 : decode cX12_isChoice 12 = .ok (.invokestatic 214, 3) := by decide +kernel
theorem dX12_isChoice_15 : decode cX12_isChoice 15 = .ok (.ifCond .ne 5, 3) := by decide +kernel
theorem dX12_isChoice_18 : decode cX12_isChoice 18 = .ok (.iconst 0, 1) := by decide +kernel
theorem dX12_isChoice_19 : decode cX12_isChoice 19 = .ok (.ireturn, 1) := by decide +kernel
theorem dX12_isChoice_20 : decode cX12_isChoice 20 = .ok (.iconst 0, 1) := by decide +kernel
theorem dX12_isChoice_21 : decode cX12_isChoice 21 = .ok (.istore_n 2, 1) := by decide +kernel
theorem dX12_isChoice_22 : decode cX12_isChoice 22 = .ok (.iload_n 2, 1) := by decide +kernel
theorem dX12_isChoice_23 : decode cX12_isChoice 23 = .ok (.aload_n 0, 1) := by decide +kernel
theorem dX12_isChoice_24 : decode cX12_isChoice 24 = .ok (.getfield 506, 3) := by decide +kernel
theorem dX12_isChoice_27 : decode cX12_isChoice 27 = .ok (.if_icmp .ge 26, 3) := by decide +kernel
theorem dX12_isChoice_53 : decode cX12_isChoice 53 = .ok (.iconst 1, 1) := by decide +kernel
theorem dX12_isChoice_54 : decode cX12_isChoice 54 = .ok (.ireturn, 1) := by decide +kernel
theorem dX12_isDay_0 : decode cX12_isDay 0 = .ok (.iload_n 1, 1) := by decide +kernel
theorem dX12_isDay_1 : decode cX12_isDay 1 = .ok (.iconst 0, 1) := by decide +kernel
theorem dX12_isDay_2 : decode cX12_isDay 2 = .ok (.sipush 3999, 3) := by decide +kernel
theorem dX12_isDay_5 : decode cX12_isDay 5 = .ok (.invokestatic 214, 3) := by decide +kernel
theorem dX12_isDay_8 : decode cX12_isDay 8 = .ok (.ireturn, 1) := by decide +kernel
theorem dX12_isOpen_0 : decode cX12_isOpen 0 = .ok (.aload_n 0, 1) := by decide +kernel
theorem dX12_isOpen_1 : decode cX12_isOpen 1 = .ok (.iload_n 1, 1) := by decide +kernel
theorem dX12_isOpen_2 : decode cX12_isOpen 2 = .ok (.invokevirtual 424, 3) := by decide +kernel
theorem dX12_isOpen_5 : decode cX12_isOpen 5 = .ok (.ifCond .eq 17, 3) := by decide +kernel
theorem dX12_isOpen_22 : decode cX12_isOpen 22 = .ok (.iconst 0, 1) := by decide +kernel
theorem dX12_isOpen_23 : decode cX12_isOpen 23 = .ok (.ireturn, 1) := by decide +kernel
theorem dX12_isRendering_0 : decode cX12_isRendering 0 = .ok (.iload_n 1, 1) := by decide +kernel
theorem dX12_isRendering_1 : decode cX12_isRendering 1 = .ok (.iconst 0, 1) := by decide +kernel
theorem dX12_isRendering_2 : decode cX12_isRendering 2 = .ok (.aload_n 0, 1) := by decide +kernel
theorem dX12_isRendering_3 : decode cX12_isRendering 3 = .ok (.getfield 421, 3) := by decide +kernel
theorem dX12_isRendering_6 : decode cX12_isRendering 6 = .ok (.iconst 1, 1) := by decide +kernel
theorem dX12_isRendering_7 : decode cX12_isRendering 7 = .ok (.isub, 1) := by decide +kernel
theorem dX12_isRendering_8 : decode cX12_isRendering 8 = .ok (.invokestatic 214, 3) := by decide +kernel
theorem dX12_isRendering_11 : decode cX12_isRendering 11 = .ok (.ireturn, 1) := by decide +kernel
theorem dX12_isVerse_0 : decode cX12_isVerse 0 = .ok (.iload_n 1, 1) := by decide +kernel
theorem dX12_isVerse_1 : decode cX12_isVerse 1 = .ok (.iconst 0, 1) := by decide +kernel
theorem dX12_isVerse_2 : decode cX12_isVerse 2 = .ok (.aload_n 0, 1) := by decide +kernel
theorem dX12_isVerse_3 : decode cX12_isVerse 3 = .ok (.getfield 210, 3) := by decide +kernel
theorem dX12_isVerse_6 : decode cX12_isVerse 6 = .ok (.iconst 1, 1) := by decide +kernel
theorem dX12_isVerse_7 : decode cX12_isVerse 7 = .ok (.isub, 1) := by decide +kernel
theorem dX12_isVerse_8 : decode cX12_isVerse 8 = .ok (.invokestatic 214, 3) := by decide +kernel
theorem dX12_isVerse_11 : decode cX12_isVerse 11 = .ok (.ireturn, 1) := by decide +kernel
theorem dX12_isWord_0 : decode cX12_isWord 0 = .ok (.iload_n 1, 1) := by decide +kernel
theorem dX12_isWord_1 : decode cX12_isWord 1 = .ok (.iconst 0, 1) := by decide +kernel
theorem dX12_isWord_2 : decode cX12_isWord 2 = .ok (.aload_n 0, 1) := by decide +kernel
theorem dX12_isWord_3 : decode cX12_isWord 3 = .ok (.getfield 218, 3) := by decide +kernel
theorem dX12_isWord_6 : decode cX12_isWord 6 = .ok (.iconst 1, 1) := by decide +kernel
theorem dX12_isWord_7 : decode cX12_isWord 7 = .ok (.isub, 1) := by decide +kernel
theorem dX12_isWord_8 : decode cX12_isWord 8 = .ok (.invokestatic 214, 3) := by decide +kernel
theorem dX12_isWord_11 : decode cX12_isWord 11 = .ok (.ireturn, 1) := by decide +kernel
theorem dX12_lies_0 : decode cX12_lies 0 = .ok (.iload_n 0, 1) := by decide +kernel
theorem dX12_lies_1 : decode cX12_lies 1 = .ok (.iload_n 1, 1) := by decide +kernel
theorem dX12_lies_2 : decode cX12_lies 2 = .ok (.if_icmp .lt 12, 3) := by decide +kernel
theorem dX12_lies_5 : decode cX12_lies 5 = .ok (.iload_n 0, 1) := by decide +kernel
theorem dX12_lies_6 : decode cX12_lies 6 = .ok (.iload_n 2, 1) := by decide +kernel
theorem dX12_lies_7 : decode cX12_lies 7 = .ok (.if_icmp .gt 7, 3) := by decide +kernel
theorem dX12_lies_10 : decode cX12_lies 10 = .ok (.iconst 1, 1) := by decide +kernel
theorem dX12_lies_11 : decode cX12_lies 11 = .ok (.goto 4, 3) := by decide +kernel
theorem dX12_lies_14 : decode cX12_lies 14 = .ok (.iconst 0, 1) := by decide +kernel
theorem dX12_lies_15 : decode cX12_lies 15 = .ok (.ireturn, 1) := by decide +kernel
theorem dX12_lists_0 : decode cX12_lists 0 = .ok (.aload_n 0, 1) := by decide +kernel
theorem dX12_lists_1 : decode cX12_lists 1 = .ok (.iconst 0, 1) := by decide +kernel
theorem dX12_lists_2 : decode cX12_lists 2 = .ok (.putfield 545, 3) := by decide +kernel
theorem dX12_lists_5 : decode cX12_lists 5 = .ok (.aload_n 0, 1) := by decide +kernel
theorem dX12_lists_6 : decode cX12_lists 6 = .ok (.iconst 0, 1) := by decide +kernel
theorem dX12_lists_7 : decode cX12_lists 7 = .ok (.putfield 548, 3) := by decide +kernel
theorem dX12_lists_10 : decode cX12_lists 10 = .ok (.iconst 0, 1) := by decide +kernel
theorem dX12_lists_11 : decode cX12_lists 11 = .ok (.istore_n 1, 1) := by decide +kernel
theorem dX12_lists_12 : decode cX12_lists 12 = .ok (.iload_n 1, 1) := by decide +kernel
theorem dX12_lists_13 : decode cX12_lists 13 = .ok (.bipush 8, 2) := by decide +kernel
theorem dX12_lists_15 : decode cX12_lists 15 = .ok (.if_icmp .ge 110, 3) := by decide +kernel
theorem dX12_lists_18 : decode cX12_lists 18 = .ok (.aload_n 0, 1) := by decide +kernel
theorem dX12_lists_19 : decode cX12_lists 19 = .ok (.getfield 545, 3) := by decide +kernel
theorem dX12_lists_22 : decode cX12_lists 22 = .ok (.bipush 6, 2) := by decide +kernel
theorem dX12_lists_24 : decode cX12_lists 24 = .ok (.if_icmp .ge 101, 3) := by decide +kernel
theorem dX12_lists_27 : decode cX12_lists 27 = .ok (.iconst 0, 1) := by decide +kernel
theorem dX12_lists_28 : decode cX12_lists 28 = .ok (.istore_n 2, 1) := by decide +kernel
theorem dX12_lists_29 : decode cX12_lists 29 = .ok (.iconst 0, 1) := by decide +kernel
theorem dX12_lists_30 : decode cX12_lists 30 = .ok (.istore_n 3, 1) := by decide +kernel
theorem dX12_lists_31 : decode cX12_lists 31 = .ok (.iload_n 3, 1) := by decide +kernel
theorem dX12_lists_32 : decode cX12_lists 32 = .ok (.aload_n 0, 1) := by decide +kernel
theorem dX12_lists_33 : decode cX12_lists 33 = .ok (.getfield 210, 3) := by decide +kernel
theorem dX12_lists_36 : decode cX12_lists 36 = .ok (.if_icmp .ge 36, 3) := by decide +kernel
theorem dX12_lists_72 : decode cX12_lists 72 = .ok (.iload_n 2, 1) := by decide +kernel
theorem dX12_lists_73 : decode cX12_lists 73 = .ok (.ifCond .ne 6, 3) := by decide +kernel
theorem dX12_lists_76 : decode cX12_lists 76 = .ok (.goto 43, 3) := by decide +kernel
theorem dX12_lists_119 : decode cX12_lists 119 = .ok (.iinc 1 1, 3) := by decide +kernel
theorem dX12_lists_122 : decode cX12_lists 122 = .ok (.goto (-110), 3) := by decide +kernel
theorem dX12_lists_125 : decode cX12_lists 125 = .ok (.return_, 1) := by decide +kernel
theorem dX12_mayBe_0 : decode cX12_mayBe 0 = .ok (.iconst 0, 1) := by decide +kernel
theorem dX12_mayBe_1 : decode cX12_mayBe 1 = .ok (.istore_n 2, 1) := by decide +kernel
theorem dX12_mayBe_2 : decode cX12_mayBe 2 = .ok (.iload_n 2, 1) := by decide +kernel
theorem dX12_mayBe_3 : decode cX12_mayBe 3 = .ok (.aload_n 0, 1) := by decide +kernel
theorem dX12_mayBe_4 : decode cX12_mayBe 4 = .ok (.getfield 506, 3) := by decide +kernel
theorem dX12_mayBe_7 : decode cX12_mayBe 7 = .ok (.if_icmp .ge 99, 3) := by decide +kernel
theorem dX12_mayBe_106 : decode cX12_mayBe 106 = .ok (.iconst 1, 1) := by decide +kernel
theorem dX12_mayBe_107 : decode cX12_mayBe 107 = .ok (.ireturn, 1) := by decide +kernel
theorem dX12_prices_0 : decode cX12_prices 0 = .ok (.iconst 0, 1) := by decide +kernel
theorem dX12_prices_1 : decode cX12_prices 1 = .ok (.istore_n 1, 1) := by decide +kernel
theorem dX12_prices_2 : decode cX12_prices 2 = .ok (.iload_n 1, 1) := by decide +kernel
theorem dX12_prices_3 : decode cX12_prices 3 = .ok (.bipush 24, 2) := by decide +kernel
theorem dX12_prices_5 : decode cX12_prices 5 = .ok (.if_icmp .ge 23, 3) := by decide +kernel
theorem dX12_prices_8 : decode cX12_prices 8 = .ok (.aload_n 0, 1) := by decide +kernel
theorem dX12_prices_9 : decode cX12_prices 9 = .ok (.getfield 186, 3) := by decide +kernel
theorem dX12_prices_12 : decode cX12_prices 12 = .ok (.iload_n 1, 1) := by decide +kernel
theorem dX12_prices_13 : decode cX12_prices 13 = .ok (.iconst 0, 1) := by decide +kernel
theorem dX12_prices_14 : decode cX12_prices 14 = .ok (.iastore, 1) := by decide +kernel
theorem dX12_prices_15 : decode cX12_prices 15 = .ok (.aload_n 0, 1) := by decide +kernel
theorem dX12_prices_16 : decode cX12_prices 16 = .ok (.getfield 189, 3) := by decide +kernel
theorem dX12_prices_19 : decode cX12_prices 19 = .ok (.iload_n 1, 1) := by decide +kernel
theorem dX12_prices_20 : decode cX12_prices 20 = .ok (.iconst 0, 1) := by decide +kernel
theorem dX12_prices_21 : decode cX12_prices 21 = .ok (.bastore, 1) := by decide +kernel
theorem dX12_prices_22 : decode cX12_prices 22 = .ok (.iinc 1 1, 3) := by decide +kernel
theorem dX12_prices_25 : decode cX12_prices 25 = .ok (.goto (-23), 3) := by decide +kernel
theorem dX12_prices_28 : decode cX12_prices 28 = .ok (.iconst 0, 1) := by decide +kernel
theorem dX12_prices_29 : decode cX12_prices 29 = .ok (.istore_n 1, 1) := by decide +kernel
theorem dX12_prices_30 : decode cX12_prices 30 = .ok (.iload_n 1, 1) := by decide +kernel
theorem dX12_prices_31 : decode cX12_prices 31 = .ok (.aload_n 0, 1) := by decide +kernel
theorem dX12_prices_32 : decode cX12_prices 32 = .ok (.getfield 210, 3) := by decide +kernel
theorem dX12_prices_35 : decode cX12_prices 35 = .ok (.if_icmp .ge 168, 3) := by decide +kernel
theorem dX12_prices_203 : decode cX12_prices 203 = .ok (.return_, 1) := by decide +kernel
theorem dX12_push_0 : decode cX12_push 0 = .ok (.bipush 24, 2) := by decide +kernel
theorem dX12_push_2 : decode cX12_push 2 = .ok (.istore_n 2, 1) := by decide +kernel
theorem dX12_push_3 : decode cX12_push 3 = .ok (.iload_n 2, 1) := by decide +kernel
theorem dX12_push_4 : decode cX12_push 4 = .ok (.ifCond .lt 32, 3) := by decide +kernel
theorem dX12_push_7 : decode cX12_push 7 = .ok (.aload_n 0, 1) := by decide +kernel
theorem dX12_push_8 : decode cX12_push 8 = .ok (.getfield 7, 3) := by decide +kernel
theorem dX12_push_11 : decode cX12_push 11 = .ok (.aload_n 0, 1) := by decide +kernel
theorem dX12_push_12 : decode cX12_push 12 = .ok (.getfield 224, 3) := by decide +kernel
theorem dX12_push_15 : decode cX12_push 15 = .ok (.iload_n 1, 1) := by decide +kernel
theorem dX12_push_16 : decode cX12_push 16 = .ok (.iload_n 2, 1) := by decide +kernel
theorem dX12_push_17 : decode cX12_push 17 = .ok (.ishr, 1) := by decide +kernel
theorem dX12_push_18 : decode cX12_push 18 = .ok (.i2b, 1) := by decide +kernel
theorem dX12_push_19 : decode cX12_push 19 = .ok (.bastore, 1) := by decide +kernel
theorem dX12_push_20 : decode cX12_push 20 = .ok (.aload_n 0, 1) := by decide +kernel
theorem dX12_push_21 : decode cX12_push 21 = .ok (.dup, 1) := by decide +kernel
theorem dX12_push_22 : decode cX12_push 22 = .ok (.getfield 224, 3) := by decide +kernel
theorem dX12_push_25 : decode cX12_push 25 = .ok (.iconst 1, 1) := by decide +kernel
theorem dX12_push_26 : decode cX12_push 26 = .ok (.iadd, 1) := by decide +kernel
theorem dX12_push_27 : decode cX12_push 27 = .ok (.putfield 224, 3) := by decide +kernel
theorem dX12_push_30 : decode cX12_push 30 = .ok (.iinc 2 (-8), 3) := by decide +kernel
theorem dX12_push_33 : decode cX12_push 33 = .ok (.goto (-30), 3) := by decide +kernel
theorem dX12_push_36 : decode cX12_push 36 = .ok (.return_, 1) := by decide +kernel
theorem dX12_rows_0 : decode cX12_rows 0 = .ok (.iconst 1, 1) := by decide +kernel
theorem dX12_rows_1 : decode cX12_rows 1 = .ok (.istore_n 1, 1) := by decide +kernel
theorem dX12_rows_2 : decode cX12_rows 2 = .ok (.iconst 0, 1) := by decide +kernel
theorem dX12_rows_3 : decode cX12_rows 3 = .ok (.istore_n 2, 1) := by decide +kernel
theorem dX12_rows_4 : decode cX12_rows 4 = .ok (.iload_n 2, 1) := by decide +kernel
theorem dX12_rows_5 : decode cX12_rows 5 = .ok (.aload_n 0, 1) := by decide +kernel
theorem dX12_rows_6 : decode cX12_rows 6 = .ok (.getfield 545, 3) := by decide +kernel
theorem dX12_rows_9 : decode cX12_rows 9 = .ok (.if_icmp .ge 14, 3) := by decide +kernel
theorem dX12_rows_23 : decode cX12_rows 23 = .ok (.iload_n 1, 1) := by decide +kernel
theorem dX12_rows_24 : decode cX12_rows 24 = .ok (.ireturn, 1) := by decide +kernel
theorem dX12_unlikes_0 : decode cX12_unlikes 0 = .ok (.iconst 0, 1) := by decide +kernel
theorem dX12_unlikes_1 : decode cX12_unlikes 1 = .ok (.istore_n 2, 1) := by decide +kernel
theorem dX12_unlikes_2 : decode cX12_unlikes 2 = .ok (.iconst 0, 1) := by decide +kernel
theorem dX12_unlikes_3 : decode cX12_unlikes 3 = .ok (.istore_n 3, 1) := by decide +kernel
theorem dX12_unlikes_4 : decode cX12_unlikes 4 = .ok (.iload_n 3, 1) := by decide +kernel
theorem dX12_unlikes_5 : decode cX12_unlikes 5 = .ok (.aload_n 0, 1) := by decide +kernel
theorem dX12_unlikes_6 : decode cX12_unlikes 6 = .ok (.getfield 210, 3) := by decide +kernel
theorem dX12_unlikes_9 : decode cX12_unlikes 9 = .ok (.if_icmp .ge 200, 3) := by decide +kernel
theorem dX12_unlikes_209 : decode cX12_unlikes 209 = .ok (.iload_n 2, 1) := by decide +kernel
theorem dX12_unlikes_210 : decode cX12_unlikes 210 = .ok (.ireturn, 1) := by decide +kernel
set_option maxHeartbeats 4000000 in
set_option maxRecDepth 100000 in
theorem m_12_lies (l : Launch) (D : va_G) (ct : Nat → ClassId) (tN : Nat) (ad : Nat → Nat) (iv : Nat → Int32) (ia : Nat → Nat → Int32) (R : va_W) (p0 : Int32) (p1 : Int32) (p2 : Int32)  : MI l D (TY ct) tN yX12_lies cX12_lies 3 (some .boolean) ({ frames := 0, cells := 0, slots := 0, locals := 0 } : Room) [.int p0, .int p1, .int p2] (MW ct ad iv ia R) (fun (v : Int32) (u : Unit) => (p1.toInt ≤ p0.toInt ∧ p0.toInt ≤ p2.toInt ∧ v.toInt = 1) ∨ ((p0.toInt < p1.toInt ∨ p2.toInt < p0.toInt) ∧ v.toInt = 0)) (fun _ => MW ct ad iv ia R) 0 0 := by
  intro sz
  refine Met.ofE (Qc := fun A => va_Qi (fun (v : Int32) (u : Unit) => (p1.toInt ≤ p0.toInt ∧ p0.toInt ≤ p2.toInt ∧ v.toInt = 1) ∨ ((p0.toInt < p1.toInt ∨ p2.toInt < p0.toInt) ∧ v.toInt = 0)) (BW D A (fun _ => MW ct ad iv ia R)) A) (by decide) (Nat.le_of_ble_eq_true rfl) ?_
  intro p e s m args below meth c A ls hsz E hr hlk hnm B hl
  have hl : lv_has ls 3 [(0, .int p0), (1, .int p1), (2, .int p2)] := hl
  refine lv_iload_n E.1.1 E.1.2.1 dX12_lies_0 rfl (lv_at hl 0 rfl) ?_
  refine lv_iload_n E.1.1 E.1.2.1 dX12_lies_1 rfl (lv_at hl 1 rfl) ?_
  refine c_lt (tgt := 14) E rfl rfl dX12_lies_2 (by decide) (fun c_1 => ?_) (fun c_1 => ?_)
  · skip
    refine lv_iconst (v := 0) E.1.1 E.1.2.1 dX12_lies_14 (by decide) ?_
    have r_2 : (0 : Int32).toInt = 0 := tI_0
    exact ret_I (u := ()) E hr hlk (narrow_z (by omega)) B (by omega) dX12_lies_15
  · skip
    refine lv_iload_n E.1.1 E.1.2.1 dX12_lies_5 rfl (lv_at hl 0 rfl) ?_
    refine lv_iload_n E.1.1 E.1.2.1 dX12_lies_6 rfl (lv_at hl 2 rfl) ?_
    refine c_gt (tgt := 14) E rfl rfl dX12_lies_7 (by decide) (fun c_3 => ?_) (fun c_3 => ?_)
    · skip
      refine lv_iconst (v := 0) E.1.1 E.1.2.1 dX12_lies_14 (by decide) ?_
      have r_4 : (0 : Int32).toInt = 0 := tI_0
      exact ret_I (u := ()) E hr hlk (narrow_z (by omega)) B (by omega) dX12_lies_15
    · skip
      refine lv_iconst (v := 1) E.1.1 E.1.2.1 dX12_lies_10 (by decide) ?_
      refine lv_goto (tgt := 15) E.1.1 E.1.2.1 dX12_lies_11 (by decide) ?_
      have r_5 : (1 : Int32).toInt = 1 := tI_1
      exact ret_I (u := ()) E hr hlk (narrow_z (by omega)) B (by omega) dX12_lies_15
set_option maxHeartbeats 4000000 in
set_option maxRecDepth 100000 in
theorem m_12_isVerse (l : Launch) (D : va_G) (ct : Nat → ClassId) (tN : Nat) (ad : Nat → Nat) (iv : Nat → Int32) (ia : Nat → Nat → Int32) (R : va_W) (p0 : Int32) (h2 : (iv 2).toInt = 0) : MI l D (TY ct) tN yX12_isVerse cX12_isVerse 2 (some .boolean) ({ frames := 1, cells := 0, slots := 0, locals := 22 } : Room) [.ref (ad 0), .int p0] (MW ct ad iv ia R) (fun (v : Int32) (u : Unit) => v.toInt = 0) (fun _ => MW ct ad iv ia R) 0 0 := by
  intro sz
  refine Met.ofE (Qc := fun A => va_Qi (fun (v : Int32) (u : Unit) => v.toInt = 0) (BW D A (fun _ => MW ct ad iv ia R)) A) (by decide) (Nat.le_of_ble_eq_true rfl) ?_
  intro p e s m args below meth c A ls hsz E hr hlk hnm B hl
  have hl : lv_has ls 2 [(0, .ref (ad 0)), (1, .int p0)] := hl
  refine lv_iload_n E.1.1 E.1.2.1 dX12_isVerse_0 rfl (lv_at hl 1 rfl) ?_
  refine lv_iconst (v := 0) E.1.1 E.1.2.1 dX12_isVerse_1 (by decide) ?_
  refine lv_aload_n E.1.1 E.1.2.1 dX12_isVerse_2 rfl (lv_at hl 0 rfl) ?_
  refine row_get (v := .int (iv 2)) E B iX12 rfl 3 (by decide) mw_1479 0 rfl rfl dX12_isVerse_3 ?_
  refine lv_iconst (v := 1) E.1.1 E.1.2.1 dX12_isVerse_6 (by decide) ?_
  refine i_sub E h2 tI_1 (by omega) (by omega) dX12_isVerse_7 (fun z_1 ez_1 => ?_)
  have ez_1 : z_1.toInt = -1 := by omega
  refine at_pc (n := 8) rfl ?_
  refine call_SI (kn := 3) E B (m_12_lies l D ct tN ad iv ia R  p0 ((0 : Int32)) z_1 ) (good_S mw_1769 mw_1770 mw_12 mw_1771) (by decide +kernel) rfl rfl rfl ⟨by decide, by decide⟩ rfl hl (Nat.le_of_ble_eq_true rfl) dX12_isVerse_8 ⟨Nat.le_of_ble_eq_true rfl, Nat.le_of_ble_eq_true rfl⟩ (fun v_2 u_3 H locs w_4 B => ?_)
  have w_4 : (0 ≤ p0.toInt ∧ p0.toInt ≤ (-1) ∧ v_2.toInt = 1) ∨ ((p0.toInt < 0 ∨ (-1) < p0.toInt) ∧ v_2.toInt = 0) := by have h0 := w_4; have a1 := tI_0; have a2 := ez_1; omega
  have w_5 : v_2.toInt = 0 := by omega
  have B : Hp D A s.heap (MW ct ad iv ia R) H locs := B
  refine at_n (n := 11) (k1 := 0) (k2 := 0) rfl rfl rfl ?_
  have r_6 : v_2.toInt = 0 := w_5
  exact ret_I (u := ()) E hr hlk (narrow_z (by omega)) B (by omega) dX12_isVerse_11
set_option maxHeartbeats 4000000 in
set_option maxRecDepth 100000 in
theorem m_12_isWord (l : Launch) (D : va_G) (ct : Nat → ClassId) (tN : Nat) (ad : Nat → Nat) (iv : Nat → Int32) (ia : Nat → Nat → Int32) (R : va_W) (p0 : Int32) (h3 : (iv 3).toInt = 0) : MI l D (TY ct) tN yX12_isWord cX12_isWord 2 (some .boolean) ({ frames := 1, cells := 0, slots := 0, locals := 22 } : Room) [.ref (ad 0), .int p0] (MW ct ad iv ia R) (fun (v : Int32) (u : Unit) => v.toInt = 0) (fun _ => MW ct ad iv ia R) 0 0 := by
  intro sz
  refine Met.ofE (Qc := fun A => va_Qi (fun (v : Int32) (u : Unit) => v.toInt = 0) (BW D A (fun _ => MW ct ad iv ia R)) A) (by decide) (Nat.le_of_ble_eq_true rfl) ?_
  intro p e s m args below meth c A ls hsz E hr hlk hnm B hl
  have hl : lv_has ls 2 [(0, .ref (ad 0)), (1, .int p0)] := hl
  refine lv_iload_n E.1.1 E.1.2.1 dX12_isWord_0 rfl (lv_at hl 1 rfl) ?_
  refine lv_iconst (v := 0) E.1.1 E.1.2.1 dX12_isWord_1 (by decide) ?_
  refine lv_aload_n E.1.1 E.1.2.1 dX12_isWord_2 rfl (lv_at hl 0 rfl) ?_
  refine row_get (v := .int (iv 3)) E B iX12 rfl 4 (by decide) mw_1480 0 rfl rfl dX12_isWord_3 ?_
  refine lv_iconst (v := 1) E.1.1 E.1.2.1 dX12_isWord_6 (by decide) ?_
  refine i_sub E h3 tI_1 (by omega) (by omega) dX12_isWord_7 (fun z_1 ez_1 => ?_)
  have ez_1 : z_1.toInt = -1 := by omega
  refine at_pc (n := 8) rfl ?_
  refine call_SI (kn := 3) E B (m_12_lies l D ct tN ad iv ia R  p0 ((0 : Int32)) z_1 ) (good_S mw_1769 mw_1770 mw_12 mw_1771) (by decide +kernel) rfl rfl rfl ⟨by decide, by decide⟩ rfl hl (Nat.le_of_ble_eq_true rfl) dX12_isWord_8 ⟨Nat.le_of_ble_eq_true rfl, Nat.le_of_ble_eq_true rfl⟩ (fun v_2 u_3 H locs w_4 B => ?_)
  have w_4 : (0 ≤ p0.toInt ∧ p0.toInt ≤ (-1) ∧ v_2.toInt = 1) ∨ ((p0.toInt < 0 ∨ (-1) < p0.toInt) ∧ v_2.toInt = 0) := by have h0 := w_4; have a1 := tI_0; have a2 := ez_1; omega
  have w_5 : v_2.toInt = 0 := by omega
  have B : Hp D A s.heap (MW ct ad iv ia R) H locs := B
  refine at_n (n := 11) (k1 := 0) (k2 := 0) rfl rfl rfl ?_
  have r_6 : v_2.toInt = 0 := w_5
  exact ret_I (u := ()) E hr hlk (narrow_z (by omega)) B (by omega) dX12_isWord_11
set_option maxHeartbeats 4000000 in
set_option maxRecDepth 100000 in
theorem m_12_isDay (l : Launch) (D : va_G) (ct : Nat → ClassId) (tN : Nat) (ad : Nat → Nat) (iv : Nat → Int32) (ia : Nat → Nat → Int32) (R : va_W) (p0 : Int32)  : MI l D (TY ct) tN yX12_isDay cX12_isDay 2 (some .boolean) ({ frames := 1, cells := 0, slots := 0, locals := 22 } : Room) [.ref (ad 0), .int p0] (MW ct ad iv ia R) (fun (v : Int32) (u : Unit) => (0 ≤ p0.toInt ∧ p0.toInt ≤ 3999 ∧ v.toInt = 1) ∨ ((p0.toInt < 0 ∨ 3999 < p0.toInt) ∧ v.toInt = 0)) (fun _ => MW ct ad iv ia R) 0 0 := by
  intro sz
  refine Met.ofE (Qc := fun A => va_Qi (fun (v : Int32) (u : Unit) => (0 ≤ p0.toInt ∧ p0.toInt ≤ 3999 ∧ v.toInt = 1) ∨ ((p0.toInt < 0 ∨ 3999 < p0.toInt) ∧ v.toInt = 0)) (BW D A (fun _ => MW ct ad iv ia R)) A) (by decide) (Nat.le_of_ble_eq_true rfl) ?_
  intro p e s m args below meth c A ls hsz E hr hlk hnm B hl
  have hl : lv_has ls 2 [(0, .ref (ad 0)), (1, .int p0)] := hl
  refine lv_iload_n E.1.1 E.1.2.1 dX12_isDay_0 rfl (lv_at hl 1 rfl) ?_
  refine lv_iconst (v := 0) E.1.1 E.1.2.1 dX12_isDay_1 (by decide) ?_
  refine lv_sipush (v := 3999) E.1.1 E.1.2.1 dX12_isDay_2 (by decide) ?_
  refine call_SI (kn := 3) E B (m_12_lies l D ct tN ad iv ia R  p0 ((0 : Int32)) ((3999 : Int32)) ) (good_S mw_1769 mw_1770 mw_12 mw_1771) (by decide +kernel) rfl rfl rfl ⟨by decide, by decide⟩ rfl hl (Nat.le_of_ble_eq_true rfl) dX12_isDay_5 ⟨Nat.le_of_ble_eq_true rfl, Nat.le_of_ble_eq_true rfl⟩ (fun v_1 u_2 H locs w_3 B => ?_)
  have w_3 : (0 ≤ p0.toInt ∧ p0.toInt ≤ 3999 ∧ v_1.toInt = 1) ∨ ((p0.toInt < 0 ∨ 3999 < p0.toInt) ∧ v_1.toInt = 0) := by have h0 := w_3; have a1 := tI_0; have a2 := tI_3999; omega
  have B : Hp D A s.heap (MW ct ad iv ia R) H locs := B
  refine at_n (n := 8) (k1 := 0) (k2 := 0) rfl rfl rfl ?_
  have r_4 : v_1.toInt = v_1.toInt := rfl
  exact ret_I (u := ()) E hr hlk (narrow_z (by omega)) B (by omega) dX12_isDay_8
set_option maxHeartbeats 4000000 in
set_option maxRecDepth 100000 in
theorem m_12_isRendering (l : Launch) (D : va_G) (ct : Nat → ClassId) (tN : Nat) (ad : Nat → Nat) (iv : Nat → Int32) (ia : Nat → Nat → Int32) (R : va_W) (p0 : Int32) (h7 : (iv 7).toInt = 0) : MI l D (TY ct) tN yX12_isRendering cX12_isRendering 2 (some .boolean) ({ frames := 1, cells := 0, slots := 0, locals := 22 } : Room) [.ref (ad 0), .int p0] (MW ct ad iv ia R) (fun (v : Int32) (u : Unit) => v.toInt = 0) (fun _ => MW ct ad iv ia R) 0 0 := by
  intro sz
  refine Met.ofE (Qc := fun A => va_Qi (fun (v : Int32) (u : Unit) => v.toInt = 0) (BW D A (fun _ => MW ct ad iv ia R)) A) (by decide) (Nat.le_of_ble_eq_true rfl) ?_
  intro p e s m args below meth c A ls hsz E hr hlk hnm B hl
  have hl : lv_has ls 2 [(0, .ref (ad 0)), (1, .int p0)] := hl
  refine lv_iload_n E.1.1 E.1.2.1 dX12_isRendering_0 rfl (lv_at hl 1 rfl) ?_
  refine lv_iconst (v := 0) E.1.1 E.1.2.1 dX12_isRendering_1 (by decide) ?_
  refine lv_aload_n E.1.1 E.1.2.1 dX12_isRendering_2 rfl (lv_at hl 0 rfl) ?_
  refine row_get (v := .int (iv 7)) E B iX12 rfl 8 (by decide) mw_1484 0 rfl rfl dX12_isRendering_3 ?_
  refine lv_iconst (v := 1) E.1.1 E.1.2.1 dX12_isRendering_6 (by decide) ?_
  refine i_sub E h7 tI_1 (by omega) (by omega) dX12_isRendering_7 (fun z_1 ez_1 => ?_)
  have ez_1 : z_1.toInt = -1 := by omega
  refine at_pc (n := 8) rfl ?_
  refine call_SI (kn := 3) E B (m_12_lies l D ct tN ad iv ia R  p0 ((0 : Int32)) z_1 ) (good_S mw_1769 mw_1770 mw_12 mw_1771) (by decide +kernel) rfl rfl rfl ⟨by decide, by decide⟩ rfl hl (Nat.le_of_ble_eq_true rfl) dX12_isRendering_8 ⟨Nat.le_of_ble_eq_true rfl, Nat.le_of_ble_eq_true rfl⟩ (fun v_2 u_3 H locs w_4 B => ?_)
  have w_4 : (0 ≤ p0.toInt ∧ p0.toInt ≤ (-1) ∧ v_2.toInt = 1) ∨ ((p0.toInt < 0 ∨ (-1) < p0.toInt) ∧ v_2.toInt = 0) := by have h0 := w_4; have a1 := tI_0; have a2 := ez_1; omega
  have w_5 : v_2.toInt = 0 := by omega
  have B : Hp D A s.heap (MW ct ad iv ia R) H locs := B
  refine at_n (n := 11) (k1 := 0) (k2 := 0) rfl rfl rfl ?_
  have r_6 : v_2.toInt = 0 := w_5
  exact ret_I (u := ()) E hr hlk (narrow_z (by omega)) B (by omega) dX12_isRendering_11
set_option maxHeartbeats 4000000 in
set_option maxRecDepth 100000 in
theorem m_12_isOpen (l : Launch) (D : va_G) (ct : Nat → ClassId) (tN : Nat) (ad : Nat → Nat) (iv : Nat → Int32) (ia : Nat → Nat → Int32) (R : va_W) (p0 : Int32) (h7 : (iv 7).toInt = 0) : MI l D (TY ct) tN yX12_isOpen cX12_isOpen 2 (some .boolean) ({ frames := 2, cells := 0, slots := 0, locals := 43 } : Room) [.ref (ad 0), .int p0] (MW ct ad iv ia R) (fun (v : Int32) (u : Unit) => v.toInt = 0) (fun _ => MW ct ad iv ia R) 0 0 := by
  intro sz
  refine Met.ofE (Qc := fun A => va_Qi (fun (v : Int32) (u : Unit) => v.toInt = 0) (BW D A (fun _ => MW ct ad iv ia R)) A) (by decide) (Nat.le_of_ble_eq_true rfl) ?_
  intro p e s m args below meth c A ls hsz E hr hlk hnm B hl
  have hl : lv_has ls 2 [(0, .ref (ad 0)), (1, .int p0)] := hl
  refine lv_aload_n E.1.1 E.1.2.1 dX12_isOpen_0 rfl (lv_at hl 0 rfl) ?_
  refine lv_iload_n E.1.1 E.1.2.1 dX12_isOpen_1 rfl (lv_at hl 1 rfl) ?_
  refine call_VI (kn := 1) E B (m_12_isRendering l D ct tN ad iv ia R  p0 h7) (good_V mw_2022 mw_2024 ms_115 mw_12 mw_2025) 0 rfl rfl ⟨rfl, by decide +kernel⟩ rfl rfl rfl ⟨by decide, by decide⟩ rfl hl (Nat.le_of_ble_eq_true rfl) dX12_isOpen_2 ⟨Nat.le_of_ble_eq_true rfl, Nat.le_of_ble_eq_true rfl⟩ (fun v_1 u_2 H locs w_3 B => ?_)
  have w_3 : v_1.toInt = 0 := w_3
  have B : Hp D A s.heap (MW ct ad iv ia R) H locs := B
  refine at_n (n := 5) (k1 := 0) (k2 := 0) rfl rfl rfl ?_
  refine b_eq (tgt := 22) E w_3 dX12_isOpen_5 (by decide) (fun c_4 => ?_) (fun c_4 => ?_)
  · skip
    refine lv_iconst (v := 0) E.1.1 E.1.2.1 dX12_isOpen_22 (by decide) ?_
    have r_5 : (0 : Int32).toInt = 0 := tI_0
    exact ret_I (u := ()) E hr hlk (narrow_z (by omega)) B (by omega) dX12_isOpen_23
  · exfalso; omega
set_option maxHeartbeats 4000000 in
set_option maxRecDepth 100000 in
theorem m_12_push (l : Launch) (D : va_G) (ct : Nat → ClassId) (tN : Nat) (ad : Nat → Nat) (iv : Nat → Int32) (ia : Nat → Nat → Int32) (R : va_W) (t : Int) (p0 : Int32) (h0 : (iv 0).toInt = t) (k0 : 0 ≤ t ∧ t ≤ 180) : MV l D (TY ct) tN yX12_push cX12_push 3 ({ frames := 0, cells := 0, slots := 0, locals := 0 } : Room) [.ref (ad 0), .int p0] (MW ct ad iv ia R) (fun (u : (Nat → Int32) × (Nat → Nat → Int32)) => (u.1 0).toInt = t + 4) (fun u => MW ct ad u.1 u.2 R) 0 0 := by
  intro sz
  refine Met.ofE (Qc := fun A => va_Qv (fun (u : (Nat → Int32) × (Nat → Nat → Int32)) => (u.1 0).toInt = t + 4) (BW D A (fun u => MW ct ad u.1 u.2 R)) A) (by decide) (Nat.le_of_ble_eq_true rfl) ?_
  intro p e s m args below meth c A ls hsz E hr hlk hnm B hl
  have hl : lv_has ls 3 [(0, .ref (ad 0)), (1, .int p0)] := hl
  refine lv_bipush (v := 24) E.1.1 E.1.2.1 dX12_push_0 (by decide) ?_
  refine lv_istore_n (lv' := [(2, .int (24 : Int32)), (0, .ref (ad 0)), (1, .int p0)]) E.1.1 E.1.2.1 dX12_push_2 rfl hl (by decide) rfl (fun ls hl => ?_)
  refine lv_iload_n E.1.1 E.1.2.1 dX12_push_3 rfl (lv_at hl 0 rfl) ?_
  refine b_lt (tgt := 36) E tI_24 dX12_push_4 (by decide) (fun c_1 => ?_) (fun c_1 => ?_)
  · exfalso; omega
  · skip
    refine lv_aload_n E.1.1 E.1.2.1 dX12_push_7 rfl (lv_at hl 1 rfl) ?_
    refine row_get (v := .ref (ad 1)) E B iX12 rfl 0 (by decide) mw_1476 0 rfl rfl dX12_push_8 ?_
    refine lv_aload_n E.1.1 E.1.2.1 dX12_push_11 rfl (lv_at hl 1 rfl) ?_
    refine row_get (v := .int (iv 0)) E B iX12 rfl 1 (by decide) mw_1477 0 rfl rfl dX12_push_12 ?_
    refine lv_iload_n E.1.1 E.1.2.1 dX12_push_15 rfl (lv_at hl 2 rfl) ?_
    refine lv_iload_n E.1.1 E.1.2.1 dX12_push_16 rfl (lv_at hl 0 rfl) ?_
    refine at_pc (n := 17) rfl ?_
    refine lv_ishr E.1.1 E.1.2.1 dX12_push_17 (any_i (fun z_2 => ?_))
    refine lv_i2b E.1.1 E.1.2.1 dX12_push_18 rfl (any_i (fun z_3 => ?_))
    refine row_bast E B 1 rfl (vp_of h0 (by omega) (by omega)) dX12_push_19 (fun H locs B => ?_)
    have B := Hp.eq (sm_ia_1 ct ad iv ia R (upd (ia 1) (iv 0).toNatClampNeg (vp_nar .byte z_3))) B
    generalize va_up ia 1 (upd (ia 1) (iv 0).toNatClampNeg (vp_nar .byte z_3)) = ia_4 at B 
    refine lv_aload_n E.1.1 E.1.2.1 dX12_push_20 rfl (lv_at hl 1 rfl) ?_
    refine lv_dup E.1.1 E.1.2.1 dX12_push_21 rfl ?_
    refine row_get (v := .int (iv 0)) E B iX12 rfl 1 (by decide) mw_1477 0 rfl rfl dX12_push_22 ?_
    refine at_pc (n := 25) rfl ?_
    refine lv_iconst (v := 1) E.1.1 E.1.2.1 dX12_push_25 (by decide) ?_
    refine i_add E h0 tI_1 (by omega) (by omega) dX12_push_26 (fun z_5 ez_5 => ?_)
    have ez_5 : z_5.toInt = t + 1 := by omega
    refine row_put E B iX12 rfl tyX12 tyX12_ok nmX12 1 (by decide) mw_1477 rfl 0 rfl rfl rfl (Nat.le_of_ble_eq_true rfl) dX12_push_27 (fun H locs B => ?_)
    have B := Hp.eq (sm_iv_0 ct ad iv ia_4 R z_5) B
    have h_7 : ((va_up iv 0 z_5) 0).toInt = t + 1 := ez_5
    generalize va_up iv 0 z_5 = iv_6 at B h_7
    refine lv_iinc (v := 16) (lv' := [(2, .int (16 : Int32)), (0, .ref (ad 0)), (1, .int p0)]) E.1.1 E.1.2.1 dX12_push_30 hl (k := 0) rfl (by decide) (by decide) rfl (fun ls hl => ?_)
    refine lv_goto (tgt := 3) E.1.1 E.1.2.1 dX12_push_33 (by decide) ?_
    refine lv_iload_n E.1.1 E.1.2.1 dX12_push_3 rfl (lv_at hl 0 rfl) ?_
    refine b_lt (tgt := 36) E tI_16 dX12_push_4 (by decide) (fun c_8 => ?_) (fun c_8 => ?_)
    · exfalso; omega
    · skip
      refine lv_aload_n E.1.1 E.1.2.1 dX12_push_7 rfl (lv_at hl 1 rfl) ?_
      refine row_get (v := .ref (ad 1)) E B iX12 rfl 0 (by decide) mw_1476 0 rfl rfl dX12_push_8 ?_
      refine lv_aload_n E.1.1 E.1.2.1 dX12_push_11 rfl (lv_at hl 1 rfl) ?_
      refine row_get (v := .int (iv_6 0)) E B iX12 rfl 1 (by decide) mw_1477 0 rfl rfl dX12_push_12 ?_
      refine lv_iload_n E.1.1 E.1.2.1 dX12_push_15 rfl (lv_at hl 2 rfl) ?_
      refine lv_iload_n E.1.1 E.1.2.1 dX12_push_16 rfl (lv_at hl 0 rfl) ?_
      refine at_pc (n := 17) rfl ?_
      refine lv_ishr E.1.1 E.1.2.1 dX12_push_17 (any_i (fun z_9 => ?_))
      refine lv_i2b E.1.1 E.1.2.1 dX12_push_18 rfl (any_i (fun z_10 => ?_))
      refine row_bast E B 1 rfl (vp_of h_7 (by omega) (by omega)) dX12_push_19 (fun H locs B => ?_)
      have B := Hp.eq (sm_ia_1 ct ad iv_6 ia_4 R (upd (ia_4 1) (iv_6 0).toNatClampNeg (vp_nar .byte z_10))) B
      generalize va_up ia_4 1 (upd (ia_4 1) (iv_6 0).toNatClampNeg (vp_nar .byte z_10)) = ia_11 at B 
      refine lv_aload_n E.1.1 E.1.2.1 dX12_push_20 rfl (lv_at hl 1 rfl) ?_
      refine lv_dup E.1.1 E.1.2.1 dX12_push_21 rfl ?_
      refine row_get (v := .int (iv_6 0)) E B iX12 rfl 1 (by decide) mw_1477 0 rfl rfl dX12_push_22 ?_
      refine at_pc (n := 25) rfl ?_
      refine lv_iconst (v := 1) E.1.1 E.1.2.1 dX12_push_25 (by decide) ?_
      refine i_add E h_7 tI_1 (by omega) (by omega) dX12_push_26 (fun z_12 ez_12 => ?_)
      have ez_12 : z_12.toInt = t + 2 := by omega
      refine row_put E B iX12 rfl tyX12 tyX12_ok nmX12 1 (by decide) mw_1477 rfl 0 rfl rfl rfl (Nat.le_of_ble_eq_true rfl) dX12_push_27 (fun H locs B => ?_)
      have B := Hp.eq (sm_iv_0 ct ad iv_6 ia_11 R z_12) B
      have h_14 : ((va_up iv_6 0 z_12) 0).toInt = t + 2 := ez_12
      generalize va_up iv_6 0 z_12 = iv_13 at B h_14
      refine lv_iinc (v := 8) (lv' := [(2, .int (8 : Int32)), (0, .ref (ad 0)), (1, .int p0)]) E.1.1 E.1.2.1 dX12_push_30 hl (k := 0) rfl (by decide) (by decide) rfl (fun ls hl => ?_)
      refine lv_goto (tgt := 3) E.1.1 E.1.2.1 dX12_push_33 (by decide) ?_
      refine lv_iload_n E.1.1 E.1.2.1 dX12_push_3 rfl (lv_at hl 0 rfl) ?_
      refine b_lt (tgt := 36) E tI_8 dX12_push_4 (by decide) (fun c_15 => ?_) (fun c_15 => ?_)
      · exfalso; omega
      · skip
        refine lv_aload_n E.1.1 E.1.2.1 dX12_push_7 rfl (lv_at hl 1 rfl) ?_
        refine row_get (v := .ref (ad 1)) E B iX12 rfl 0 (by decide) mw_1476 0 rfl rfl dX12_push_8 ?_
        refine lv_aload_n E.1.1 E.1.2.1 dX12_push_11 rfl (lv_at hl 1 rfl) ?_
        refine row_get (v := .int (iv_13 0)) E B iX12 rfl 1 (by decide) mw_1477 0 rfl rfl dX12_push_12 ?_
        refine lv_iload_n E.1.1 E.1.2.1 dX12_push_15 rfl (lv_at hl 2 rfl) ?_
        refine lv_iload_n E.1.1 E.1.2.1 dX12_push_16 rfl (lv_at hl 0 rfl) ?_
        refine at_pc (n := 17) rfl ?_
        refine lv_ishr E.1.1 E.1.2.1 dX12_push_17 (any_i (fun z_16 => ?_))
        refine lv_i2b E.1.1 E.1.2.1 dX12_push_18 rfl (any_i (fun z_17 => ?_))
        refine row_bast E B 1 rfl (vp_of h_14 (by omega) (by omega)) dX12_push_19 (fun H locs B => ?_)
        have B := Hp.eq (sm_ia_1 ct ad iv_13 ia_11 R (upd (ia_11 1) (iv_13 0).toNatClampNeg (vp_nar .byte z_17))) B
        generalize va_up ia_11 1 (upd (ia_11 1) (iv_13 0).toNatClampNeg (vp_nar .byte z_17)) = ia_18 at B 
        refine lv_aload_n E.1.1 E.1.2.1 dX12_push_20 rfl (lv_at hl 1 rfl) ?_
        refine lv_dup E.1.1 E.1.2.1 dX12_push_21 rfl ?_
        refine row_get (v := .int (iv_13 0)) E B iX12 rfl 1 (by decide) mw_1477 0 rfl rfl dX12_push_22 ?_
        refine at_pc (n := 25) rfl ?_
        refine lv_iconst (v := 1) E.1.1 E.1.2.1 dX12_push_25 (by decide) ?_
        refine i_add E h_14 tI_1 (by omega) (by omega) dX12_push_26 (fun z_19 ez_19 => ?_)
        have ez_19 : z_19.toInt = t + 3 := by omega
        refine row_put E B iX12 rfl tyX12 tyX12_ok nmX12 1 (by decide) mw_1477 rfl 0 rfl rfl rfl (Nat.le_of_ble_eq_true rfl) dX12_push_27 (fun H locs B => ?_)
        have B := Hp.eq (sm_iv_0 ct ad iv_13 ia_18 R z_19) B
        have h_21 : ((va_up iv_13 0 z_19) 0).toInt = t + 3 := ez_19
        generalize va_up iv_13 0 z_19 = iv_20 at B h_21
        refine lv_iinc (v := 0) (lv' := [(2, .int (0 : Int32)), (0, .ref (ad 0)), (1, .int p0)]) E.1.1 E.1.2.1 dX12_push_30 hl (k := 0) rfl (by decide) (by decide) rfl (fun ls hl => ?_)
        refine lv_goto (tgt := 3) E.1.1 E.1.2.1 dX12_push_33 (by decide) ?_
        refine lv_iload_n E.1.1 E.1.2.1 dX12_push_3 rfl (lv_at hl 0 rfl) ?_
        refine b_lt (tgt := 36) E tI_0 dX12_push_4 (by decide) (fun c_22 => ?_) (fun c_22 => ?_)
        · exfalso; omega
        · skip
          refine lv_aload_n E.1.1 E.1.2.1 dX12_push_7 rfl (lv_at hl 1 rfl) ?_
          refine row_get (v := .ref (ad 1)) E B iX12 rfl 0 (by decide) mw_1476 0 rfl rfl dX12_push_8 ?_
          refine lv_aload_n E.1.1 E.1.2.1 dX12_push_11 rfl (lv_at hl 1 rfl) ?_
          refine row_get (v := .int (iv_20 0)) E B iX12 rfl 1 (by decide) mw_1477 0 rfl rfl dX12_push_12 ?_
          refine lv_iload_n E.1.1 E.1.2.1 dX12_push_15 rfl (lv_at hl 2 rfl) ?_
          refine lv_iload_n E.1.1 E.1.2.1 dX12_push_16 rfl (lv_at hl 0 rfl) ?_
          refine at_pc (n := 17) rfl ?_
          refine lv_ishr E.1.1 E.1.2.1 dX12_push_17 (any_i (fun z_23 => ?_))
          refine lv_i2b E.1.1 E.1.2.1 dX12_push_18 rfl (any_i (fun z_24 => ?_))
          refine row_bast E B 1 rfl (vp_of h_21 (by omega) (by omega)) dX12_push_19 (fun H locs B => ?_)
          have B := Hp.eq (sm_ia_1 ct ad iv_20 ia_18 R (upd (ia_18 1) (iv_20 0).toNatClampNeg (vp_nar .byte z_24))) B
          generalize va_up ia_18 1 (upd (ia_18 1) (iv_20 0).toNatClampNeg (vp_nar .byte z_24)) = ia_25 at B 
          refine lv_aload_n E.1.1 E.1.2.1 dX12_push_20 rfl (lv_at hl 1 rfl) ?_
          refine lv_dup E.1.1 E.1.2.1 dX12_push_21 rfl ?_
          refine row_get (v := .int (iv_20 0)) E B iX12 rfl 1 (by decide) mw_1477 0 rfl rfl dX12_push_22 ?_
          refine at_pc (n := 25) rfl ?_
          refine lv_iconst (v := 1) E.1.1 E.1.2.1 dX12_push_25 (by decide) ?_
          refine i_add E h_21 tI_1 (by omega) (by omega) dX12_push_26 (fun z_26 ez_26 => ?_)
          have ez_26 : z_26.toInt = t + 4 := by omega
          refine row_put E B iX12 rfl tyX12 tyX12_ok nmX12 1 (by decide) mw_1477 rfl 0 rfl rfl rfl (Nat.le_of_ble_eq_true rfl) dX12_push_27 (fun H locs B => ?_)
          have B := Hp.eq (sm_iv_0 ct ad iv_20 ia_25 R z_26) B
          have h_28 : ((va_up iv_20 0 z_26) 0).toInt = t + 4 := ez_26
          generalize va_up iv_20 0 z_26 = iv_27 at B h_28
          refine lv_iinc (v := -8) (lv' := [(2, .int (-8 : Int32)), (0, .ref (ad 0)), (1, .int p0)]) E.1.1 E.1.2.1 dX12_push_30 hl (k := 0) rfl (by decide) (by decide) rfl (fun ls hl => ?_)
          refine lv_goto (tgt := 3) E.1.1 E.1.2.1 dX12_push_33 (by decide) ?_
          refine lv_iload_n E.1.1 E.1.2.1 dX12_push_3 rfl (lv_at hl 0 rfl) ?_
          refine b_lt (tgt := 36) E tI_m8 dX12_push_4 (by decide) (fun c_29 => ?_) (fun c_29 => ?_)
          · skip
            exact ret_V (u := (iv_27, ia_25)) E hr hlk B (by have := h_28; omega) dX12_push_36
          · exfalso; omega
set_option maxHeartbeats 4000000 in
set_option maxRecDepth 100000 in
theorem m_12_isChoice (l : Launch) (D : va_G) (ct : Nat → ClassId) (tN : Nat) (ad : Nat → Nat) (iv : Nat → Int32) (ia : Nat → Nat → Int32) (R : va_W) (p0 : Int32) (h26 : (iv 26).toInt = 0) : MI l D (TY ct) tN yX12_isChoice cX12_isChoice 3 (some .boolean) ({ frames := 1, cells := 0, slots := 0, locals := 22 } : Room) [.ref (ad 0), .int p0] (MW ct ad iv ia R) (fun (v : Int32) (u : Unit) => (p0.toInt = 0 ∧ v.toInt = 1) ∨ (¬ p0.toInt = 0 ∧ v.toInt = 0)) (fun _ => MW ct ad iv ia R) 0 0 := by
  intro sz
  refine Met.ofE (Qc := fun A => va_Qi (fun (v : Int32) (u : Unit) => (p0.toInt = 0 ∧ v.toInt = 1) ∨ (¬ p0.toInt = 0 ∧ v.toInt = 0)) (BW D A (fun _ => MW ct ad iv ia R)) A) (by decide) (Nat.le_of_ble_eq_true rfl) ?_
  intro p e s m args below meth c A ls hsz E hr hlk hnm B hl
  have hl : lv_has ls 3 [(0, .ref (ad 0)), (1, .int p0)] := hl
  refine lv_iload_n E.1.1 E.1.2.1 dX12_isChoice_0 rfl (lv_at hl 1 rfl) ?_
  refine lv_iconst (v := 0) E.1.1 E.1.2.1 dX12_isChoice_1 (by decide) ?_
  refine lv_iconst (v := 1) E.1.1 E.1.2.1 dX12_isChoice_2 (by decide) ?_
  refine lv_iconst (v := 2) E.1.1 E.1.2.1 dX12_isChoice_3 (by decide) ?_
  refine lv_aload_n E.1.1 E.1.2.1 dX12_isChoice_4 rfl (lv_at hl 0 rfl) ?_
  refine row_get (v := .int (iv 26)) E B iX12 rfl 80 (by decide) mw_1556 0 rfl rfl dX12_isChoice_5 ?_
  refine at_pc (n := 8) rfl ?_
  refine i_mul (z0 := 0) E tI_2 h26 (by omega) (by omega) (by omega) dX12_isChoice_8 (fun z_1 ez_1 => ?_)
  have ez_1 : z_1.toInt = 0 := by omega
  refine i_shl (r := 1) E tI_1 ez_1 (by decide) dX12_isChoice_9 ?_
  refine lv_iconst (v := 1) E.1.1 E.1.2.1 dX12_isChoice_10 (by decide) ?_
  refine i_sub E tI_1 tI_1 (by omega) (by omega) dX12_isChoice_11 (fun z_2 ez_2 => ?_)
  have ez_2 : z_2.toInt = 0 := by omega
  refine call_SI (kn := 3) E B (m_12_lies l D ct tN ad iv ia R  p0 ((0 : Int32)) z_2 ) (good_S mw_1769 mw_1770 mw_12 mw_1771) (by decide +kernel) rfl rfl rfl ⟨by decide, by decide⟩ rfl hl (Nat.le_of_ble_eq_true rfl) dX12_isChoice_12 ⟨Nat.le_of_ble_eq_true rfl, Nat.le_of_ble_eq_true rfl⟩ (fun v_3 u_4 H locs w_5 B => ?_)
  have w_5 : (0 ≤ p0.toInt ∧ p0.toInt ≤ 0 ∧ v_3.toInt = 1) ∨ ((p0.toInt < 0 ∨ 0 < p0.toInt) ∧ v_3.toInt = 0) := by have h0 := w_5; have a1 := tI_0; have a2 := ez_2; omega
  have B : Hp D A s.heap (MW ct ad iv ia R) H locs := B
  refine at_n (n := 15) (k1 := 0) (k2 := 0) rfl rfl rfl ?_
  refine b_ne (tgt := 20) E rfl dX12_isChoice_15 (by decide) (fun c_6 => ?_) (fun c_6 => ?_)
  · skip
    refine lv_iconst (v := 0) E.1.1 E.1.2.1 dX12_isChoice_20 (by decide) ?_
    refine lv_istore_n (lv' := [(2, .int (0 : Int32)), (0, .ref (ad 0)), (1, .int p0)]) E.1.1 E.1.2.1 dX12_isChoice_21 rfl hl (by decide) rfl (fun ls hl => ?_)
    refine lv_iload_n E.1.1 E.1.2.1 dX12_isChoice_22 rfl (lv_at hl 0 rfl) ?_
    refine lv_aload_n E.1.1 E.1.2.1 dX12_isChoice_23 rfl (lv_at hl 1 rfl) ?_
    refine row_get (v := .int (iv 26)) E B iX12 rfl 80 (by decide) mw_1556 0 rfl rfl dX12_isChoice_24 ?_
    refine c_ge (tgt := 53) E tI_0 h26 dX12_isChoice_27 (by decide) (fun c_7 => ?_) (fun c_7 => ?_)
    · skip
      refine lv_iconst (v := 1) E.1.1 E.1.2.1 dX12_isChoice_53 (by decide) ?_
      have r_8 : (1 : Int32).toInt = 1 := tI_1
      exact ret_I (u := ()) E hr hlk (narrow_z (by omega)) B (by omega) dX12_isChoice_54
    · exfalso; omega
  · skip
    refine lv_iconst (v := 0) E.1.1 E.1.2.1 dX12_isChoice_18 (by decide) ?_
    have r_9 : (0 : Int32).toInt = 0 := tI_0
    exact ret_I (u := ()) E hr hlk (narrow_z (by omega)) B (by omega) dX12_isChoice_19
set_option maxHeartbeats 4000000 in
set_option maxRecDepth 100000 in
theorem m_12_mayBe (l : Launch) (D : va_G) (ct : Nat → ClassId) (tN : Nat) (ad : Nat → Nat) (iv : Nat → Int32) (ia : Nat → Nat → Int32) (R : va_W) (p0 : Int32) (h26 : (iv 26).toInt = 0) : MI l D (TY ct) tN yX12_mayBe cX12_mayBe 5 (some .boolean) ({ frames := 0, cells := 0, slots := 0, locals := 0 } : Room) [.ref (ad 0), .int p0] (MW ct ad iv ia R) (fun (v : Int32) (u : Unit) => v.toInt = 1) (fun _ => MW ct ad iv ia R) 0 0 := by
  intro sz
  refine Met.ofE (Qc := fun A => va_Qi (fun (v : Int32) (u : Unit) => v.toInt = 1) (BW D A (fun _ => MW ct ad iv ia R)) A) (by decide) (Nat.le_of_ble_eq_true rfl) ?_
  intro p e s m args below meth c A ls hsz E hr hlk hnm B hl
  have hl : lv_has ls 5 [(0, .ref (ad 0)), (1, .int p0)] := hl
  refine lv_iconst (v := 0) E.1.1 E.1.2.1 dX12_mayBe_0 (by decide) ?_
  refine lv_istore_n (lv' := [(2, .int (0 : Int32)), (0, .ref (ad 0)), (1, .int p0)]) E.1.1 E.1.2.1 dX12_mayBe_1 rfl hl (by decide) rfl (fun ls hl => ?_)
  refine lv_iload_n E.1.1 E.1.2.1 dX12_mayBe_2 rfl (lv_at hl 0 rfl) ?_
  refine lv_aload_n E.1.1 E.1.2.1 dX12_mayBe_3 rfl (lv_at hl 1 rfl) ?_
  refine row_get (v := .int (iv 26)) E B iX12 rfl 80 (by decide) mw_1556 0 rfl rfl dX12_mayBe_4 ?_
  refine c_ge (tgt := 106) E tI_0 h26 dX12_mayBe_7 (by decide) (fun c_1 => ?_) (fun c_1 => ?_)
  · skip
    refine lv_iconst (v := 1) E.1.1 E.1.2.1 dX12_mayBe_106 (by decide) ?_
    have r_2 : (1 : Int32).toInt = 1 := tI_1
    exact ret_I (u := ()) E hr hlk (narrow_z (by omega)) B (by omega) dX12_mayBe_107
  · exfalso; omega
set_option maxHeartbeats 4000000 in
set_option maxRecDepth 100000 in
theorem m_12_costOf (l : Launch) (D : va_G) (ct : Nat → ClassId) (tN : Nat) (ad : Nat → Nat) (iv : Nat → Int32) (ia : Nat → Nat → Int32) (R : va_W) (p0 : Int32) (h26 : (iv 26).toInt = 0) : MI l D (TY ct) tN yX12_costOf cX12_costOf 4 (some .int) ({ frames := 0, cells := 0, slots := 0, locals := 0 } : Room) [.ref (ad 0), .int p0] (MW ct ad iv ia R) (fun (v : Int32) (u : Unit) => v.toInt = 0) (fun _ => MW ct ad iv ia R) 0 0 := by
  intro sz
  refine Met.ofE (Qc := fun A => va_Qi (fun (v : Int32) (u : Unit) => v.toInt = 0) (BW D A (fun _ => MW ct ad iv ia R)) A) (by decide) (Nat.le_of_ble_eq_true rfl) ?_
  intro p e s m args below meth c A ls hsz E hr hlk hnm B hl
  have hl : lv_has ls 4 [(0, .ref (ad 0)), (1, .int p0)] := hl
  refine lv_iconst (v := 0) E.1.1 E.1.2.1 dX12_costOf_0 (by decide) ?_
  refine lv_istore_n (lv' := [(2, .int (0 : Int32)), (0, .ref (ad 0)), (1, .int p0)]) E.1.1 E.1.2.1 dX12_costOf_1 rfl hl (by decide) rfl (fun ls hl => ?_)
  refine lv_iconst (v := 0) E.1.1 E.1.2.1 dX12_costOf_2 (by decide) ?_
  refine lv_istore_n (lv' := [(3, .int (0 : Int32)), (2, .int (0 : Int32)), (0, .ref (ad 0)), (1, .int p0)]) E.1.1 E.1.2.1 dX12_costOf_3 rfl hl (by decide) rfl (fun ls hl => ?_)
  refine lv_iload_n E.1.1 E.1.2.1 dX12_costOf_4 rfl (lv_at hl 0 rfl) ?_
  refine lv_aload_n E.1.1 E.1.2.1 dX12_costOf_5 rfl (lv_at hl 2 rfl) ?_
  refine at_pc (n := 6) rfl ?_
  refine row_get (v := .int (iv 26)) E B iX12 rfl 80 (by decide) mw_1556 0 rfl rfl dX12_costOf_6 ?_
  refine c_ge (tgt := 36) E tI_0 h26 dX12_costOf_9 (by decide) (fun c_1 => ?_) (fun c_1 => ?_)
  · skip
    refine lv_iload_n E.1.1 E.1.2.1 dX12_costOf_36 rfl (lv_at hl 1 rfl) ?_
    have r_2 : (0 : Int32).toInt = 0 := tI_0
    exact ret_I (u := ()) E hr hlk rfl B (by omega) dX12_costOf_37
  · exfalso; omega
set_option maxHeartbeats 4000000 in
set_option maxRecDepth 100000 in
theorem m_12_prices (l : Launch) (D : va_G) (ct : Nat → ClassId) (tN : Nat) (ad : Nat → Nat) (iv : Nat → Int32) (ia : Nat → Nat → Int32) (R : va_W)  (h2 : (iv 2).toInt = 0) : MV l D (TY ct) tN yX12_prices cX12_prices 6 ({ frames := 0, cells := 0, slots := 0, locals := 0 } : Room) [.ref (ad 0)] (MW ct ad iv ia R) (fun (u : Nat → Nat → Int32) => True) (fun u => MW ct ad iv u R) 0 0 := by
  intro sz
  refine Met.ofE (Qc := fun A => va_Qv (fun (u : Nat → Nat → Int32) => True) (BW D A (fun u => MW ct ad iv u R)) A) (by decide) (Nat.le_of_ble_eq_true rfl) ?_
  intro p e s m args below meth c A ls hsz E hr hlk hnm B hl
  have hl : lv_has ls 6 [(0, .ref (ad 0))] := hl
  refine lv_iconst (v := 0) E.1.1 E.1.2.1 dX12_prices_0 (by decide) ?_
  refine lv_istore_n (lv' := [(1, .int (0 : Int32)), (0, .ref (ad 0))]) E.1.1 E.1.2.1 dX12_prices_1 rfl hl (by decide) rfl (fun ls hl => ?_)
  have lp_1 : ∀ (n : Nat) (i_1 : Int32) (ia_1 : Nat → Nat → Int32) (H : Heap) (locs : List Loc) (ls : Array Slot), 0 ≤ i_1.toInt → i_1.toInt ≤ 24 → 25 ≤ i_1.toInt + 1 * (n : Int) → Hp D A s.heap (MW ct ad iv ia_1 R) H locs → lv_has ls 6 [(1, .int i_1), (0, .ref (ad 0))] → W p l e ({ frames := 0, cells := 0, slots := 0, locals := 0 } : Room) s m args below meth c H locs 0 0 (MQ below (va_Qv (fun (u : Nat → Nat → Int32) => True) (BW D A (fun u => MW ct ad iv u R)) A) args s 0 0 A) (F0 m 2 ls []) := by
    intro n
    induction n with
    | zero => intro i_1 ia_1 H locs ls lo1 lo2 lo3; exfalso; omega
    | succ n ih =>
      intro i_1 ia_1 H locs ls lo1 lo2 lo3  B hl
      refine lv_iload_n E.1.1 E.1.2.1 dX12_prices_2 rfl (lv_at hl 0 rfl) ?_
      refine lv_bipush (v := 24) E.1.1 E.1.2.1 dX12_prices_3 (by decide) ?_
      refine c_ge (tgt := 28) E rfl tI_24 dX12_prices_5 (by decide) (fun c_2 => ?_) (fun c_2 => ?_)
      · skip
        refine lv_iconst (v := 0) E.1.1 E.1.2.1 dX12_prices_28 (by decide) ?_
        refine lv_istore_n (lv' := [(1, .int (0 : Int32)), (0, .ref (ad 0))]) E.1.1 E.1.2.1 dX12_prices_29 rfl hl (by decide) rfl (fun ls hl => ?_)
        refine lv_iload_n E.1.1 E.1.2.1 dX12_prices_30 rfl (lv_at hl 0 rfl) ?_
        refine lv_aload_n E.1.1 E.1.2.1 dX12_prices_31 rfl (lv_at hl 1 rfl) ?_
        refine row_get (v := .int (iv 2)) E B iX12 rfl 3 (by decide) mw_1479 0 rfl rfl dX12_prices_32 ?_
        refine c_ge (tgt := 203) E tI_0 h2 dX12_prices_35 (by decide) (fun c_3 => ?_) (fun c_3 => ?_)
        · skip
          exact ret_V (u := ia_1) E hr hlk B trivial dX12_prices_203
        · exfalso; omega
      · skip
        refine lv_aload_n E.1.1 E.1.2.1 dX12_prices_8 rfl (lv_at hl 1 rfl) ?_
        refine row_get (v := .ref (ad 59)) E B iX12 rfl 85 (by decide) mw_1561 0 rfl rfl dX12_prices_9 ?_
        refine lv_iload_n E.1.1 E.1.2.1 dX12_prices_12 rfl (lv_at hl 0 rfl) ?_
        refine lv_iconst (v := 0) E.1.1 E.1.2.1 dX12_prices_13 (by decide) ?_
        refine row_iast E B 59 rfl (vp_of rfl (by omega) (by omega)) dX12_prices_14 (fun H locs B => ?_)
        have B := Hp.eq (sm_ia_59 ct ad iv ia_1 R (upd (ia_1 59) i_1.toNatClampNeg (0 : Int32))) B
        generalize va_up ia_1 59 (upd (ia_1 59) i_1.toNatClampNeg (0 : Int32)) = ia_4 at B 
        refine lv_aload_n E.1.1 E.1.2.1 dX12_prices_15 rfl (lv_at hl 1 rfl) ?_
        refine at_pc (n := 16) rfl ?_
        refine row_get (v := .ref (ad 60)) E B iX12 rfl 86 (by decide) mw_1562 0 rfl rfl dX12_prices_16 ?_
        refine lv_iload_n E.1.1 E.1.2.1 dX12_prices_19 rfl (lv_at hl 0 rfl) ?_
        refine lv_iconst (v := 0) E.1.1 E.1.2.1 dX12_prices_20 (by decide) ?_
        refine row_zast E B 60 rfl (vp_of rfl (by omega) (by omega)) dX12_prices_21 (fun H locs B => ?_)
        have B := Hp.eq (sm_ia_60 ct ad iv ia_4 R (upd (ia_4 60) i_1.toNatClampNeg (vp_nar .boolean (0 : Int32)))) B
        generalize va_up ia_4 60 (upd (ia_4 60) i_1.toNatClampNeg (vp_nar .boolean (0 : Int32))) = ia_5 at B 
        refine i_inc (k := 0) E rfl (by decide) (by omega) (by omega) dX12_prices_22 hl rfl (by decide) (fun z_6 ls ez_6 hl => ?_)
        have hl : lv_has ls 6 [(1, .int z_6), (0, .ref (ad 0))] := hl
        have ez_6 : z_6.toInt = i_1.toInt + 1 := ez_6
        refine lv_goto (tgt := 2) E.1.1 E.1.2.1 dX12_prices_25 (by decide) ?_
        exact ih _ _ _ _ _ (by omega) (by omega) (by omega)  B (lv_sub hl [0, 1] rfl)
  exact lp_1 25 _ _ _ _ _ (by have := tI_0; omega) (by have := tI_0; omega) (by have := tI_0; omega)  B hl
set_option maxHeartbeats 4000000 in
set_option maxRecDepth 100000 in
theorem m_12_unlikes (l : Launch) (D : va_G) (ct : Nat → ClassId) (tN : Nat) (ad : Nat → Nat) (iv : Nat → Int32) (ia : Nat → Nat → Int32) (R : va_W) (p0 : Int32) (h2 : (iv 2).toInt = 0) : MI l D (TY ct) tN yX12_unlikes cX12_unlikes 9 (some .int) ({ frames := 0, cells := 0, slots := 0, locals := 0 } : Room) [.ref (ad 0), .int p0] (MW ct ad iv ia R) (fun (v : Int32) (u : Unit) => v.toInt = 0) (fun _ => MW ct ad iv ia R) 0 0 := by
  intro sz
  refine Met.ofE (Qc := fun A => va_Qi (fun (v : Int32) (u : Unit) => v.toInt = 0) (BW D A (fun _ => MW ct ad iv ia R)) A) (by decide) (Nat.le_of_ble_eq_true rfl) ?_
  intro p e s m args below meth c A ls hsz E hr hlk hnm B hl
  have hl : lv_has ls 9 [(0, .ref (ad 0)), (1, .int p0)] := hl
  refine lv_iconst (v := 0) E.1.1 E.1.2.1 dX12_unlikes_0 (by decide) ?_
  refine lv_istore_n (lv' := [(2, .int (0 : Int32)), (0, .ref (ad 0)), (1, .int p0)]) E.1.1 E.1.2.1 dX12_unlikes_1 rfl hl (by decide) rfl (fun ls hl => ?_)
  refine lv_iconst (v := 0) E.1.1 E.1.2.1 dX12_unlikes_2 (by decide) ?_
  refine lv_istore_n (lv' := [(3, .int (0 : Int32)), (2, .int (0 : Int32)), (0, .ref (ad 0)), (1, .int p0)]) E.1.1 E.1.2.1 dX12_unlikes_3 rfl hl (by decide) rfl (fun ls hl => ?_)
  refine lv_iload_n E.1.1 E.1.2.1 dX12_unlikes_4 rfl (lv_at hl 0 rfl) ?_
  refine lv_aload_n E.1.1 E.1.2.1 dX12_unlikes_5 rfl (lv_at hl 2 rfl) ?_
  refine at_pc (n := 6) rfl ?_
  refine row_get (v := .int (iv 2)) E B iX12 rfl 3 (by decide) mw_1479 0 rfl rfl dX12_unlikes_6 ?_
  refine c_ge (tgt := 209) E tI_0 h2 dX12_unlikes_9 (by decide) (fun c_1 => ?_) (fun c_1 => ?_)
  · skip
    refine lv_iload_n E.1.1 E.1.2.1 dX12_unlikes_209 rfl (lv_at hl 1 rfl) ?_
    have r_2 : (0 : Int32).toInt = 0 := tI_0
    exact ret_I (u := ()) E hr hlk rfl B (by omega) dX12_unlikes_210
  · exfalso; omega
set_option maxHeartbeats 4000000 in
set_option maxRecDepth 100000 in
theorem m_12_lists (l : Launch) (D : va_G) (ct : Nat → ClassId) (tN : Nat) (ad : Nat → Nat) (iv : Nat → Int32) (ia : Nat → Nat → Int32) (R : va_W)  (h2 : (iv 2).toInt = 0) : MV l D (TY ct) tN yX12_lists cX12_lists 4 ({ frames := 0, cells := 0, slots := 0, locals := 0 } : Room) [.ref (ad 0)] (MW ct ad iv ia R) (fun (u : Nat → Int32) => (u 28).toInt = 0) (fun u => MW ct ad u ia R) 0 0 := by
  intro sz
  refine Met.ofE (Qc := fun A => va_Qv (fun (u : Nat → Int32) => (u 28).toInt = 0) (BW D A (fun u => MW ct ad u ia R)) A) (by decide) (Nat.le_of_ble_eq_true rfl) ?_
  intro p e s m args below meth c A ls hsz E hr hlk hnm B hl
  have hl : lv_has ls 4 [(0, .ref (ad 0))] := hl
  refine lv_aload_n E.1.1 E.1.2.1 dX12_lists_0 rfl (lv_at hl 0 rfl) ?_
  refine lv_iconst (v := 0) E.1.1 E.1.2.1 dX12_lists_1 (by decide) ?_
  refine row_put E B iX12 rfl tyX12 tyX12_ok nmX12 91 (by decide) mw_1567 rfl 0 rfl rfl rfl (Nat.le_of_ble_eq_true rfl) dX12_lists_2 (fun H locs B => ?_)
  have B := Hp.eq (sm_iv_28 ct ad iv ia R ((0 : Int32))) B
  have h_2 : ((va_up iv 28 (0 : Int32)) 2).toInt = 0 := h2
  have h_3 : ((va_up iv 28 (0 : Int32)) 28).toInt = 0 := tI_0
  generalize va_up iv 28 (0 : Int32) = iv_1 at B h_2 h_3
  refine lv_aload_n E.1.1 E.1.2.1 dX12_lists_5 rfl (lv_at hl 0 rfl) ?_
  refine lv_iconst (v := 0) E.1.1 E.1.2.1 dX12_lists_6 (by decide) ?_
  refine row_put E B iX12 rfl tyX12 tyX12_ok nmX12 92 (by decide) mw_1568 rfl 0 rfl rfl rfl (Nat.le_of_ble_eq_true rfl) dX12_lists_7 (fun H locs B => ?_)
  have B := Hp.eq (sm_iv_29 ct ad iv_1 ia R ((0 : Int32))) B
  have h_5 : ((va_up iv_1 29 (0 : Int32)) 2).toInt = 0 := h_2
  have h_6 : ((va_up iv_1 29 (0 : Int32)) 28).toInt = 0 := h_3
  have h_7 : ((va_up iv_1 29 (0 : Int32)) 29).toInt = 0 := tI_0
  generalize va_up iv_1 29 (0 : Int32) = iv_4 at B h_5 h_6 h_7
  refine at_pc (n := 10) rfl ?_
  refine lv_iconst (v := 0) E.1.1 E.1.2.1 dX12_lists_10 (by decide) ?_
  refine lv_istore_n (lv' := [(1, .int (0 : Int32)), (0, .ref (ad 0))]) E.1.1 E.1.2.1 dX12_lists_11 rfl hl (by decide) rfl (fun ls hl => ?_)
  refine lv_iload_n E.1.1 E.1.2.1 dX12_lists_12 rfl (lv_at hl 0 rfl) ?_
  refine lv_bipush (v := 8) E.1.1 E.1.2.1 dX12_lists_13 (by decide) ?_
  refine c_ge (tgt := 125) E tI_0 tI_8 dX12_lists_15 (by decide) (fun c_8 => ?_) (fun c_8 => ?_)
  · exfalso; omega
  · skip
    refine lv_aload_n E.1.1 E.1.2.1 dX12_lists_18 rfl (lv_at hl 1 rfl) ?_
    refine row_get (v := .int (iv_4 28)) E B iX12 rfl 91 (by decide) mw_1567 0 rfl rfl dX12_lists_19 ?_
    refine lv_bipush (v := 6) E.1.1 E.1.2.1 dX12_lists_22 (by decide) ?_
    refine c_ge (tgt := 125) E h_6 tI_6 dX12_lists_24 (by decide) (fun c_9 => ?_) (fun c_9 => ?_)
    · exfalso; omega
    · skip
      refine lv_iconst (v := 0) E.1.1 E.1.2.1 dX12_lists_27 (by decide) ?_
      refine lv_istore_n (lv' := [(2, .int (0 : Int32)), (1, .int (0 : Int32)), (0, .ref (ad 0))]) E.1.1 E.1.2.1 dX12_lists_28 rfl hl (by decide) rfl (fun ls hl => ?_)
      refine lv_iconst (v := 0) E.1.1 E.1.2.1 dX12_lists_29 (by decide) ?_
      refine lv_istore_n (lv' := [(3, .int (0 : Int32)), (2, .int (0 : Int32)), (1, .int (0 : Int32)), (0, .ref (ad 0))]) E.1.1 E.1.2.1 dX12_lists_30 rfl hl (by decide) rfl (fun ls hl => ?_)
      refine lv_iload_n E.1.1 E.1.2.1 dX12_lists_31 rfl (lv_at hl 0 rfl) ?_
      refine lv_aload_n E.1.1 E.1.2.1 dX12_lists_32 rfl (lv_at hl 3 rfl) ?_
      refine at_pc (n := 33) rfl ?_
      refine row_get (v := .int (iv_4 2)) E B iX12 rfl 3 (by decide) mw_1479 0 rfl rfl dX12_lists_33 ?_
      refine c_ge (tgt := 72) E tI_0 h_5 dX12_lists_36 (by decide) (fun c_10 => ?_) (fun c_10 => ?_)
      · skip
        refine lv_iload_n E.1.1 E.1.2.1 dX12_lists_72 rfl (lv_at hl 1 rfl) ?_
        refine b_ne (tgt := 79) E tI_0 dX12_lists_73 (by decide) (fun c_11 => ?_) (fun c_11 => ?_)
        · exfalso; omega
        · skip
          refine lv_goto (tgt := 119) E.1.1 E.1.2.1 dX12_lists_76 (by decide) ?_
          refine lv_iinc (v := 1) (lv' := [(1, .int (1 : Int32)), (3, .int (0 : Int32)), (2, .int (0 : Int32)), (0, .ref (ad 0))]) E.1.1 E.1.2.1 dX12_lists_119 hl (k := 2) rfl (by decide) (by decide) rfl (fun ls hl => ?_)
          refine lv_goto (tgt := 12) E.1.1 E.1.2.1 dX12_lists_122 (by decide) ?_
          refine lv_iload_n E.1.1 E.1.2.1 dX12_lists_12 rfl (lv_at hl 0 rfl) ?_
          refine lv_bipush (v := 8) E.1.1 E.1.2.1 dX12_lists_13 (by decide) ?_
          refine c_ge (tgt := 125) E tI_1 tI_8 dX12_lists_15 (by decide) (fun c_12 => ?_) (fun c_12 => ?_)
          · exfalso; omega
          · skip
            refine lv_aload_n E.1.1 E.1.2.1 dX12_lists_18 rfl (lv_at hl 3 rfl) ?_
            refine row_get (v := .int (iv_4 28)) E B iX12 rfl 91 (by decide) mw_1567 0 rfl rfl dX12_lists_19 ?_
            refine lv_bipush (v := 6) E.1.1 E.1.2.1 dX12_lists_22 (by decide) ?_
            refine c_ge (tgt := 125) E h_6 tI_6 dX12_lists_24 (by decide) (fun c_13 => ?_) (fun c_13 => ?_)
            · exfalso; omega
            · skip
              refine lv_iconst (v := 0) E.1.1 E.1.2.1 dX12_lists_27 (by decide) ?_
              refine lv_istore_n (lv' := [(2, .int (0 : Int32)), (1, .int (1 : Int32)), (3, .int (0 : Int32)), (0, .ref (ad 0))]) E.1.1 E.1.2.1 dX12_lists_28 rfl hl (by decide) rfl (fun ls hl => ?_)
              refine lv_iconst (v := 0) E.1.1 E.1.2.1 dX12_lists_29 (by decide) ?_
              refine lv_istore_n (lv' := [(3, .int (0 : Int32)), (2, .int (0 : Int32)), (1, .int (1 : Int32)), (0, .ref (ad 0))]) E.1.1 E.1.2.1 dX12_lists_30 rfl hl (by decide) rfl (fun ls hl => ?_)
              refine lv_iload_n E.1.1 E.1.2.1 dX12_lists_31 rfl (lv_at hl 0 rfl) ?_
              refine lv_aload_n E.1.1 E.1.2.1 dX12_lists_32 rfl (lv_at hl 3 rfl) ?_
              refine at_pc (n := 33) rfl ?_
              refine row_get (v := .int (iv_4 2)) E B iX12 rfl 3 (by decide) mw_1479 0 rfl rfl dX12_lists_33 ?_
              refine c_ge (tgt := 72) E tI_0 h_5 dX12_lists_36 (by decide) (fun c_14 => ?_) (fun c_14 => ?_)
              · skip
                refine lv_iload_n E.1.1 E.1.2.1 dX12_lists_72 rfl (lv_at hl 1 rfl) ?_
                refine b_ne (tgt := 79) E tI_0 dX12_lists_73 (by decide) (fun c_15 => ?_) (fun c_15 => ?_)
                · exfalso; omega
                · skip
                  refine lv_goto (tgt := 119) E.1.1 E.1.2.1 dX12_lists_76 (by decide) ?_
                  refine lv_iinc (v := 2) (lv' := [(1, .int (2 : Int32)), (3, .int (0 : Int32)), (2, .int (0 : Int32)), (0, .ref (ad 0))]) E.1.1 E.1.2.1 dX12_lists_119 hl (k := 2) rfl (by decide) (by decide) rfl (fun ls hl => ?_)
                  refine lv_goto (tgt := 12) E.1.1 E.1.2.1 dX12_lists_122 (by decide) ?_
                  refine lv_iload_n E.1.1 E.1.2.1 dX12_lists_12 rfl (lv_at hl 0 rfl) ?_
                  refine lv_bipush (v := 8) E.1.1 E.1.2.1 dX12_lists_13 (by decide) ?_
                  refine c_ge (tgt := 125) E tI_2 tI_8 dX12_lists_15 (by decide) (fun c_16 => ?_) (fun c_16 => ?_)
                  · exfalso; omega
                  · skip
                    refine lv_aload_n E.1.1 E.1.2.1 dX12_lists_18 rfl (lv_at hl 3 rfl) ?_
                    refine row_get (v := .int (iv_4 28)) E B iX12 rfl 91 (by decide) mw_1567 0 rfl rfl dX12_lists_19 ?_
                    refine lv_bipush (v := 6) E.1.1 E.1.2.1 dX12_lists_22 (by decide) ?_
                    refine c_ge (tgt := 125) E h_6 tI_6 dX12_lists_24 (by decide) (fun c_17 => ?_) (fun c_17 => ?_)
                    · exfalso; omega
                    · skip
                      refine lv_iconst (v := 0) E.1.1 E.1.2.1 dX12_lists_27 (by decide) ?_
                      refine lv_istore_n (lv' := [(2, .int (0 : Int32)), (1, .int (2 : Int32)), (3, .int (0 : Int32)), (0, .ref (ad 0))]) E.1.1 E.1.2.1 dX12_lists_28 rfl hl (by decide) rfl (fun ls hl => ?_)
                      refine lv_iconst (v := 0) E.1.1 E.1.2.1 dX12_lists_29 (by decide) ?_
                      refine lv_istore_n (lv' := [(3, .int (0 : Int32)), (2, .int (0 : Int32)), (1, .int (2 : Int32)), (0, .ref (ad 0))]) E.1.1 E.1.2.1 dX12_lists_30 rfl hl (by decide) rfl (fun ls hl => ?_)
                      refine lv_iload_n E.1.1 E.1.2.1 dX12_lists_31 rfl (lv_at hl 0 rfl) ?_
                      refine lv_aload_n E.1.1 E.1.2.1 dX12_lists_32 rfl (lv_at hl 3 rfl) ?_
                      refine at_pc (n := 33) rfl ?_
                      refine row_get (v := .int (iv_4 2)) E B iX12 rfl 3 (by decide) mw_1479 0 rfl rfl dX12_lists_33 ?_
                      refine c_ge (tgt := 72) E tI_0 h_5 dX12_lists_36 (by decide) (fun c_18 => ?_) (fun c_18 => ?_)
                      · skip
                        refine lv_iload_n E.1.1 E.1.2.1 dX12_lists_72 rfl (lv_at hl 1 rfl) ?_
                        refine b_ne (tgt := 79) E tI_0 dX12_lists_73 (by decide) (fun c_19 => ?_) (fun c_19 => ?_)
                        · exfalso; omega
                        · skip
                          refine lv_goto (tgt := 119) E.1.1 E.1.2.1 dX12_lists_76 (by decide) ?_
                          refine lv_iinc (v := 3) (lv' := [(1, .int (3 : Int32)), (3, .int (0 : Int32)), (2, .int (0 : Int32)), (0, .ref (ad 0))]) E.1.1 E.1.2.1 dX12_lists_119 hl (k := 2) rfl (by decide) (by decide) rfl (fun ls hl => ?_)
                          refine lv_goto (tgt := 12) E.1.1 E.1.2.1 dX12_lists_122 (by decide) ?_
                          refine lv_iload_n E.1.1 E.1.2.1 dX12_lists_12 rfl (lv_at hl 0 rfl) ?_
                          refine lv_bipush (v := 8) E.1.1 E.1.2.1 dX12_lists_13 (by decide) ?_
                          refine c_ge (tgt := 125) E tI_3 tI_8 dX12_lists_15 (by decide) (fun c_20 => ?_) (fun c_20 => ?_)
                          · exfalso; omega
                          · skip
                            refine lv_aload_n E.1.1 E.1.2.1 dX12_lists_18 rfl (lv_at hl 3 rfl) ?_
                            refine row_get (v := .int (iv_4 28)) E B iX12 rfl 91 (by decide) mw_1567 0 rfl rfl dX12_lists_19 ?_
                            refine lv_bipush (v := 6) E.1.1 E.1.2.1 dX12_lists_22 (by decide) ?_
                            refine c_ge (tgt := 125) E h_6 tI_6 dX12_lists_24 (by decide) (fun c_21 => ?_) (fun c_21 => ?_)
                            · exfalso; omega
                            · skip
                              refine lv_iconst (v := 0) E.1.1 E.1.2.1 dX12_lists_27 (by decide) ?_
                              refine lv_istore_n (lv' := [(2, .int (0 : Int32)), (1, .int (3 : Int32)), (3, .int (0 : Int32)), (0, .ref (ad 0))]) E.1.1 E.1.2.1 dX12_lists_28 rfl hl (by decide) rfl (fun ls hl => ?_)
                              refine lv_iconst (v := 0) E.1.1 E.1.2.1 dX12_lists_29 (by decide) ?_
                              refine lv_istore_n (lv' := [(3, .int (0 : Int32)), (2, .int (0 : Int32)), (1, .int (3 : Int32)), (0, .ref (ad 0))]) E.1.1 E.1.2.1 dX12_lists_30 rfl hl (by decide) rfl (fun ls hl => ?_)
                              refine lv_iload_n E.1.1 E.1.2.1 dX12_lists_31 rfl (lv_at hl 0 rfl) ?_
                              refine lv_aload_n E.1.1 E.1.2.1 dX12_lists_32 rfl (lv_at hl 3 rfl) ?_
                              refine at_pc (n := 33) rfl ?_
                              refine row_get (v := .int (iv_4 2)) E B iX12 rfl 3 (by decide) mw_1479 0 rfl rfl dX12_lists_33 ?_
                              refine c_ge (tgt := 72) E tI_0 h_5 dX12_lists_36 (by decide) (fun c_22 => ?_) (fun c_22 => ?_)
                              · skip
                                refine lv_iload_n E.1.1 E.1.2.1 dX12_lists_72 rfl (lv_at hl 1 rfl) ?_
                                refine b_ne (tgt := 79) E tI_0 dX12_lists_73 (by decide) (fun c_23 => ?_) (fun c_23 => ?_)
                                · exfalso; omega
                                · skip
                                  refine lv_goto (tgt := 119) E.1.1 E.1.2.1 dX12_lists_76 (by decide) ?_
                                  refine lv_iinc (v := 4) (lv' := [(1, .int (4 : Int32)), (3, .int (0 : Int32)), (2, .int (0 : Int32)), (0, .ref (ad 0))]) E.1.1 E.1.2.1 dX12_lists_119 hl (k := 2) rfl (by decide) (by decide) rfl (fun ls hl => ?_)
                                  refine lv_goto (tgt := 12) E.1.1 E.1.2.1 dX12_lists_122 (by decide) ?_
                                  refine lv_iload_n E.1.1 E.1.2.1 dX12_lists_12 rfl (lv_at hl 0 rfl) ?_
                                  refine lv_bipush (v := 8) E.1.1 E.1.2.1 dX12_lists_13 (by decide) ?_
                                  refine c_ge (tgt := 125) E tI_4 tI_8 dX12_lists_15 (by decide) (fun c_24 => ?_) (fun c_24 => ?_)
                                  · exfalso; omega
                                  · skip
                                    refine lv_aload_n E.1.1 E.1.2.1 dX12_lists_18 rfl (lv_at hl 3 rfl) ?_
                                    refine row_get (v := .int (iv_4 28)) E B iX12 rfl 91 (by decide) mw_1567 0 rfl rfl dX12_lists_19 ?_
                                    refine lv_bipush (v := 6) E.1.1 E.1.2.1 dX12_lists_22 (by decide) ?_
                                    refine c_ge (tgt := 125) E h_6 tI_6 dX12_lists_24 (by decide) (fun c_25 => ?_) (fun c_25 => ?_)
                                    · exfalso; omega
                                    · skip
                                      refine lv_iconst (v := 0) E.1.1 E.1.2.1 dX12_lists_27 (by decide) ?_
                                      refine lv_istore_n (lv' := [(2, .int (0 : Int32)), (1, .int (4 : Int32)), (3, .int (0 : Int32)), (0, .ref (ad 0))]) E.1.1 E.1.2.1 dX12_lists_28 rfl hl (by decide) rfl (fun ls hl => ?_)
                                      refine lv_iconst (v := 0) E.1.1 E.1.2.1 dX12_lists_29 (by decide) ?_
                                      refine lv_istore_n (lv' := [(3, .int (0 : Int32)), (2, .int (0 : Int32)), (1, .int (4 : Int32)), (0, .ref (ad 0))]) E.1.1 E.1.2.1 dX12_lists_30 rfl hl (by decide) rfl (fun ls hl => ?_)
                                      refine lv_iload_n E.1.1 E.1.2.1 dX12_lists_31 rfl (lv_at hl 0 rfl) ?_
                                      refine lv_aload_n E.1.1 E.1.2.1 dX12_lists_32 rfl (lv_at hl 3 rfl) ?_
                                      refine at_pc (n := 33) rfl ?_
                                      refine row_get (v := .int (iv_4 2)) E B iX12 rfl 3 (by decide) mw_1479 0 rfl rfl dX12_lists_33 ?_
                                      refine c_ge (tgt := 72) E tI_0 h_5 dX12_lists_36 (by decide) (fun c_26 => ?_) (fun c_26 => ?_)
                                      · skip
                                        refine lv_iload_n E.1.1 E.1.2.1 dX12_lists_72 rfl (lv_at hl 1 rfl) ?_
                                        refine b_ne (tgt := 79) E tI_0 dX12_lists_73 (by decide) (fun c_27 => ?_) (fun c_27 => ?_)
                                        · exfalso; omega
                                        · skip
                                          refine lv_goto (tgt := 119) E.1.1 E.1.2.1 dX12_lists_76 (by decide) ?_
                                          refine lv_iinc (v := 5) (lv' := [(1, .int (5 : Int32)), (3, .int (0 : Int32)), (2, .int (0 : Int32)), (0, .ref (ad 0))]) E.1.1 E.1.2.1 dX12_lists_119 hl (k := 2) rfl (by decide) (by decide) rfl (fun ls hl => ?_)
                                          refine lv_goto (tgt := 12) E.1.1 E.1.2.1 dX12_lists_122 (by decide) ?_
                                          refine lv_iload_n E.1.1 E.1.2.1 dX12_lists_12 rfl (lv_at hl 0 rfl) ?_
                                          refine lv_bipush (v := 8) E.1.1 E.1.2.1 dX12_lists_13 (by decide) ?_
                                          refine c_ge (tgt := 125) E tI_5 tI_8 dX12_lists_15 (by decide) (fun c_28 => ?_) (fun c_28 => ?_)
                                          · exfalso; omega
                                          · skip
                                            refine lv_aload_n E.1.1 E.1.2.1 dX12_lists_18 rfl (lv_at hl 3 rfl) ?_
                                            refine row_get (v := .int (iv_4 28)) E B iX12 rfl 91 (by decide) mw_1567 0 rfl rfl dX12_lists_19 ?_
                                            refine lv_bipush (v := 6) E.1.1 E.1.2.1 dX12_lists_22 (by decide) ?_
                                            refine c_ge (tgt := 125) E h_6 tI_6 dX12_lists_24 (by decide) (fun c_29 => ?_) (fun c_29 => ?_)
                                            · exfalso; omega
                                            · skip
                                              refine lv_iconst (v := 0) E.1.1 E.1.2.1 dX12_lists_27 (by decide) ?_
                                              refine lv_istore_n (lv' := [(2, .int (0 : Int32)), (1, .int (5 : Int32)), (3, .int (0 : Int32)), (0, .ref (ad 0))]) E.1.1 E.1.2.1 dX12_lists_28 rfl hl (by decide) rfl (fun ls hl => ?_)
                                              refine lv_iconst (v := 0) E.1.1 E.1.2.1 dX12_lists_29 (by decide) ?_
                                              refine lv_istore_n (lv' := [(3, .int (0 : Int32)), (2, .int (0 : Int32)), (1, .int (5 : Int32)), (0, .ref (ad 0))]) E.1.1 E.1.2.1 dX12_lists_30 rfl hl (by decide) rfl (fun ls hl => ?_)
                                              refine lv_iload_n E.1.1 E.1.2.1 dX12_lists_31 rfl (lv_at hl 0 rfl) ?_
                                              refine lv_aload_n E.1.1 E.1.2.1 dX12_lists_32 rfl (lv_at hl 3 rfl) ?_
                                              refine at_pc (n := 33) rfl ?_
                                              refine row_get (v := .int (iv_4 2)) E B iX12 rfl 3 (by decide) mw_1479 0 rfl rfl dX12_lists_33 ?_
                                              refine c_ge (tgt := 72) E tI_0 h_5 dX12_lists_36 (by decide) (fun c_30 => ?_) (fun c_30 => ?_)
                                              · skip
                                                refine lv_iload_n E.1.1 E.1.2.1 dX12_lists_72 rfl (lv_at hl 1 rfl) ?_
                                                refine b_ne (tgt := 79) E tI_0 dX12_lists_73 (by decide) (fun c_31 => ?_) (fun c_31 => ?_)
                                                · exfalso; omega
                                                · skip
                                                  refine lv_goto (tgt := 119) E.1.1 E.1.2.1 dX12_lists_76 (by decide) ?_
                                                  refine lv_iinc (v := 6) (lv' := [(1, .int (6 : Int32)), (3, .int (0 : Int32)), (2, .int (0 : Int32)), (0, .ref (ad 0))]) E.1.1 E.1.2.1 dX12_lists_119 hl (k := 2) rfl (by decide) (by decide) rfl (fun ls hl => ?_)
                                                  refine lv_goto (tgt := 12) E.1.1 E.1.2.1 dX12_lists_122 (by decide) ?_
                                                  refine lv_iload_n E.1.1 E.1.2.1 dX12_lists_12 rfl (lv_at hl 0 rfl) ?_
                                                  refine lv_bipush (v := 8) E.1.1 E.1.2.1 dX12_lists_13 (by decide) ?_
                                                  refine c_ge (tgt := 125) E tI_6 tI_8 dX12_lists_15 (by decide) (fun c_32 => ?_) (fun c_32 => ?_)
                                                  · exfalso; omega
                                                  · skip
                                                    refine lv_aload_n E.1.1 E.1.2.1 dX12_lists_18 rfl (lv_at hl 3 rfl) ?_
                                                    refine row_get (v := .int (iv_4 28)) E B iX12 rfl 91 (by decide) mw_1567 0 rfl rfl dX12_lists_19 ?_
                                                    refine lv_bipush (v := 6) E.1.1 E.1.2.1 dX12_lists_22 (by decide) ?_
                                                    refine c_ge (tgt := 125) E h_6 tI_6 dX12_lists_24 (by decide) (fun c_33 => ?_) (fun c_33 => ?_)
                                                    · exfalso; omega
                                                    · skip
                                                      refine lv_iconst (v := 0) E.1.1 E.1.2.1 dX12_lists_27 (by decide) ?_
                                                      refine lv_istore_n (lv' := [(2, .int (0 : Int32)), (1, .int (6 : Int32)), (3, .int (0 : Int32)), (0, .ref (ad 0))]) E.1.1 E.1.2.1 dX12_lists_28 rfl hl (by decide) rfl (fun ls hl => ?_)
                                                      refine lv_iconst (v := 0) E.1.1 E.1.2.1 dX12_lists_29 (by decide) ?_
                                                      refine lv_istore_n (lv' := [(3, .int (0 : Int32)), (2, .int (0 : Int32)), (1, .int (6 : Int32)), (0, .ref (ad 0))]) E.1.1 E.1.2.1 dX12_lists_30 rfl hl (by decide) rfl (fun ls hl => ?_)
                                                      refine lv_iload_n E.1.1 E.1.2.1 dX12_lists_31 rfl (lv_at hl 0 rfl) ?_
                                                      refine lv_aload_n E.1.1 E.1.2.1 dX12_lists_32 rfl (lv_at hl 3 rfl) ?_
                                                      refine at_pc (n := 33) rfl ?_
                                                      refine row_get (v := .int (iv_4 2)) E B iX12 rfl 3 (by decide) mw_1479 0 rfl rfl dX12_lists_33 ?_
                                                      refine c_ge (tgt := 72) E tI_0 h_5 dX12_lists_36 (by decide) (fun c_34 => ?_) (fun c_34 => ?_)
                                                      · skip
                                                        refine lv_iload_n E.1.1 E.1.2.1 dX12_lists_72 rfl (lv_at hl 1 rfl) ?_
                                                        refine b_ne (tgt := 79) E tI_0 dX12_lists_73 (by decide) (fun c_35 => ?_) (fun c_35 => ?_)
                                                        · exfalso; omega
                                                        · skip
                                                          refine lv_goto (tgt := 119) E.1.1 E.1.2.1 dX12_lists_76 (by decide) ?_
                                                          refine lv_iinc (v := 7) (lv' := [(1, .int (7 : Int32)), (3, .int (0 : Int32)), (2, .int (0 : Int32)), (0, .ref (ad 0))]) E.1.1 E.1.2.1 dX12_lists_119 hl (k := 2) rfl (by decide) (by decide) rfl (fun ls hl => ?_)
                                                          refine lv_goto (tgt := 12) E.1.1 E.1.2.1 dX12_lists_122 (by decide) ?_
                                                          refine lv_iload_n E.1.1 E.1.2.1 dX12_lists_12 rfl (lv_at hl 0 rfl) ?_
                                                          refine lv_bipush (v := 8) E.1.1 E.1.2.1 dX12_lists_13 (by decide) ?_
                                                          refine c_ge (tgt := 125) E tI_7 tI_8 dX12_lists_15 (by decide) (fun c_36 => ?_) (fun c_36 => ?_)
                                                          · exfalso; omega
                                                          · skip
                                                            refine lv_aload_n E.1.1 E.1.2.1 dX12_lists_18 rfl (lv_at hl 3 rfl) ?_
                                                            refine row_get (v := .int (iv_4 28)) E B iX12 rfl 91 (by decide) mw_1567 0 rfl rfl dX12_lists_19 ?_
                                                            refine lv_bipush (v := 6) E.1.1 E.1.2.1 dX12_lists_22 (by decide) ?_
                                                            refine c_ge (tgt := 125) E h_6 tI_6 dX12_lists_24 (by decide) (fun c_37 => ?_) (fun c_37 => ?_)
                                                            · exfalso; omega
                                                            · skip
                                                              refine lv_iconst (v := 0) E.1.1 E.1.2.1 dX12_lists_27 (by decide) ?_
                                                              refine lv_istore_n (lv' := [(2, .int (0 : Int32)), (1, .int (7 : Int32)), (3, .int (0 : Int32)), (0, .ref (ad 0))]) E.1.1 E.1.2.1 dX12_lists_28 rfl hl (by decide) rfl (fun ls hl => ?_)
                                                              refine lv_iconst (v := 0) E.1.1 E.1.2.1 dX12_lists_29 (by decide) ?_
                                                              refine lv_istore_n (lv' := [(3, .int (0 : Int32)), (2, .int (0 : Int32)), (1, .int (7 : Int32)), (0, .ref (ad 0))]) E.1.1 E.1.2.1 dX12_lists_30 rfl hl (by decide) rfl (fun ls hl => ?_)
                                                              refine lv_iload_n E.1.1 E.1.2.1 dX12_lists_31 rfl (lv_at hl 0 rfl) ?_
                                                              refine lv_aload_n E.1.1 E.1.2.1 dX12_lists_32 rfl (lv_at hl 3 rfl) ?_
                                                              refine at_pc (n := 33) rfl ?_
                                                              refine row_get (v := .int (iv_4 2)) E B iX12 rfl 3 (by decide) mw_1479 0 rfl rfl dX12_lists_33 ?_
                                                              refine c_ge (tgt := 72) E tI_0 h_5 dX12_lists_36 (by decide) (fun c_38 => ?_) (fun c_38 => ?_)
                                                              · skip
                                                                refine lv_iload_n E.1.1 E.1.2.1 dX12_lists_72 rfl (lv_at hl 1 rfl) ?_
                                                                refine b_ne (tgt := 79) E tI_0 dX12_lists_73 (by decide) (fun c_39 => ?_) (fun c_39 => ?_)
                                                                · exfalso; omega
                                                                · skip
                                                                  refine lv_goto (tgt := 119) E.1.1 E.1.2.1 dX12_lists_76 (by decide) ?_
                                                                  refine lv_iinc (v := 8) (lv' := [(1, .int (8 : Int32)), (3, .int (0 : Int32)), (2, .int (0 : Int32)), (0, .ref (ad 0))]) E.1.1 E.1.2.1 dX12_lists_119 hl (k := 2) rfl (by decide) (by decide) rfl (fun ls hl => ?_)
                                                                  refine lv_goto (tgt := 12) E.1.1 E.1.2.1 dX12_lists_122 (by decide) ?_
                                                                  refine lv_iload_n E.1.1 E.1.2.1 dX12_lists_12 rfl (lv_at hl 0 rfl) ?_
                                                                  refine lv_bipush (v := 8) E.1.1 E.1.2.1 dX12_lists_13 (by decide) ?_
                                                                  refine c_ge (tgt := 125) E tI_8 tI_8 dX12_lists_15 (by decide) (fun c_40 => ?_) (fun c_40 => ?_)
                                                                  · skip
                                                                    exact ret_V (u := iv_4) E hr hlk B (by have := h_6; omega) dX12_lists_125
                                                                  · exfalso; omega
                                                              · exfalso; omega
                                                      · exfalso; omega
                                              · exfalso; omega
                                      · exfalso; omega
                              · exfalso; omega
                      · exfalso; omega
              · exfalso; omega
      · exfalso; omega
set_option maxHeartbeats 4000000 in
set_option maxRecDepth 100000 in
theorem m_12_daysBy (l : Launch) (D : va_G) (ct : Nat → ClassId) (tN : Nat) (ad : Nat → Nat) (iv : Nat → Int32) (ia : Nat → Nat → Int32) (R : va_W) (p0 : Int32) (h28 : (iv 28).toInt = 0) : MI l D (TY ct) tN yX12_daysBy cX12_daysBy 5 (some .int) ({ frames := 0, cells := 0, slots := 0, locals := 0 } : Room) [.ref (ad 0), .int p0] (MW ct ad iv ia R) (fun (v : Int32) (u : Unit) => (p0.toInt = 0 ∧ v.toInt = 0) ∨ (¬ p0.toInt = 0 ∧ v.toInt = -1)) (fun _ => MW ct ad iv ia R) 0 0 := by
  intro sz
  refine Met.ofE (Qc := fun A => va_Qi (fun (v : Int32) (u : Unit) => (p0.toInt = 0 ∧ v.toInt = 0) ∨ (¬ p0.toInt = 0 ∧ v.toInt = -1)) (BW D A (fun _ => MW ct ad iv ia R)) A) (by decide) (Nat.le_of_ble_eq_true rfl) ?_
  intro p e s m args below meth c A ls hsz E hr hlk hnm B hl
  have hl : lv_has ls 5 [(0, .ref (ad 0)), (1, .int p0)] := hl
  refine lv_aload_n E.1.1 E.1.2.1 dX12_daysBy_0 rfl (lv_at hl 0 rfl) ?_
  refine row_get (v := .int (iv 28)) E B iX12 rfl 91 (by decide) mw_1567 0 rfl rfl dX12_daysBy_1 ?_
  refine b_ne (tgt := 17) E h28 dX12_daysBy_4 (by decide) (fun c_1 => ?_) (fun c_1 => ?_)
  · exfalso; omega
  · skip
    refine lv_iload_n E.1.1 E.1.2.1 dX12_daysBy_7 rfl (lv_at hl 1 rfl) ?_
    refine b_ne (tgt := 15) E rfl dX12_daysBy_8 (by decide) (fun c_2 => ?_) (fun c_2 => ?_)
    · skip
      refine lv_iconst (v := -1) E.1.1 E.1.2.1 dX12_daysBy_15 (by decide) ?_
      have r_3 : (-1 : Int32).toInt = -1 := tI_m1
      exact ret_I (u := ()) E hr hlk rfl B (by omega) dX12_daysBy_16
    · skip
      refine lv_iconst (v := 0) E.1.1 E.1.2.1 dX12_daysBy_11 (by decide) ?_
      refine lv_goto (tgt := 16) E.1.1 E.1.2.1 dX12_daysBy_12 (by decide) ?_
      have r_4 : (0 : Int32).toInt = 0 := tI_0
      exact ret_I (u := ()) E hr hlk rfl B (by omega) dX12_daysBy_16
set_option maxHeartbeats 4000000 in
set_option maxRecDepth 100000 in
theorem m_12_rows (l : Launch) (D : va_G) (ct : Nat → ClassId) (tN : Nat) (ad : Nat → Nat) (iv : Nat → Int32) (ia : Nat → Nat → Int32) (R : va_W)  (h28 : (iv 28).toInt = 0) : MI l D (TY ct) tN yX12_rows cX12_rows 3 (some .int) ({ frames := 0, cells := 0, slots := 0, locals := 0 } : Room) [.ref (ad 0)] (MW ct ad iv ia R) (fun (v : Int32) (u : Unit) => v.toInt = 1) (fun _ => MW ct ad iv ia R) 0 0 := by
  intro sz
  refine Met.ofE (Qc := fun A => va_Qi (fun (v : Int32) (u : Unit) => v.toInt = 1) (BW D A (fun _ => MW ct ad iv ia R)) A) (by decide) (Nat.le_of_ble_eq_true rfl) ?_
  intro p e s m args below meth c A ls hsz E hr hlk hnm B hl
  have hl : lv_has ls 3 [(0, .ref (ad 0))] := hl
  refine lv_iconst (v := 1) E.1.1 E.1.2.1 dX12_rows_0 (by decide) ?_
  refine lv_istore_n (lv' := [(1, .int (1 : Int32)), (0, .ref (ad 0))]) E.1.1 E.1.2.1 dX12_rows_1 rfl hl (by decide) rfl (fun ls hl => ?_)
  refine lv_iconst (v := 0) E.1.1 E.1.2.1 dX12_rows_2 (by decide) ?_
  refine lv_istore_n (lv' := [(2, .int (0 : Int32)), (1, .int (1 : Int32)), (0, .ref (ad 0))]) E.1.1 E.1.2.1 dX12_rows_3 rfl hl (by decide) rfl (fun ls hl => ?_)
  refine lv_iload_n E.1.1 E.1.2.1 dX12_rows_4 rfl (lv_at hl 0 rfl) ?_
  refine lv_aload_n E.1.1 E.1.2.1 dX12_rows_5 rfl (lv_at hl 2 rfl) ?_
  refine at_pc (n := 6) rfl ?_
  refine row_get (v := .int (iv 28)) E B iX12 rfl 91 (by decide) mw_1567 0 rfl rfl dX12_rows_6 ?_
  refine c_ge (tgt := 23) E tI_0 h28 dX12_rows_9 (by decide) (fun c_1 => ?_) (fun c_1 => ?_)
  · skip
    refine lv_iload_n E.1.1 E.1.2.1 dX12_rows_23 rfl (lv_at hl 1 rfl) ?_
    have r_2 : (1 : Int32).toInt = 1 := tI_1
    exact ret_I (u := ()) E hr hlk rfl B (by omega) dX12_rows_24
  · exfalso; omega
set_option maxHeartbeats 4000000 in
set_option maxRecDepth 100000 in
theorem m_12_bestRow (l : Launch) (D : va_G) (ct : Nat → ClassId) (tN : Nat) (ad : Nat → Nat) (iv : Nat → Int32) (ia : Nat → Nat → Int32) (R : va_W)  (h28 : (iv 28).toInt = 0) : MI l D (TY ct) tN yX12_bestRow cX12_bestRow 5 (some .int) ({ frames := 1, cells := 0, slots := 0, locals := 24 } : Room) [.ref (ad 0)] (MW ct ad iv ia R) (fun (v : Int32) (u : Unit) => v.toInt = 0) (fun _ => MW ct ad iv ia R) 0 0 := by
  intro sz
  refine Met.ofE (Qc := fun A => va_Qi (fun (v : Int32) (u : Unit) => v.toInt = 0) (BW D A (fun _ => MW ct ad iv ia R)) A) (by decide) (Nat.le_of_ble_eq_true rfl) ?_
  intro p e s m args below meth c A ls hsz E hr hlk hnm B hl
  have hl : lv_has ls 5 [(0, .ref (ad 0))] := hl
  refine lv_iconst (v := -1) E.1.1 E.1.2.1 dX12_bestRow_0 (by decide) ?_
  refine lv_istore_n (lv' := [(1, .int (-1 : Int32)), (0, .ref (ad 0))]) E.1.1 E.1.2.1 dX12_bestRow_1 rfl hl (by decide) rfl (fun ls hl => ?_)
  refine lv_iconst (v := 0) E.1.1 E.1.2.1 dX12_bestRow_2 (by decide) ?_
  refine lv_istore_n (lv' := [(2, .int (0 : Int32)), (1, .int (-1 : Int32)), (0, .ref (ad 0))]) E.1.1 E.1.2.1 dX12_bestRow_3 rfl hl (by decide) rfl (fun ls hl => ?_)
  refine lv_iconst (v := 0) E.1.1 E.1.2.1 dX12_bestRow_4 (by decide) ?_
  refine lv_istore_n (lv' := [(3, .int (0 : Int32)), (2, .int (0 : Int32)), (1, .int (-1 : Int32)), (0, .ref (ad 0))]) E.1.1 E.1.2.1 dX12_bestRow_5 rfl hl (by decide) rfl (fun ls hl => ?_)
  refine at_pc (n := 6) rfl ?_
  refine lv_iload_n E.1.1 E.1.2.1 dX12_bestRow_6 rfl (lv_at hl 0 rfl) ?_
  refine lv_aload_n E.1.1 E.1.2.1 dX12_bestRow_7 rfl (lv_at hl 3 rfl) ?_
  refine call_VI (kn := 0) E B (m_12_rows l D ct tN ad iv ia R   h28) (good_V mw_2216 mw_2218 ms_144 mw_12 mw_2219) 0 rfl rfl ⟨rfl, by decide +kernel⟩ rfl rfl rfl ⟨by decide, by decide⟩ rfl hl (Nat.le_of_ble_eq_true rfl) dX12_bestRow_8 ⟨Nat.le_of_ble_eq_true rfl, Nat.le_of_ble_eq_true rfl⟩ (fun v_1 u_2 H locs w_3 B => ?_)
  have w_3 : v_1.toInt = 1 := w_3
  have B : Hp D A s.heap (MW ct ad iv ia R) H locs := B
  refine at_n (n := 11) (k1 := 0) (k2 := 0) rfl rfl rfl ?_
  refine c_ge (tgt := 73) E tI_0 w_3 dX12_bestRow_11 (by decide) (fun c_4 => ?_) (fun c_4 => ?_)
  · exfalso; omega
  · skip
    refine lv_aload_n E.1.1 E.1.2.1 dX12_bestRow_14 rfl (lv_at hl 3 rfl) ?_
    refine lv_iload_n E.1.1 E.1.2.1 dX12_bestRow_15 rfl (lv_at hl 0 rfl) ?_
    refine call_VI (kn := 1) E B (m_12_daysBy l D ct tN ad iv ia R  ((0 : Int32)) h28) (good_V mw_2220 mw_2222 ms_145 mw_12 mw_2223) 0 rfl rfl ⟨rfl, by decide +kernel⟩ rfl rfl rfl ⟨by decide, by decide⟩ rfl hl (Nat.le_of_ble_eq_true rfl) dX12_bestRow_16 ⟨Nat.le_of_ble_eq_true rfl, Nat.le_of_ble_eq_true rfl⟩ (fun v_5 u_6 H locs w_7 B => ?_)
    have w_7 : (0 = 0 ∧ v_5.toInt = 0) ∨ (¬ 0 = 0 ∧ v_5.toInt = -1) := by have h0 := w_7; have a0 := tI_0; omega
    have w_8 : v_5.toInt = 0 := by omega
    have B : Hp D A s.heap (MW ct ad iv ia R) H locs := B
    refine at_n (n := 19) (k1 := 0) (k2 := 0) rfl rfl rfl ?_
    refine lv_istore (lv' := [(4, .int v_5), (3, .int (0 : Int32)), (2, .int (0 : Int32)), (1, .int (-1 : Int32)), (0, .ref (ad 0))]) E.1.1 E.1.2.1 dX12_bestRow_19 hl (by decide) rfl (fun ls hl => ?_)
    refine lv_iload E.1.1 E.1.2.1 dX12_bestRow_21 (lv_at hl 0 rfl) ?_
    refine lv_iconst (v := -1) E.1.1 E.1.2.1 dX12_bestRow_23 (by decide) ?_
    refine c_eq (tgt := 67) E w_8 tI_m1 dX12_bestRow_24 (by decide) (fun c_9 => ?_) (fun c_9 => ?_)
    · exfalso; omega
    · skip
      refine lv_iload_n E.1.1 E.1.2.1 dX12_bestRow_27 rfl (lv_at hl 3 rfl) ?_
      refine lv_iconst (v := -1) E.1.1 E.1.2.1 dX12_bestRow_28 (by decide) ?_
      refine c_eq (tgt := 62) E tI_m1 tI_m1 dX12_bestRow_29 (by decide) (fun c_10 => ?_) (fun c_10 => ?_)
      · skip
        refine lv_iload_n E.1.1 E.1.2.1 dX12_bestRow_62 rfl (lv_at hl 1 rfl) ?_
        refine lv_istore_n (lv' := [(1, .int (0 : Int32)), (4, .int v_5), (3, .int (0 : Int32)), (2, .int (0 : Int32)), (0, .ref (ad 0))]) E.1.1 E.1.2.1 dX12_bestRow_63 rfl hl (by decide) rfl (fun ls hl => ?_)
        refine lv_iload E.1.1 E.1.2.1 dX12_bestRow_64 (lv_at hl 1 rfl) ?_
        refine lv_istore_n (lv' := [(2, .int v_5), (1, .int (0 : Int32)), (4, .int v_5), (3, .int (0 : Int32)), (0, .ref (ad 0))]) E.1.1 E.1.2.1 dX12_bestRow_66 rfl hl (by decide) rfl (fun ls hl => ?_)
        refine lv_iinc (v := 1) (lv' := [(3, .int (1 : Int32)), (2, .int v_5), (1, .int (0 : Int32)), (4, .int v_5), (0, .ref (ad 0))]) E.1.1 E.1.2.1 dX12_bestRow_67 hl (k := 3) rfl (by decide) (by decide) rfl (fun ls hl => ?_)
        refine lv_goto (tgt := 6) E.1.1 E.1.2.1 dX12_bestRow_70 (by decide) ?_
        refine lv_iload_n E.1.1 E.1.2.1 dX12_bestRow_6 rfl (lv_at hl 0 rfl) ?_
        refine at_pc (n := 7) rfl ?_
        refine lv_aload_n E.1.1 E.1.2.1 dX12_bestRow_7 rfl (lv_at hl 4 rfl) ?_
        refine call_VI (kn := 0) E B (m_12_rows l D ct tN ad iv ia R   h28) (good_V mw_2216 mw_2218 ms_144 mw_12 mw_2219) 0 rfl rfl ⟨rfl, by decide +kernel⟩ rfl rfl rfl ⟨by decide, by decide⟩ rfl hl (Nat.le_of_ble_eq_true rfl) dX12_bestRow_8 ⟨Nat.le_of_ble_eq_true rfl, Nat.le_of_ble_eq_true rfl⟩ (fun v_11 u_12 H locs w_13 B => ?_)
        have w_13 : v_11.toInt = 1 := w_13
        have B : Hp D A s.heap (MW ct ad iv ia R) H locs := B
        refine at_n (n := 11) (k1 := 0) (k2 := 0) rfl rfl rfl ?_
        refine c_ge (tgt := 73) E tI_1 w_13 dX12_bestRow_11 (by decide) (fun c_14 => ?_) (fun c_14 => ?_)
        · skip
          refine lv_iload_n E.1.1 E.1.2.1 dX12_bestRow_73 rfl (lv_at hl 2 rfl) ?_
          have r_15 : (0 : Int32).toInt = 0 := tI_0
          exact ret_I (u := ()) E hr hlk rfl B (by omega) dX12_bestRow_74
        · exfalso; omega
      · exfalso; omega
set_option maxHeartbeats 4000000 in
set_option maxRecDepth 100000 in
theorem m_12_fixedVerse (l : Launch) (D : va_G) (ct : Nat → ClassId) (tN : Nat) (ad : Nat → Nat) (iv : Nat → Int32) (ia : Nat → Nat → Int32) (R : va_W) (p0 : Int32) (h2 : (iv 2).toInt = 0) : MI l D (TY ct) tN yX12_fixedVerse cX12_fixedVerse 4 (some .int) ({ frames := 0, cells := 0, slots := 0, locals := 0 } : Room) [.ref (ad 0), .int p0] (MW ct ad iv ia R) (fun (v : Int32) (u : Unit) => v.toInt = -1) (fun _ => MW ct ad iv ia R) 0 0 := by
  intro sz
  refine Met.ofE (Qc := fun A => va_Qi (fun (v : Int32) (u : Unit) => v.toInt = -1) (BW D A (fun _ => MW ct ad iv ia R)) A) (by decide) (Nat.le_of_ble_eq_true rfl) ?_
  intro p e s m args below meth c A ls hsz E hr hlk hnm B hl
  have hl : lv_has ls 4 [(0, .ref (ad 0)), (1, .int p0)] := hl
  refine lv_iconst (v := 0) E.1.1 E.1.2.1 dX12_fixedVerse_0 (by decide) ?_
  refine lv_istore_n (lv' := [(2, .int (0 : Int32)), (0, .ref (ad 0)), (1, .int p0)]) E.1.1 E.1.2.1 dX12_fixedVerse_1 rfl hl (by decide) rfl (fun ls hl => ?_)
  refine lv_iconst (v := 0) E.1.1 E.1.2.1 dX12_fixedVerse_2 (by decide) ?_
  refine lv_istore_n (lv' := [(3, .int (0 : Int32)), (2, .int (0 : Int32)), (0, .ref (ad 0)), (1, .int p0)]) E.1.1 E.1.2.1 dX12_fixedVerse_3 rfl hl (by decide) rfl (fun ls hl => ?_)
  refine lv_iload_n E.1.1 E.1.2.1 dX12_fixedVerse_4 rfl (lv_at hl 0 rfl) ?_
  refine lv_aload_n E.1.1 E.1.2.1 dX12_fixedVerse_5 rfl (lv_at hl 2 rfl) ?_
  refine at_pc (n := 6) rfl ?_
  refine row_get (v := .int (iv 2)) E B iX12 rfl 3 (by decide) mw_1479 0 rfl rfl dX12_fixedVerse_6 ?_
  refine c_ge (tgt := 40) E tI_0 h2 dX12_fixedVerse_9 (by decide) (fun c_1 => ?_) (fun c_1 => ?_)
  · skip
    refine lv_iconst (v := -1) E.1.1 E.1.2.1 dX12_fixedVerse_40 (by decide) ?_
    have r_2 : (-1 : Int32).toInt = -1 := tI_m1
    exact ret_I (u := ()) E hr hlk rfl B (by omega) dX12_fixedVerse_41
  · exfalso; omega
