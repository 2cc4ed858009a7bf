theorem dX0_arePart_0 : decode cX0_arePart 0 = .ok (.aload_n 0, 1) := by decide +kernel
theorem dX0_arePart_1 : decode cX0_arePart 1 = .ok (.getfield 21, 3) := by decide +kernel
theorem dX0_arePart_4 : decode cX0_arePart 4 = .ok (.iload_n 1, 1) := by decide +kernel
theorem dX0_arePart_5 : decode cX0_arePart 5 = .ok (.laload, 1) := by decide +kernel
theorem dX0_arePart_6 : decode cX0_arePart 6 = .ok (.lconst 1, 1) := by decide +kernel
theorem dX0_arePart_7 : decode cX0_arePart 7 = .ok (.iload_n 2, 1) := by decide +kernel
theorem dX0_arePart_8 : decode cX0_arePart 8 = .ok (.lshl, 1) := by decide +kernel
theorem dX0_arePart_9 : decode cX0_arePart 9 = .ok (.land, 1) := by decide +kernel
theorem dX0_arePart_10 : decode cX0_arePart 10 = .ok (.lconst 0, 1) := by decide +kernel
theorem dX0_arePart_11 : decode cX0_arePart 11 = .ok (.lcmp, 1) := by decide +kernel
theorem dX0_arePart_12 : decode cX0_arePart 12 = .ok (.ifCond .eq 7, 3) := by decide +kernel
theorem dX0_arePart_19 : decode cX0_arePart 19 = .ok (.iconst 0, 1) := by decide +kernel
theorem dX0_arePart_20 : decode cX0_arePart 20 = .ok (.ireturn, 1) := by decide +kernel
theorem dX0_choiceOfRow_0 : decode cX0_choiceOfRow 0 = .ok (.iconst 0, 1) := by decide +kernel
theorem dX0_choiceOfRow_1 : decode cX0_choiceOfRow 1 = .ok (.istore_n 1, 1) := by decide +kernel
theorem dX0_choiceOfRow_2 : decode cX0_choiceOfRow 2 = .ok (.aload_n 0, 1) := by decide +kernel
theorem dX0_choiceOfRow_3 : decode cX0_choiceOfRow 3 = .ok (.getfield 51, 3) := by decide +kernel
theorem dX0_choiceOfRow_6 : decode cX0_choiceOfRow 6 = .ok (.iconst 1, 1) := by decide +kernel
theorem dX0_choiceOfRow_7 : decode cX0_choiceOfRow 7 = .ok (.isub, 1) := by decide +kernel
theorem dX0_choiceOfRow_8 : decode cX0_choiceOfRow 8 = .ok (.istore_n 2, 1) := by decide +kernel
theorem dX0_choiceOfRow_9 : decode cX0_choiceOfRow 9 = .ok (.iload_n 2, 1) := by decide +kernel
theorem dX0_choiceOfRow_10 : decode cX0_choiceOfRow 10 = .ok (.ifCond .lt 20, 3) := by decide +kernel
theorem dX0_choiceOfRow_30 : decode cX0_choiceOfRow 30 = .ok (.iload_n 1, 1) := by decide +kernel
theorem dX0_choiceOfRow_31 : decode cX0_choiceOfRow 31 = .ok (.ireturn, 1) := by decide +kernel
theorem dX0_choose_0 : decode cX0_choose 0 = .ok (.iload_n 2, 1) := by decide +kernel
theorem dX0_choose_1 : decode cX0_choose 1 = .ok (.aload_n 0, 1) := by decide +kernel
theorem dX0_choose_2 : decode cX0_choose 2 = .ok (.getfield 71, 3) := by decide +kernel
theorem dX0_choose_5 : decode cX0_choose 5 = .ok (.if_icmp .lt 4, 3) := by decide +kernel
theorem dX0_choose_9 : decode cX0_choose 9 = .ok (.iload_n 1, 1) := by decide +kernel
theorem dX0_choose_10 : decode cX0_choose 10 = .ok (.aload_n 0, 1) := by decide +kernel
theorem dX0_choose_11 : decode cX0_choose 11 = .ok (.getfield 51, 3) := by decide +kernel
theorem dX0_choose_14 : decode cX0_choose 14 = .ok (.if_icmp .lt 17, 3) := by decide +kernel
theorem dX0_choose_17 : decode cX0_choose 17 = .ok (.aload_n 0, 1) := by decide +kernel
theorem dX0_choose_18 : decode cX0_choose 18 = .ok (.iload_n 2, 1) := by decide +kernel
theorem dX0_choose_19 : decode cX0_choose 19 = .ok (.putfield 71, 3) := by decide +kernel
theorem dX0_choose_22 : decode cX0_choose 22 = .ok (.aload_n 0, 1) := by decide +kernel
theorem dX0_choose_23 : decode cX0_choose 23 = .ok (.aload_n 0, 1) := by decide +kernel
theorem dX0_choose_24 : decode cX0_choose 24 = .ok (.invokevirtual 84, 3) := by decide +kernel
theorem dX0_choose_27 : decode cX0_choose 27 = .ok (.putfield 74, 3) := by decide +kernel
theorem dX0_choose_30 : decode cX0_choose 30 = .ok (.return_, 1) := by decide +kernel
theorem dX0_leastPriced_0 : decode cX0_leastPriced 0 = .ok (.aload_n 0, 1) := by decide +kernel
theorem dX0_leastPriced_1 : decode cX0_leastPriced 1 = .ok (.ldc 70, 2) := by decide +kernel
theorem dX0_leastPriced_3 : decode cX0_leastPriced 3 = .ok (.putfield 71, 3) := by decide +kernel
theorem dX0_leastPriced_6 : decode cX0_leastPriced 6 = .ok (.aload_n 0, 1) := by decide +kernel
theorem dX0_leastPriced_7 : decode cX0_leastPriced 7 = .ok (.iconst (-1), 1) := by decide +kernel
theorem dX0_leastPriced_8 : decode cX0_leastPriced 8 = .ok (.putfield 74, 3) := by decide +kernel
theorem dX0_leastPriced_11 : decode cX0_leastPriced 11 = .ok (.aload_n 0, 1) := by decide +kernel
theorem dX0_leastPriced_12 : decode cX0_leastPriced 12 = .ok (.iconst 0, 1) := by decide +kernel
theorem dX0_leastPriced_13 : decode cX0_leastPriced 13 = .ok (.iconst 0, 1) := by decide +kernel
theorem dX0_leastPriced_14 : decode cX0_leastPriced 14 = .ok (.invokevirtual 77, 3) := by decide +kernel
theorem dX0_leastPriced_17 : decode cX0_leastPriced 17 = .ok (.aload_n 0, 1) := by decide +kernel
theorem dX0_leastPriced_18 : decode cX0_leastPriced 18 = .ok (.getfield 74, 3) := by decide +kernel
theorem dX0_leastPriced_21 : decode cX0_leastPriced 21 = .ok (.ireturn, 1) := by decide +kernel
theorem dX0_part_0 : decode cX0_part 0 = .ok (.aload_n 0, 1) := by decide +kernel
theorem dX0_part_1 : decode cX0_part 1 = .ok (.iload_n 1, 1) := by decide +kernel
theorem dX0_part_2 : decode cX0_part 2 = .ok (.iload_n 2, 1) := by decide +kernel
theorem dX0_part_3 : decode cX0_part 3 = .ok (.invokevirtual 63, 3) := by decide +kernel
theorem dX0_part_6 : decode cX0_part 6 = .ok (.ifCond .eq 5, 3) := by decide +kernel
theorem dX0_part_11 : decode cX0_part 11 = .ok (.aload_n 0, 1) := by decide +kernel
theorem dX0_part_12 : decode cX0_part 12 = .ok (.getfield 21, 3) := by decide +kernel
theorem dX0_part_15 : decode cX0_part 15 = .ok (.iload_n 1, 1) := by decide +kernel
theorem dX0_part_16 : decode cX0_part 16 = .ok (.dup2, 1) := by decide +kernel
theorem dX0_part_17 : decode cX0_part 17 = .ok (.laload, 1) := by decide +kernel
theorem dX0_part_18 : decode cX0_part 18 = .ok (.lconst 1, 1) := by decide +kernel
theorem dX0_part_19 : decode cX0_part 19 = .ok (.iload_n 2, 1) := by decide +kernel
theorem dX0_part_20 : decode cX0_part 20 = .ok (.lshl, 1) := by decide +kernel
theorem dX0_part_21 : decode cX0_part 21 = .ok (.lor, 1) := by decide +kernel
theorem dX0_part_22 : decode cX0_part 22 = .ok (.lastore, 1) := by decide +kernel
theorem dX0_part_23 : decode cX0_part 23 = .ok (.aload_n 0, 1) := by decide +kernel
theorem dX0_part_24 : decode cX0_part 24 = .ok (.getfield 21, 3) := by decide +kernel
theorem dX0_part_27 : decode cX0_part 27 = .ok (.iload_n 2, 1) := by decide +kernel
theorem dX0_part_28 : decode cX0_part 28 = .ok (.dup2, 1) := by decide +kernel
theorem dX0_part_29 : decode cX0_part 29 = .ok (.laload, 1) := by decide +kernel
theorem dX0_part_30 : decode cX0_part 30 = .ok (.lconst 1, 1) := by decide +kernel
theorem dX0_part_31 : decode cX0_part 31 = .ok (.iload_n 1, 1) := by decide +kernel
theorem dX0_part_32 : decode cX0_part 32 = .ok (.lshl, 1) := by decide +kernel
theorem dX0_part_33 : decode cX0_part 33 = .ok (.lor, 1) := by decide +kernel
theorem dX0_part_34 : decode cX0_part 34 = .ok (.lastore, 1) := by decide +kernel
theorem dX0_part_35 : decode cX0_part 35 = .ok (.iconst 1, 1) := by decide +kernel
theorem dX0_part_36 : decode cX0_part 36 = .ok (.ireturn, 1) := by decide +kernel
theorem dX0_priceOfRow_0 : decode cX0_priceOfRow 0 = .ok (.iconst 0, 1) := by decide +kernel
theorem dX0_priceOfRow_1 : decode cX0_priceOfRow 1 = .ok (.istore_n 1, 1) := by decide +kernel
theorem dX0_priceOfRow_2 : decode cX0_priceOfRow 2 = .ok (.iconst 0, 1) := by decide +kernel
theorem dX0_priceOfRow_3 : decode cX0_priceOfRow 3 = .ok (.istore_n 2, 1) := by decide +kernel
theorem dX0_priceOfRow_4 : decode cX0_priceOfRow 4 = .ok (.iload_n 2, 1) := by decide +kernel
theorem dX0_priceOfRow_5 : decode cX0_priceOfRow 5 = .ok (.aload_n 0, 1) := by decide +kernel
theorem dX0_priceOfRow_6 : decode cX0_priceOfRow 6 = .ok (.getfield 51, 3) := by decide +kernel
theorem dX0_priceOfRow_9 : decode cX0_priceOfRow 9 = .ok (.if_icmp .ge 38, 3) := by decide +kernel
theorem dX0_priceOfRow_47 : decode cX0_priceOfRow 47 = .ok (.iload_n 1, 1) := by decide +kernel
theorem dX0_priceOfRow_48 : decode cX0_priceOfRow 48 = .ok (.ireturn, 1) := by decide +kernel
theorem dX0_readRow_0 : decode cX0_readRow 0 = .ok (.iload_n 1, 1) := by decide +kernel
theorem dX0_readRow_1 : decode cX0_readRow 1 = .ok (.ifCond .ge 5, 3) := by decide +kernel
theorem dX0_readRow_4 : decode cX0_readRow 4 = .ok (.iconst 0, 1) := by decide +kernel
theorem dX0_readRow_5 : decode cX0_readRow 5 = .ok (.ireturn, 1) := by decide +kernel
theorem dX0_readRow_6 : decode cX0_readRow 6 = .ok (.iload_n 1, 1) := by decide +kernel
theorem dX0_readRow_7 : decode cX0_readRow 7 = .ok (.istore_n 2, 1) := by decide +kernel
theorem dX0_readRow_8 : decode cX0_readRow 8 = .ok (.iconst 0, 1) := by decide +kernel
theorem dX0_readRow_9 : decode cX0_readRow 9 = .ok (.istore_n 3, 1) := by decide +kernel
theorem dX0_readRow_10 : decode cX0_readRow 10 = .ok (.iload_n 3, 1) := by decide +kernel
theorem dX0_readRow_11 : decode cX0_readRow 11 = .ok (.aload_n 0, 1) := by decide +kernel
theorem dX0_readRow_12 : decode cX0_readRow 12 = .ok (.getfield 51, 3) := by decide +kernel
theorem dX0_readRow_15 : decode cX0_readRow 15 = .ok (.if_icmp .ge 39, 3) := by decide +kernel
theorem dX0_readRow_54 : decode cX0_readRow 54 = .ok (.iload_n 2, 1) := by decide +kernel
theorem dX0_readRow_55 : decode cX0_readRow 55 = .ok (.ifCond .ne 7, 3) := by decide +kernel
theorem dX0_readRow_58 : decode cX0_readRow 58 = .ok (.iconst 1, 1) := by decide +kernel
theorem dX0_readRow_59 : decode cX0_readRow 59 = .ok (.goto 4, 3) := by decide +kernel
theorem dX0_readRow_62 : decode cX0_readRow 62 = .ok (.iconst 0, 1) := by decide +kernel
theorem dX0_readRow_63 : decode cX0_readRow 63 = .ok (.ireturn, 1) := by decide +kernel
theorem dX0_reckon_0 : decode cX0_reckon 0 = .ok (.iconst 0, 1) := by decide +kernel
theorem dX0_reckon_1 : decode cX0_reckon 1 = .ok (.istore_n 2, 1) := by decide +kernel
theorem dX0_reckon_2 : decode cX0_reckon 2 = .ok (.iload_n 2, 1) := by decide +kernel
theorem dX0_reckon_3 : decode cX0_reckon 3 = .ok (.aload_n 0, 1) := by decide +kernel
theorem dX0_reckon_4 : decode cX0_reckon 4 = .ok (.getfield 25, 3) := by decide +kernel
theorem dX0_reckon_7 : decode cX0_reckon 7 = .ok (.arraylength, 1) := by decide +kernel
theorem dX0_reckon_8 : decode cX0_reckon 8 = .ok (.if_icmp .ge 23, 3) := by decide +kernel
theorem dX0_reckon_11 : decode cX0_reckon 11 = .ok (.aload_n 0, 1) := by decide +kernel
theorem dX0_reckon_12 : decode cX0_reckon 12 = .ok (.getfield 25, 3) := by decide +kernel
theorem dX0_reckon_15 : decode cX0_reckon 15 = .ok (.iload_n 2, 1) := by decide +kernel
theorem dX0_reckon_16 : decode cX0_reckon 16 = .ok (.iconst 0, 1) := by decide +kernel
theorem dX0_reckon_17 : decode cX0_reckon 17 = .ok (.iastore, 1) := by decide +kernel
theorem dX0_reckon_18 : decode cX0_reckon 18 = .ok (.aload_n 0, 1) := by decide +kernel
theorem dX0_reckon_19 : decode cX0_reckon 19 = .ok (.getfield 28, 3) := by decide +kernel
theorem dX0_reckon_22 : decode cX0_reckon 22 = .ok (.iload_n 2, 1) := by decide +kernel
theorem dX0_reckon_23 : decode cX0_reckon 23 = .ok (.iconst 0, 1) := by decide +kernel
theorem dX0_reckon_24 : decode cX0_reckon 24 = .ok (.bastore, 1) := by decide +kernel
theorem dX0_reckon_25 : decode cX0_reckon 25 = .ok (.iinc 2 1, 3) := by decide +kernel
theorem dX0_reckon_28 : decode cX0_reckon 28 = .ok (.goto (-26), 3) := by decide +kernel
theorem dX0_reckon_31 : decode cX0_reckon 31 = .ok (.aload_n 0, 1) := by decide +kernel
theorem dX0_reckon_32 : decode cX0_reckon 32 = .ok (.getfield 51, 3) := by decide +kernel
theorem dX0_reckon_35 : decode cX0_reckon 35 = .ok (.ifCond .ne 4, 3) := by decide +kernel
theorem dX0_reckon_38 : decode cX0_reckon 38 = .ok (.return_, 1) := by decide +kernel
theorem dX0_size_0 : decode cX0_size 0 = .ok (.aload_n 0, 1) := by decide +kernel
theorem dX0_size_1 : decode cX0_size 1 = .ok (.getfield 51, 3) := by decide +kernel
theorem dX0_size_4 : decode cX0_size 4 = .ok (.ireturn, 1) := by decide +kernel
theorem dX10_has_0 : decode cX10_has 0 = .ok (.iload_n 1, 1) := by decide +kernel
theorem dX10_has_1 : decode cX10_has 1 = .ok (.ifCond .lt 15, 3) := by decide +kernel
theorem dX10_has_4 : decode cX10_has 4 = .ok (.iload_n 1, 1) := by decide +kernel
theorem dX10_has_5 : decode cX10_has 5 = .ok (.aload_n 0, 1) := by decide +kernel
theorem dX10_has_6 : decode cX10_has 6 = .ok (.getfield 18, 3) := by decide +kernel
theorem dX10_has_9 : decode cX10_has 9 = .ok (.if_icmp .ge 7, 3) := by decide +kernel
theorem dX10_has_16 : decode cX10_has 16 = .ok (.iconst 0, 1) := by decide +kernel
theorem dX10_has_17 : decode cX10_has 17 = .ok (.ireturn, 1) := by decide +kernel
theorem dX10_size_0 : decode cX10_size 0 = .ok (.aload_n 0, 1) := by decide +kernel
theorem dX10_size_1 : decode cX10_size 1 = .ok (.getfield 18, 3) := by decide +kernel
theorem dX10_size_4 : decode cX10_size 4 = .ok (.ireturn, 1) := by decide +kernel
theorem dX11_isDay_0 : decode cX11_isDay 0 = .ok (.iload_n 0, 1) := by decide +kernel
theorem dX11_isDay_1 : decode cX11_isDay 1 = .ok (.ifCond .lt 14, 3) := by decide +kernel
theorem dX11_isDay_4 : decode cX11_isDay 4 = .ok (.iload_n 0, 1) := by decide +kernel
theorem dX11_isDay_5 : decode cX11_isDay 5 = .ok (.sipush 3999, 3) := by decide +kernel
theorem dX11_isDay_8 : decode cX11_isDay 8 = .ok (.if_icmp .gt 7, 3) := by decide +kernel
theorem dX11_isDay_11 : decode cX11_isDay 11 = .ok (.iconst 1, 1) := by decide +kernel
theorem dX11_isDay_12 : decode cX11_isDay 12 = .ok (.goto 4, 3) := by decide +kernel
theorem dX11_isDay_15 : decode cX11_isDay 15 = .ok (.iconst 0, 1) := by decide +kernel
theorem dX11_isDay_16 : decode cX11_isDay 16 = .ok (.ireturn, 1) := by decide +kernel
theorem dX11_isEdition_0 : decode cX11_isEdition 0 = .ok (.iload_n 0, 1) := by decide +kernel
theorem dX11_isEdition_1 : decode cX11_isEdition 1 = .ok (.ifCond .lt 12, 3) := by decide +kernel
theorem dX11_isEdition_4 : decode cX11_isEdition 4 = .ok (.iload_n 0, 1) := by decide +kernel
theorem dX11_isEdition_5 : decode cX11_isEdition 5 = .ok (.iconst 4, 1) := by decide +kernel
theorem dX11_isEdition_6 : decode cX11_isEdition 6 = .ok (.if_icmp .ge 7, 3) := by decide +kernel
theorem dX11_isEdition_9 : decode cX11_isEdition 9 = .ok (.iconst 1, 1) := by decide +kernel
theorem dX11_isEdition_10 : decode cX11_isEdition 10 = .ok (.goto 4, 3) := by decide +kernel
theorem dX11_isEdition_13 : decode cX11_isEdition 13 = .ok (.iconst 0, 1) := by decide +kernel
theorem dX11_isEdition_14 : decode cX11_isEdition 14 = .ok (.ireturn, 1) := by decide +kernel
theorem dX11_isPastDay_0 : decode cX11_isPastDay 0 = .ok (.iload_n 1, 1) := by decide +kernel
theorem dX11_isPastDay_1 : decode cX11_isPastDay 1 = .ok (.ifCond .lt 15, 3) := by decide +kernel
theorem dX11_isPastDay_4 : decode cX11_isPastDay 4 = .ok (.iload_n 1, 1) := by decide +kernel
theorem dX11_isPastDay_5 : decode cX11_isPastDay 5 = .ok (.aload_n 0, 1) := by decide +kernel
theorem dX11_isPastDay_6 : decode cX11_isPastDay 6 = .ok (.getfield 98, 3) := by decide +kernel
theorem dX11_isPastDay_9 : decode cX11_isPastDay 9 = .ok (.if_icmp .gt 7, 3) := by decide +kernel
theorem dX11_isPastDay_12 : decode cX11_isPastDay 12 = .ok (.iconst 1, 1) := by decide +kernel
theorem dX11_isPastDay_13 : decode cX11_isPastDay 13 = .ok (.goto 4, 3) := by decide +kernel
theorem dX11_isPastDay_16 : decode cX11_isPastDay 16 = .ok (.iconst 0, 1) := by decide +kernel
theorem dX11_isPastDay_17 : decode cX11_isPastDay 17 = .ok (.ireturn, 1) := by decide +kernel
theorem dX11_isRate_0 : decode cX11_isRate 0 = .ok (.iload_n 0, 1) := by decide +kernel
theorem dX11_isRate_1 : decode cX11_isRate 1 = .ok (.ifCond .lt 13, 3) := by decide +kernel
theorem dX11_isRate_4 : decode cX11_isRate 4 = .ok (.iload_n 0, 1) := by decide +kernel
theorem dX11_isRate_5 : decode cX11_isRate 5 = .ok (.bipush 99, 2) := by decide +kernel
theorem dX11_isRate_7 : decode cX11_isRate 7 = .ok (.if_icmp .gt 7, 3) := by decide +kernel
theorem dX11_isRate_10 : decode cX11_isRate 10 = .ok (.iconst 1, 1) := by decide +kernel
theorem dX11_isRate_11 : decode cX11_isRate 11 = .ok (.goto 4, 3) := by decide +kernel
theorem dX11_isRate_14 : decode cX11_isRate 14 = .ok (.iconst 0, 1) := by decide +kernel
theorem dX11_isRate_15 : decode cX11_isRate 15 = .ok (.ireturn, 1) := by decide +kernel
theorem dX11_isSign_0 : decode cX11_isSign 0 = .ok (.iload_n 0, 1) := by decide +kernel
theorem dX11_isSign_1 : decode cX11_isSign 1 = .ok (.ifCond .lt 13, 3) := by decide +kernel
theorem dX11_isSign_4 : decode cX11_isSign 4 = .ok (.iload_n 0, 1) := by decide +kernel
theorem dX11_isSign_5 : decode cX11_isSign 5 = .ok (.bipush 40, 2) := by decide +kernel
theorem dX11_isSign_7 : decode cX11_isSign 7 = .ok (.if_icmp .ge 7, 3) := by decide +kernel
theorem dX11_isSign_10 : decode cX11_isSign 10 = .ok (.iconst 1, 1) := by decide +kernel
theorem dX11_isSign_11 : decode cX11_isSign 11 = .ok (.goto 4, 3) := by decide +kernel
theorem dX11_isSign_14 : decode cX11_isSign 14 = .ok (.iconst 0, 1) := by decide +kernel
theorem dX11_isSign_15 : decode cX11_isSign 15 = .ok (.ireturn, 1) := by decide +kernel
theorem dX11_putFour_0 : decode cX11_putFour 0 = .ok (.bipush 24, 2) := by decide +kernel
theorem dX11_putFour_2 : decode cX11_putFour 2 = .ok (.istore_n 2, 1) := by decide +kernel
theorem dX11_putFour_3 : decode cX11_putFour 3 = .ok (.iload_n 2, 1) := by decide +kernel
theorem dX11_putFour_4 : decode cX11_putFour 4 = .ok (.ifCond .lt 45, 3) := by decide +kernel
theorem dX11_putFour_7 : decode cX11_putFour 7 = .ok (.aload_n 0, 1) := by decide +kernel
theorem dX11_putFour_8 : decode cX11_putFour 8 = .ok (.getfield 102, 3) := by decide +kernel
theorem dX11_putFour_11 : decode cX11_putFour 11 = .ok (.sipush 200, 3) := by decide +kernel
theorem dX11_putFour_14 : decode cX11_putFour 14 = .ok (.if_icmp .ge 29, 3) := by decide +kernel
theorem dX11_putFour_17 : decode cX11_putFour 17 = .ok (.aload_n 0, 1) := by decide +kernel
theorem dX11_putFour_18 : decode cX11_putFour 18 = .ok (.getfield 9, 3) := by decide +kernel
theorem dX11_putFour_21 : decode cX11_putFour 21 = .ok (.aload_n 0, 1) := by decide +kernel
theorem dX11_putFour_22 : decode cX11_putFour 22 = .ok (.getfield 102, 3) := by decide +kernel
theorem dX11_putFour_25 : decode cX11_putFour 25 = .ok (.iload_n 1, 1) := by decide +kernel
theorem dX11_putFour_26 : decode cX11_putFour 26 = .ok (.iload_n 2, 1) := by decide +kernel
theorem dX11_putFour_27 : decode cX11_putFour 27 = .ok (.iushr, 1) := by decide +kernel
theorem dX11_putFour_28 : decode cX11_putFour 28 = .ok (.sipush 255, 3) := by decide +kernel
theorem dX11_putFour_31 : decode cX11_putFour 31 = .ok (.iand, 1) := by decide +kernel
theorem dX11_putFour_32 : decode cX11_putFour 32 = .ok (.iastore, 1) := by decide +kernel
theorem dX11_putFour_33 : decode cX11_putFour 33 = .ok (.aload_n 0, 1) := by decide +kernel
theorem dX11_putFour_34 : decode cX11_putFour 34 = .ok (.dup, 1) := by decide +kernel
theorem dX11_putFour_35 : decode cX11_putFour 35 = .ok (.getfield 102, 3) := by decide +kernel
theorem dX11_putFour_38 : decode cX11_putFour 38 = .ok (.iconst 1, 1) := by decide +kernel
theorem dX11_putFour_39 : decode cX11_putFour 39 = .ok (.iadd, 1) := by decide +kernel
theorem dX11_putFour_40 : decode cX11_putFour 40 = .ok (.putfield 102, 3) := by decide +kernel
theorem dX11_putFour_43 : decode cX11_putFour 43 = .ok (.iinc 2 (-8), 3) := by decide +kernel
theorem dX11_putFour_46 : decode cX11_putFour 46 = .ok (.goto (-43), 3) := by decide +kernel
theorem dX11_putFour_49 : decode cX11_putFour 49 = .ok (.return_, 1) := by decide +kernel
theorem dX11_tapeHas_0 : decode cX11_tapeHas 0 = .ok (.iload_n 1, 1) := by decide +kernel
theorem dX11_tapeHas_1 : decode cX11_tapeHas 1 = .ok (.iconst 1, 1) := by decide +kernel
theorem dX11_tapeHas_2 : decode cX11_tapeHas 2 = .ok (.if_icmp .lt 20, 3) := by decide +kernel
theorem dX11_tapeHas_5 : decode cX11_tapeHas 5 = .ok (.iload_n 1, 1) := by decide +kernel
theorem dX11_tapeHas_6 : decode cX11_tapeHas 6 = .ok (.iload_n 2, 1) := by decide +kernel
theorem dX11_tapeHas_7 : decode cX11_tapeHas 7 = .ok (.if_icmp .gt 15, 3) := by decide +kernel
theorem dX11_tapeHas_10 : decode cX11_tapeHas 10 = .ok (.iload_n 1, 1) := by decide +kernel
theorem dX11_tapeHas_11 : decode cX11_tapeHas 11 = .ok (.aload_n 0, 1) := by decide +kernel
theorem dX11_tapeHas_12 : decode cX11_tapeHas 12 = .ok (.getfield 102, 3) := by decide +kernel
theorem dX11_tapeHas_15 : decode cX11_tapeHas 15 = .ok (.if_icmp .gt 7, 3) := by decide +kernel
theorem dX11_tapeHas_22 : decode cX11_tapeHas 22 = .ok (.iconst 0, 1) := by decide +kernel
theorem dX11_tapeHas_23 : decode cX11_tapeHas 23 = .ok (.ireturn, 1) := by decide +kernel
theorem dX1_seekUnlike_0 : decode cX1_seekUnlike 0 = .ok (.aload_n 0, 1) := by decide +kernel
theorem dX1_seekUnlike_1 : decode cX1_seekUnlike 1 = .ok (.iconst 0, 1) := by decide +kernel
theorem dX1_seekUnlike_2 : decode cX1_seekUnlike 2 = .ok (.putfield 49, 3) := by decide +kernel
theorem dX1_seekUnlike_5 : decode cX1_seekUnlike 5 = .ok (.aload_n 0, 1) := by decide +kernel
theorem dX1_seekUnlike_6 : decode cX1_seekUnlike 6 = .ok (.iconst 0, 1) := by decide +kernel
theorem dX1_seekUnlike_7 : decode cX1_seekUnlike 7 = .ok (.putfield 133, 3) := by decide +kernel
theorem dX1_seekUnlike_10 : decode cX1_seekUnlike 10 = .ok (.iconst 0, 1) := by decide +kernel
theorem dX1_seekUnlike_11 : decode cX1_seekUnlike 11 = .ok (.istore_n 3, 1) := by decide +kernel
theorem dX1_seekUnlike_12 : decode cX1_seekUnlike 12 = .ok (.iload_n 3, 1) := by decide +kernel
theorem dX1_seekUnlike_13 : decode cX1_seekUnlike 13 = .ok (.aload_n 0, 1) := by decide +kernel
theorem dX1_seekUnlike_14 : decode cX1_seekUnlike 14 = .ok (.getfield 37, 3) := by decide +kernel
theorem dX1_seekUnlike_17 : decode cX1_seekUnlike 17 = .ok (.invokevirtual 136, 3) := by decide +kernel
theorem dX1_seekUnlike_20 : decode cX1_seekUnlike 20 = .ok (.if_icmp .ge 43, 3) := by decide +kernel
theorem dX1_seekUnlike_63 : decode cX1_seekUnlike 63 = .ok (.iconst 0, 1) := by decide +kernel
theorem dX1_seekUnlike_64 : decode cX1_seekUnlike 64 = .ok (.istore_n 3, 1) := by decide +kernel
theorem dX1_seekUnlike_65 : decode cX1_seekUnlike 65 = .ok (.iload_n 3, 1) := by decide +kernel
theorem dX1_seekUnlike_66 : decode cX1_seekUnlike 66 = .ok (.aload_n 0, 1) := by decide +kernel
theorem dX1_seekUnlike_67 : decode cX1_seekUnlike 67 = .ok (.getfield 133, 3) := by decide +kernel
theorem dX1_seekUnlike_70 : decode cX1_seekUnlike 70 = .ok (.if_icmp .ge 128, 3) := by decide +kernel
theorem dX1_seekUnlike_198 : decode cX1_seekUnlike 198 = .ok (.iconst 0, 1) := by decide +kernel
theorem dX1_seekUnlike_199 : decode cX1_seekUnlike 199 = .ok (.ireturn, 1) := by decide +kernel
theorem dX1_seen_0 : decode cX1_seen 0 = .ok (.aload_n 0, 1) := by decide +kernel
theorem dX1_seen_1 : decode cX1_seen 1 = .ok (.getfield 49, 3) := by decide +kernel
theorem dX1_seen_4 : decode cX1_seen 4 = .ok (.ireturn, 1) := by decide +kernel
theorem dX2_clausesOf_0 : decode cX2_clausesOf 0 = .ok (.iload_n 1, 1) := by decide +kernel
theorem dX2_clausesOf_1 : decode cX2_clausesOf 1 = .ok (.ifCond .lt 20, 3) := by decide +kernel
theorem dX2_clausesOf_4 : decode cX2_clausesOf 4 = .ok (.iload_n 1, 1) := by decide +kernel
theorem dX2_clausesOf_5 : decode cX2_clausesOf 5 = .ok (.aload_n 0, 1) := by decide +kernel
theorem dX2_clausesOf_6 : decode cX2_clausesOf 6 = .ok (.getfield 44, 3) := by decide +kernel
theorem dX2_clausesOf_9 : decode cX2_clausesOf 9 = .ok (.if_icmp .ge 12, 3) := by decide +kernel
theorem dX2_clausesOf_21 : decode cX2_clausesOf 21 = .ok (.iconst 0, 1) := by decide +kernel
theorem dX2_clausesOf_22 : decode cX2_clausesOf 22 = .ok (.ireturn, 1) := by decide +kernel
theorem dX2_hasClause_0 : decode cX2_hasClause 0 = .ok (.iload_n 2, 1) := by decide +kernel
theorem dX2_hasClause_1 : decode cX2_hasClause 1 = .ok (.ifCond .lt 16, 3) := by decide +kernel
theorem dX2_hasClause_4 : decode cX2_hasClause 4 = .ok (.iload_n 2, 1) := by decide +kernel
theorem dX2_hasClause_5 : decode cX2_hasClause 5 = .ok (.aload_n 0, 1) := by decide +kernel
theorem dX2_hasClause_6 : decode cX2_hasClause 6 = .ok (.iload_n 1, 1) := by decide +kernel
theorem dX2_hasClause_7 : decode cX2_hasClause 7 = .ok (.invokevirtual 48, 3) := by decide +kernel
theorem dX2_hasClause_10 : decode cX2_hasClause 10 = .ok (.if_icmp .ge 7, 3) := by decide +kernel
theorem dX2_hasClause_17 : decode cX2_hasClause 17 = .ok (.iconst 0, 1) := by decide +kernel
theorem dX2_hasClause_18 : decode cX2_hasClause 18 = .ok (.ireturn, 1) := by decide +kernel
theorem dX2_isFull_0 : decode cX2_isFull 0 = .ok (.aload_n 0, 1) := by decide +kernel
theorem dX2_isFull_1 : decode cX2_isFull 1 = .ok (.getfield 44, 3) := by decide +kernel
theorem dX2_isFull_4 : decode cX2_isFull 4 = .ok (.bipush 20, 2) := by decide +kernel
theorem dX2_isFull_6 : decode cX2_isFull 6 = .ok (.if_icmp .lt 7, 3) := by decide +kernel
theorem dX2_isFull_13 : decode cX2_isFull 13 = .ok (.iconst 0, 1) := by decide +kernel
theorem dX2_isFull_14 : decode cX2_isFull 14 = .ok (.ireturn, 1) := by decide +kernel
theorem dX2_size_0 : decode cX2_size 0 = .ok (.aload_n 0, 1) := by decide +kernel
theorem dX2_size_1 : decode cX2_size 1 = .ok (.getfield 44, 3) := by decide +kernel
theorem dX2_size_4 : decode cX2_size 4 = .ok (.ireturn, 1) := by decide +kernel
theorem dX4_companies_0 : decode cX4_companies 0 = .ok (.aload_n 0, 1) := by decide +kernel
theorem dX4_companies_1 : decode cX4_companies 1 = .ok (.getfield 21, 3) := by decide +kernel
theorem dX4_companies_4 : decode cX4_companies 4 = .ok (.ireturn, 1) := by decide +kernel
theorem dX4_enterCompany_0 : decode cX4_enterCompany 0 = .ok (.aload_n 0, 1) := by decide +kernel
theorem dX4_enterCompany_1 : decode cX4_enterCompany 1 = .ok (.getfield 21, 3) := by decide +kernel
theorem dX4_enterCompany_4 : decode cX4_enterCompany 4 = .ok (.bipush 6, 2) := by decide +kernel
theorem dX4_enterCompany_6 : decode cX4_enterCompany 6 = .ok (.if_icmp .lt 5, 3) := by decide +kernel
theorem dX4_enterCompany_11 : decode cX4_enterCompany 11 = .ok (.aload_n 0, 1) := by decide +kernel
theorem dX4_enterCompany_12 : decode cX4_enterCompany 12 = .ok (.getfield 11, 3) := by decide +kernel
theorem dX4_enterCompany_15 : decode cX4_enterCompany 15 = .ok (.aload_n 0, 1) := by decide +kernel
theorem dX4_enterCompany_16 : decode cX4_enterCompany 16 = .ok (.getfield 21, 3) := by decide +kernel
theorem dX4_enterCompany_19 : decode cX4_enterCompany 19 = .ok (.iload_n 1, 1) := by decide +kernel
theorem dX4_enterCompany_20 : decode cX4_enterCompany 20 = .ok (.iastore, 1) := by decide +kernel
theorem dX4_enterCompany_21 : decode cX4_enterCompany 21 = .ok (.aload_n 0, 1) := by decide +kernel
theorem dX4_enterCompany_22 : decode cX4_enterCompany 22 = .ok (.getfield 15, 3) := by decide +kernel
theorem dX4_enterCompany_25 : decode cX4_enterCompany 25 = .ok (.aload_n 0, 1) := by decide +kernel
theorem dX4_enterCompany_26 : decode cX4_enterCompany 26 = .ok (.getfield 21, 3) := by decide +kernel
theorem dX4_enterCompany_29 : decode cX4_enterCompany 29 = .ok (.iload_n 2, 1) := by decide +kernel
theorem dX4_enterCompany_30 : decode cX4_enterCompany 30 = .ok (.iastore, 1) := by decide +kernel
theorem dX4_enterCompany_31 : decode cX4_enterCompany 31 = .ok (.aload_n 0, 1) := by decide +kernel
theorem dX4_enterCompany_32 : decode cX4_enterCompany 32 = .ok (.dup, 1) := by decide +kernel
theorem dX4_enterCompany_33 : decode cX4_enterCompany 33 = .ok (.getfield 21, 3) := by decide +kernel
theorem dX4_enterCompany_36 : decode cX4_enterCompany 36 = .ok (.iconst 1, 1) := by decide +kernel
theorem dX4_enterCompany_37 : decode cX4_enterCompany 37 = .ok (.iadd, 1) := by decide +kernel
theorem dX4_enterCompany_38 : decode cX4_enterCompany 38 = .ok (.putfield 21, 3) := by decide +kernel
theorem dX4_enterCompany_41 : decode cX4_enterCompany 41 = .ok (.aload_n 0, 1) := by decide +kernel
theorem dX4_enterCompany_42 : decode cX4_enterCompany 42 = .ok (.getfield 21, 3) := by decide +kernel
theorem dX4_enterCompany_45 : decode cX4_enterCompany 45 = .ok (.iconst 1, 1) := by decide +kernel
theorem dX4_enterCompany_46 : decode cX4_enterCompany 46 = .ok (.isub, 1) := by decide +kernel
theorem dX4_enterCompany_47 : decode cX4_enterCompany 47 = .ok (.ireturn, 1) := by decide +kernel
theorem dX4_hasCompany_0 : decode cX4_hasCompany 0 = .ok (.iload_n 1, 1) := by decide +kernel
theorem dX4_hasCompany_1 : decode cX4_hasCompany 1 = .ok (.ifCond .lt 15, 3) := by decide +kernel
theorem dX4_hasCompany_4 : decode cX4_hasCompany 4 = .ok (.iload_n 1, 1) := by decide +kernel
theorem dX4_hasCompany_5 : decode cX4_hasCompany 5 = .ok (.aload_n 0, 1) := by decide +kernel
theorem dX4_hasCompany_6 : decode cX4_hasCompany 6 = .ok (.getfield 21, 3) := by decide +kernel
theorem dX4_hasCompany_9 : decode cX4_hasCompany 9 = .ok (.if_icmp .ge 7, 3) := by decide +kernel
theorem dX4_hasCompany_16 : decode cX4_hasCompany 16 = .ok (.iconst 0, 1) := by decide +kernel
theorem dX4_hasCompany_17 : decode cX4_hasCompany 17 = .ok (.ireturn, 1) := by decide +kernel
theorem dX4_hasScholar_0 : decode cX4_hasScholar 0 = .ok (.iload_n 1, 1) := by decide +kernel
theorem dX4_hasScholar_1 : decode cX4_hasScholar 1 = .ok (.ifCond .lt 15, 3) := by decide +kernel
theorem dX4_hasScholar_4 : decode cX4_hasScholar 4 = .ok (.iload_n 1, 1) := by decide +kernel
theorem dX4_hasScholar_5 : decode cX4_hasScholar 5 = .ok (.aload_n 0, 1) := by decide +kernel
theorem dX4_hasScholar_6 : decode cX4_hasScholar 6 = .ok (.getfield 25, 3) := by decide +kernel
theorem dX4_hasScholar_9 : decode cX4_hasScholar 9 = .ok (.if_icmp .ge 7, 3) := by decide +kernel
theorem dX4_hasScholar_16 : decode cX4_hasScholar 16 = .ok (.iconst 0, 1) := by decide +kernel
theorem dX4_hasScholar_17 : decode cX4_hasScholar 17 = .ok (.ireturn, 1) := by decide +kernel
theorem dX4_scholars_0 : decode cX4_scholars 0 = .ok (.aload_n 0, 1) := by decide +kernel
theorem dX4_scholars_1 : decode cX4_scholars 1 = .ok (.getfield 25, 3) := by decide +kernel
theorem dX4_scholars_4 : decode cX4_scholars 4 = .ok (.ireturn, 1) := by decide +kernel
theorem dX4_setCentreRate_0 : decode cX4_setCentreRate 0 = .ok (.aload_n 0, 1) := by decide +kernel
theorem dX4_setCentreRate_1 : decode cX4_setCentreRate 1 = .ok (.iload_n 1, 1) := by decide +kernel
theorem dX4_setCentreRate_2 : decode cX4_setCentreRate 2 = .ok (.putfield 35, 3) := by decide +kernel
theorem dX4_setCentreRate_5 : decode cX4_setCentreRate 5 = .ok (.return_, 1) := by decide +kernel
theorem dX5_answer_0 : decode cX5_answer 0 = .ok (.aload_n 0, 1) := by decide +kernel
theorem dX5_answer_1 : decode cX5_answer 1 = .ok (.invokevirtual 41, 3) := by decide +kernel
theorem dX5_answer_4 : decode cX5_answer 4 = .ok (.aload_n 0, 1) := by decide +kernel
theorem dX5_answer_5 : decode cX5_answer 5 = .ok (.ldc 44, 2) := by decide +kernel
theorem dX5_answer_7 : decode cX5_answer 7 = .ok (.putfield 45, 3) := by decide +kernel
theorem dX5_answer_10 : decode cX5_answer 10 = .ok (.aload_n 0, 1) := by decide +kernel
theorem dX5_answer_11 : decode cX5_answer 11 = .ok (.invokevirtual 49, 3) := by decide +kernel
theorem dX5_answer_14 : decode cX5_answer 14 = .ok (.istore_n 2, 1) := by decide +kernel
theorem dX5_answer_15 : decode cX5_answer 15 = .ok (.iload_n 2, 1) := by decide +kernel
theorem dX5_answer_16 : decode cX5_answer 16 = .ok (.iconst (-1), 1) := by decide +kernel
theorem dX5_answer_17 : decode cX5_answer 17 = .ok (.if_icmp .eq 9, 3) := by decide +kernel
theorem dX5_answer_20 : decode cX5_answer 20 = .ok (.aload_n 0, 1) := by decide +kernel
theorem dX5_answer_21 : decode cX5_answer 21 = .ok (.iconst 0, 1) := by decide +kernel
theorem dX5_answer_22 : decode cX5_answer 22 = .ok (.iload_n 2, 1) := by decide +kernel
theorem dX5_answer_23 : decode cX5_answer 23 = .ok (.invokevirtual 53, 3) := by decide +kernel
theorem dX5_answer_26 : decode cX5_answer 26 = .ok (.aload_n 0, 1) := by decide +kernel
theorem dX5_answer_27 : decode cX5_answer 27 = .ok (.getfield 45, 3) := by decide +kernel
theorem dX5_answer_30 : decode cX5_answer 30 = .ok (.ldc 44, 2) := by decide +kernel
theorem dX5_answer_32 : decode cX5_answer 32 = .ok (.if_icmp .ne 5, 3) := by decide +kernel
theorem dX5_answer_37 : decode cX5_answer 37 = .ok (.iload_n 1, 1) := by decide +kernel
theorem dX5_answer_38 : decode cX5_answer 38 = .ok (.iconst (-1), 1) := by decide +kernel
theorem dX5_answer_39 : decode cX5_answer 39 = .ok (.if_icmp .ne 8, 3) := by decide +kernel
theorem dX5_answer_42 : decode cX5_answer 42 = .ok (.aload_n 0, 1) := by decide +kernel
theorem dX5_answer_43 : decode cX5_answer 43 = .ok (.getfield 45, 3) := by decide +kernel
theorem dX5_answer_46 : decode cX5_answer 46 = .ok (.ireturn, 1) := by decide +kernel
theorem dX5_answer_47 : decode cX5_answer 47 = .ok (.iload_n 1, 1) := by decide +kernel
theorem dX5_answer_48 : decode cX5_answer 48 = .ok (.ifCond .lt 20, 3) := by decide +kernel
theorem dX5_answer_51 : decode cX5_answer 51 = .ok (.iload_n 1, 1) := by decide +kernel
theorem dX5_answer_52 : decode cX5_answer 52 = .ok (.aload_n 0, 1) := by decide +kernel
theorem dX5_answer_53 : decode cX5_answer 53 = .ok (.getfield 57, 3) := by decide +kernel
theorem dX5_answer_56 : decode cX5_answer 56 = .ok (.if_icmp .ge 12, 3) := by decide +kernel
theorem dX5_answer_68 : decode cX5_answer 68 = .ok (.iconst (-1), 1) := by decide +kernel
theorem dX5_answer_69 : decode cX5_answer 69 = .ok (.ireturn, 1) := by decide +kernel
theorem dX5_daysOf_0 : decode cX5_daysOf 0 = .ok (.aload_n 0, 1) := by decide +kernel
theorem dX5_daysOf_1 : decode cX5_daysOf 1 = .ok (.invokevirtual 41, 3) := by decide +kernel
theorem dX5_daysOf_4 : decode cX5_daysOf 4 = .ok (.aload_n 0, 1) := by decide +kernel
theorem dX5_daysOf_5 : decode cX5_daysOf 5 = .ok (.invokevirtual 49, 3) := by decide +kernel
theorem dX5_daysOf_8 : decode cX5_daysOf 8 = .ok (.istore_n 2, 1) := by decide +kernel
theorem dX5_daysOf_9 : decode cX5_daysOf 9 = .ok (.iload_n 1, 1) := by decide +kernel
theorem dX5_daysOf_10 : decode cX5_daysOf 10 = .ok (.istore_n 3, 1) := by decide +kernel
theorem dX5_daysOf_11 : decode cX5_daysOf 11 = .ok (.iconst 0, 1) := by decide +kernel
theorem dX5_daysOf_12 : decode cX5_daysOf 12 = .ok (.istore 4, 2) := by decide +kernel
theorem dX5_daysOf_14 : decode cX5_daysOf 14 = .ok (.iload 4, 2) := by decide +kernel
theorem dX5_daysOf_16 : decode cX5_daysOf 16 = .ok (.aload_n 0, 1) := by decide +kernel
theorem dX5_daysOf_17 : decode cX5_daysOf 17 = .ok (.getfield 57, 3) := by decide +kernel
theorem dX5_daysOf_20 : decode cX5_daysOf 20 = .ok (.if_icmp .ge 89, 3) := by decide +kernel
theorem dX5_daysOf_109 : decode cX5_daysOf 109 = .ok (.iload_n 3, 1) := by decide +kernel
theorem dX5_daysOf_110 : decode cX5_daysOf 110 = .ok (.ifCond .ne 7, 3) := by decide +kernel
theorem dX5_daysOf_113 : decode cX5_daysOf 113 = .ok (.iload_n 2, 1) := by decide +kernel
theorem dX5_daysOf_114 : decode cX5_daysOf 114 = .ok (.goto 4, 3) := by decide +kernel
theorem dX5_daysOf_117 : decode cX5_daysOf 117 = .ok (.iconst (-1), 1) := by decide +kernel
theorem dX5_daysOf_118 : decode cX5_daysOf 118 = .ok (.ireturn, 1) := by decide +kernel
theorem dX5_daysOfCentre_0 : decode cX5_daysOfCentre 0 = .ok (.iconst 0, 1) := by decide +kernel
theorem dX5_daysOfCentre_1 : decode cX5_daysOfCentre 1 = .ok (.istore_n 1, 1) := by decide +kernel
theorem dX5_daysOfCentre_2 : decode cX5_daysOfCentre 2 = .ok (.iconst 0, 1) := by decide +kernel
theorem dX5_daysOfCentre_3 : decode cX5_daysOfCentre 3 = .ok (.istore_n 2, 1) := by decide +kernel
theorem dX5_daysOfCentre_4 : decode cX5_daysOfCentre 4 = .ok (.iload_n 2, 1) := by decide +kernel
theorem dX5_daysOfCentre_5 : decode cX5_daysOfCentre 5 = .ok (.aload_n 0, 1) := by decide +kernel
theorem dX5_daysOfCentre_6 : decode cX5_daysOfCentre 6 = .ok (.getfield 57, 3) := by decide +kernel
theorem dX5_daysOfCentre_9 : decode cX5_daysOfCentre 9 = .ok (.if_icmp .ge 23, 3) := by decide +kernel
theorem dX5_daysOfCentre_32 : decode cX5_daysOfCentre 32 = .ok (.iload_n 1, 1) := by decide +kernel
theorem dX5_daysOfCentre_33 : decode cX5_daysOfCentre 33 = .ok (.ifCond .ne 5, 3) := by decide +kernel
theorem dX5_daysOfCentre_36 : decode cX5_daysOfCentre 36 = .ok (.iconst 0, 1) := by decide +kernel
theorem dX5_daysOfCentre_37 : decode cX5_daysOfCentre 37 = .ok (.ireturn, 1) := by decide +kernel
theorem dX5_gatherBooks_0 : decode cX5_gatherBooks 0 = .ok (.iconst 0, 1) := by decide +kernel
theorem dX5_gatherBooks_1 : decode cX5_gatherBooks 1 = .ok (.istore_n 1, 1) := by decide +kernel
theorem dX5_gatherBooks_2 : decode cX5_gatherBooks 2 = .ok (.iload_n 1, 1) := by decide +kernel
theorem dX5_gatherBooks_3 : decode cX5_gatherBooks 3 = .ok (.bipush 8, 2) := by decide +kernel
theorem dX5_gatherBooks_5 : decode cX5_gatherBooks 5 = .ok (.if_icmp .ge 16, 3) := by decide +kernel
theorem dX5_gatherBooks_8 : decode cX5_gatherBooks 8 = .ok (.aload_n 0, 1) := by decide +kernel
theorem dX5_gatherBooks_9 : decode cX5_gatherBooks 9 = .ok (.getfield 11, 3) := by decide +kernel
theorem dX5_gatherBooks_12 : decode cX5_gatherBooks 12 = .ok (.iload_n 1, 1) := by decide +kernel
theorem dX5_gatherBooks_13 : decode cX5_gatherBooks 13 = .ok (.iconst 0, 1) := by decide +kernel
theorem dX5_gatherBooks_14 : decode cX5_gatherBooks 14 = .ok (.iastore, 1) := by decide +kernel
theorem dX5_gatherBooks_15 : decode cX5_gatherBooks 15 = .ok (.iinc 1 1, 3) := by decide +kernel
theorem dX5_gatherBooks_18 : decode cX5_gatherBooks 18 = .ok (.goto (-16), 3) := by decide +kernel
theorem dX5_gatherBooks_21 : decode cX5_gatherBooks 21 = .ok (.iconst 0, 1) := by decide +kernel
theorem dX5_gatherBooks_22 : decode cX5_gatherBooks 22 = .ok (.istore_n 1, 1) := by decide +kernel
theorem dX5_gatherBooks_23 : decode cX5_gatherBooks 23 = .ok (.iload_n 1, 1) := by decide +kernel
theorem dX5_gatherBooks_24 : decode cX5_gatherBooks 24 = .ok (.aload_n 0, 1) := by decide +kernel
theorem dX5_gatherBooks_25 : decode cX5_gatherBooks 25 = .ok (.getfield 29, 3) := by decide +kernel
theorem dX5_gatherBooks_28 : decode cX5_gatherBooks 28 = .ok (.invokevirtual 77, 3) := by decide +kernel
theorem dX5_gatherBooks_31 : decode cX5_gatherBooks 31 = .ok (.if_icmp .ge 50, 3) := by decide +kernel
theorem dX5_gatherBooks_81 : decode cX5_gatherBooks 81 = .ok (.aload_n 0, 1) := by decide +kernel
theorem dX5_gatherBooks_82 : decode cX5_gatherBooks 82 = .ok (.iconst 0, 1) := by decide +kernel
theorem dX5_gatherBooks_83 : decode cX5_gatherBooks 83 = .ok (.putfield 57, 3) := by decide +kernel
theorem dX5_gatherBooks_86 : decode cX5_gatherBooks 86 = .ok (.iconst 0, 1) := by decide +kernel
theorem dX5_gatherBooks_87 : decode cX5_gatherBooks 87 = .ok (.istore_n 1, 1) := by decide +kernel
theorem dX5_gatherBooks_88 : decode cX5_gatherBooks 88 = .ok (.iload_n 1, 1) := by decide +kernel
theorem dX5_gatherBooks_89 : decode cX5_gatherBooks 89 = .ok (.bipush 8, 2) := by decide +kernel
theorem dX5_gatherBooks_91 : decode cX5_gatherBooks 91 = .ok (.if_icmp .ge 47, 3) := by decide +kernel
theorem dX5_gatherBooks_94 : decode cX5_gatherBooks 94 = .ok (.aload_n 0, 1) := by decide +kernel
theorem dX5_gatherBooks_95 : decode cX5_gatherBooks 95 = .ok (.getfield 57, 3) := by decide +kernel
theorem dX5_gatherBooks_98 : decode cX5_gatherBooks 98 = .ok (.bipush 6, 2) := by decide +kernel
theorem dX5_gatherBooks_100 : decode cX5_gatherBooks 100 = .ok (.if_icmp .ge 38, 3) := by decide +kernel
theorem dX5_gatherBooks_103 : decode cX5_gatherBooks 103 = .ok (.aload_n 0, 1) := by decide +kernel
theorem dX5_gatherBooks_104 : decode cX5_gatherBooks 104 = .ok (.getfield 11, 3) := by decide +kernel
theorem dX5_gatherBooks_107 : decode cX5_gatherBooks 107 = .ok (.iload_n 1, 1) := by decide +kernel
theorem dX5_gatherBooks_108 : decode cX5_gatherBooks 108 = .ok (.iaload, 1) := by decide +kernel
theorem dX5_gatherBooks_109 : decode cX5_gatherBooks 109 = .ok (.ifCond .le 23, 3) := by decide +kernel
theorem dX5_gatherBooks_132 : decode cX5_gatherBooks 132 = .ok (.iinc 1 1, 3) := by decide +kernel
theorem dX5_gatherBooks_135 : decode cX5_gatherBooks 135 = .ok (.goto (-47), 3) := by decide +kernel
theorem dX5_gatherBooks_138 : decode cX5_gatherBooks 138 = .ok (.iconst 0, 1) := by decide +kernel
theorem dX5_gatherBooks_139 : decode cX5_gatherBooks 139 = .ok (.istore_n 1, 1) := by decide +kernel
theorem dX5_gatherBooks_140 : decode cX5_gatherBooks 140 = .ok (.iload_n 1, 1) := by decide +kernel
theorem dX5_gatherBooks_141 : decode cX5_gatherBooks 141 = .ok (.aload_n 0, 1) := by decide +kernel
theorem dX5_gatherBooks_142 : decode cX5_gatherBooks 142 = .ok (.getfield 20, 3) := by decide +kernel
theorem dX5_gatherBooks_145 : decode cX5_gatherBooks 145 = .ok (.arraylength, 1) := by decide +kernel
theorem dX5_gatherBooks_146 : decode cX5_gatherBooks 146 = .ok (.if_icmp .ge 16, 3) := by decide +kernel
theorem dX5_gatherBooks_149 : decode cX5_gatherBooks 149 = .ok (.aload_n 0, 1) := by decide +kernel
theorem dX5_gatherBooks_150 : decode cX5_gatherBooks 150 = .ok (.getfield 20, 3) := by decide +kernel
theorem dX5_gatherBooks_153 : decode cX5_gatherBooks 153 = .ok (.iload_n 1, 1) := by decide +kernel
theorem dX5_gatherBooks_154 : decode cX5_gatherBooks 154 = .ok (.iconst 0, 1) := by decide +kernel
theorem dX5_gatherBooks_155 : decode cX5_gatherBooks 155 = .ok (.iastore, 1) := by decide +kernel
theorem dX5_gatherBooks_156 : decode cX5_gatherBooks 156 = .ok (.iinc 1 1, 3) := by decide +kernel
theorem dX5_gatherBooks_159 : decode cX5_gatherBooks 159 = .ok (.goto (-19), 3) := by decide +kernel
theorem dX5_gatherBooks_162 : decode cX5_gatherBooks 162 = .ok (.return_, 1) := by decide +kernel
theorem dX5_give_0 : decode cX5_give 0 = .ok (.iload_n 2, 1) := by decide +kernel
theorem dX5_give_1 : decode cX5_give 1 = .ok (.aload_n 0, 1) := by decide +kernel
theorem dX5_give_2 : decode cX5_give 2 = .ok (.getfield 45, 3) := by decide +kernel
theorem dX5_give_5 : decode cX5_give 5 = .ok (.if_icmp .lt 4, 3) := by decide +kernel
theorem dX5_give_9 : decode cX5_give 9 = .ok (.iload_n 1, 1) := by decide +kernel
theorem dX5_give_10 : decode cX5_give 10 = .ok (.aload_n 0, 1) := by decide +kernel
theorem dX5_give_11 : decode cX5_give 11 = .ok (.getfield 57, 3) := by decide +kernel
theorem dX5_give_14 : decode cX5_give 14 = .ok (.if_icmp .lt 37, 3) := by decide +kernel
theorem dX5_give_17 : decode cX5_give 17 = .ok (.aload_n 0, 1) := by decide +kernel
theorem dX5_give_18 : decode cX5_give 18 = .ok (.iload_n 2, 1) := by decide +kernel
theorem dX5_give_19 : decode cX5_give 19 = .ok (.putfield 45, 3) := by decide +kernel
theorem dX5_give_22 : decode cX5_give 22 = .ok (.iconst 0, 1) := by decide +kernel
theorem dX5_give_23 : decode cX5_give 23 = .ok (.istore_n 3, 1) := by decide +kernel
theorem dX5_give_24 : decode cX5_give 24 = .ok (.iload_n 3, 1) := by decide +kernel
theorem dX5_give_25 : decode cX5_give 25 = .ok (.aload_n 0, 1) := by decide +kernel
theorem dX5_give_26 : decode cX5_give 26 = .ok (.getfield 57, 3) := by decide +kernel
theorem dX5_give_29 : decode cX5_give 29 = .ok (.if_icmp .ge 21, 3) := by decide +kernel
theorem dX5_give_50 : decode cX5_give 50 = .ok (.return_, 1) := by decide +kernel
theorem dX8_at_0 : decode cX8_at 0 = .ok (.iload_n 1, 1) := by decide +kernel
theorem dX8_at_1 : decode cX8_at 1 = .ok (.ifCond .lt 20, 3) := by decide +kernel
theorem dX8_at_4 : decode cX8_at 4 = .ok (.iload_n 1, 1) := by decide +kernel
theorem dX8_at_5 : decode cX8_at 5 = .ok (.aload_n 0, 1) := by decide +kernel
theorem dX8_at_6 : decode cX8_at 6 = .ok (.getfield 30, 3) := by decide +kernel
theorem dX8_at_9 : decode cX8_at 9 = .ok (.if_icmp .ge 12, 3) := by decide +kernel
theorem dX8_at_21 : decode cX8_at 21 = .ok (.aconst_null, 1) := by decide +kernel
theorem dX8_at_22 : decode cX8_at 22 = .ok (.areturn, 1) := by decide +kernel
theorem dX8_fixedAt_0 : decode cX8_fixedAt 0 = .ok (.aload_n 0, 1) := by decide +kernel
theorem dX8_fixedAt_1 : decode cX8_fixedAt 1 = .ok (.aload_n 0, 1) := by decide +kernel
theorem dX8_fixedAt_2 : decode cX8_fixedAt 2 = .ok (.iload_n 1, 1) := by decide +kernel
theorem dX8_fixedAt_3 : decode cX8_fixedAt 3 = .ok (.invokevirtual 38, 3) := by decide +kernel
theorem dX8_fixedAt_6 : decode cX8_fixedAt 6 = .ok (.invokevirtual 42, 3) := by decide +kernel
theorem dX8_fixedAt_9 : decode cX8_fixedAt 9 = .ok (.areturn, 1) := by decide +kernel
theorem dX8_fixedNumber_0 : decode cX8_fixedNumber 0 = .ok (.iload_n 1, 1) := by decide +kernel
theorem dX8_fixedNumber_1 : decode cX8_fixedNumber 1 = .ok (.ifCond .lt 18, 3) := by decide +kernel
theorem dX8_fixedNumber_4 : decode cX8_fixedNumber 4 = .ok (.iload_n 1, 1) := by decide +kernel
theorem dX8_fixedNumber_5 : decode cX8_fixedNumber 5 = .ok (.bipush 60, 2) := by decide +kernel
theorem dX8_fixedNumber_7 : decode cX8_fixedNumber 7 = .ok (.if_icmp .ge 12, 3) := by decide +kernel
theorem dX8_fixedNumber_10 : decode cX8_fixedNumber 10 = .ok (.aload_n 0, 1) := by decide +kernel
theorem dX8_fixedNumber_11 : decode cX8_fixedNumber 11 = .ok (.getfield 17, 3) := by decide +kernel
theorem dX8_fixedNumber_14 : decode cX8_fixedNumber 14 = .ok (.iload_n 1, 1) := by decide +kernel
theorem dX8_fixedNumber_15 : decode cX8_fixedNumber 15 = .ok (.iaload, 1) := by decide +kernel
theorem dX8_fixedNumber_16 : decode cX8_fixedNumber 16 = .ok (.goto 4, 3) := by decide +kernel
theorem dX8_fixedNumber_19 : decode cX8_fixedNumber 19 = .ok (.iconst (-1), 1) := by decide +kernel
theorem dX8_fixedNumber_20 : decode cX8_fixedNumber 20 = .ok (.ireturn, 1) := by decide +kernel
theorem dX8_fixedThen_0 : decode cX8_fixedThen 0 = .ok (.aload_n 0, 1) := by decide +kernel
theorem dX8_fixedThen_1 : decode cX8_fixedThen 1 = .ok (.getfield 46, 3) := by decide +kernel
theorem dX8_fixedThen_4 : decode cX8_fixedThen 4 = .ok (.iconst 1, 1) := by decide +kernel
theorem dX8_fixedThen_5 : decode cX8_fixedThen 5 = .ok (.isub, 1) := by decide +kernel
theorem dX8_fixedThen_6 : decode cX8_fixedThen 6 = .ok (.istore_n 3, 1) := by decide +kernel
theorem dX8_fixedThen_7 : decode cX8_fixedThen 7 = .ok (.iload_n 3, 1) := by decide +kernel
theorem dX8_fixedThen_8 : decode cX8_fixedThen 8 = .ok (.ifCond .lt 36, 3) := by decide +kernel
theorem dX8_fixedThen_44 : decode cX8_fixedThen 44 = .ok (.iconst (-1), 1) := by decide +kernel
theorem dX8_fixedThen_45 : decode cX8_fixedThen 45 = .ok (.ireturn, 1) := by decide +kernel
theorem dX8_fixedVerses_0 : decode cX8_fixedVerses 0 = .ok (.iconst 0, 1) := by decide +kernel
theorem dX8_fixedVerses_1 : decode cX8_fixedVerses 1 = .ok (.istore_n 1, 1) := by decide +kernel
theorem dX8_fixedVerses_2 : decode cX8_fixedVerses 2 = .ok (.iconst 0, 1) := by decide +kernel
theorem dX8_fixedVerses_3 : decode cX8_fixedVerses 3 = .ok (.istore_n 2, 1) := by decide +kernel
theorem dX8_fixedVerses_4 : decode cX8_fixedVerses 4 = .ok (.iload_n 2, 1) := by decide +kernel
theorem dX8_fixedVerses_5 : decode cX8_fixedVerses 5 = .ok (.bipush 60, 2) := by decide +kernel
theorem dX8_fixedVerses_7 : decode cX8_fixedVerses 7 = .ok (.if_icmp .ge 22, 3) := by decide +kernel
theorem dX8_fixedVerses_10 : decode cX8_fixedVerses 10 = .ok (.aload_n 0, 1) := by decide +kernel
theorem dX8_fixedVerses_11 : decode cX8_fixedVerses 11 = .ok (.getfield 17, 3) := by decide +kernel
theorem dX8_fixedVerses_14 : decode cX8_fixedVerses 14 = .ok (.iload_n 2, 1) := by decide +kernel
theorem dX8_fixedVerses_15 : decode cX8_fixedVerses 15 = .ok (.iaload, 1) := by decide +kernel
theorem dX8_fixedVerses_16 : decode cX8_fixedVerses 16 = .ok (.iconst (-1), 1) := by decide +kernel
theorem dX8_fixedVerses_17 : decode cX8_fixedVerses 17 = .ok (.if_icmp .eq 6, 3) := by decide +kernel
theorem dX8_fixedVerses_23 : decode cX8_fixedVerses 23 = .ok (.iinc 2 1, 3) := by decide +kernel
theorem dX8_fixedVerses_26 : decode cX8_fixedVerses 26 = .ok (.goto (-22), 3) := by decide +kernel
theorem dX8_fixedVerses_29 : decode cX8_fixedVerses 29 = .ok (.iload_n 1, 1) := by decide +kernel
theorem dX8_fixedVerses_30 : decode cX8_fixedVerses 30 = .ok (.ireturn, 1) := by decide +kernel
theorem dX8_inState_0 : decode cX8_inState 0 = .ok (.iconst 0, 1) := by decide +kernel
theorem dX8_inState_1 : decode cX8_inState 1 = .ok (.istore_n 2, 1) := by decide +kernel
theorem dX8_inState_2 : decode cX8_inState 2 = .ok (.iconst 0, 1) := by decide +kernel
theorem dX8_inState_3 : decode cX8_inState 3 = .ok (.istore_n 3, 1) := by decide +kernel
theorem dX8_inState_4 : decode cX8_inState 4 = .ok (.iload_n 3, 1) := by decide +kernel
theorem dX8_inState_5 : decode cX8_inState 5 = .ok (.aload_n 0, 1) := by decide +kernel
theorem dX8_inState_6 : decode cX8_inState 6 = .ok (.getfield 30, 3) := by decide +kernel
theorem dX8_inState_9 : decode cX8_inState 9 = .ok (.if_icmp .ge 34, 3) := by decide +kernel
theorem dX8_inState_43 : decode cX8_inState 43 = .ok (.iload_n 2, 1) := by decide +kernel
theorem dX8_inState_44 : decode cX8_inState 44 = .ok (.ireturn, 1) := by decide +kernel
theorem dX8_size_0 : decode cX8_size 0 = .ok (.aload_n 0, 1) := by decide +kernel
theorem dX8_size_1 : decode cX8_size 1 = .ok (.getfield 30, 3) := by decide +kernel
theorem dX8_size_4 : decode cX8_size 4 = .ok (.ireturn, 1) := by decide +kernel
theorem dX9_enter_0 : decode cX9_enter 0 = .ok (.aload_n 0, 1) := by decide +kernel
theorem dX9_enter_1 : decode cX9_enter 1 = .ok (.getfield 29, 3) := by decide +kernel
theorem dX9_enter_4 : decode cX9_enter 4 = .ok (.bipush 60, 2) := by decide +kernel
theorem dX9_enter_6 : decode cX9_enter 6 = .ok (.if_icmp .lt 5, 3) := by decide +kernel
theorem dX9_enter_11 : decode cX9_enter 11 = .ok (.aload_n 0, 1) := by decide +kernel
theorem dX9_enter_12 : decode cX9_enter 12 = .ok (.getfield 9, 3) := by decide +kernel
theorem dX9_enter_15 : decode cX9_enter 15 = .ok (.aload_n 0, 1) := by decide +kernel
theorem dX9_enter_16 : decode cX9_enter 16 = .ok (.getfield 29, 3) := by decide +kernel
theorem dX9_enter_19 : decode cX9_enter 19 = .ok (.iload_n 1, 1) := by decide +kernel
theorem dX9_enter_20 : decode cX9_enter 20 = .ok (.iastore, 1) := by decide +kernel
theorem dX9_enter_21 : decode cX9_enter 21 = .ok (.aload_n 0, 1) := by decide +kernel
theorem dX9_enter_22 : decode cX9_enter 22 = .ok (.getfield 15, 3) := by decide +kernel
theorem dX9_enter_25 : decode cX9_enter 25 = .ok (.aload_n 0, 1) := by decide +kernel
theorem dX9_enter_26 : decode cX9_enter 26 = .ok (.getfield 29, 3) := by decide +kernel
theorem dX9_enter_29 : decode cX9_enter 29 = .ok (.iload_n 2, 1) := by decide +kernel
theorem dX9_enter_30 : decode cX9_enter 30 = .ok (.iastore, 1) := by decide +kernel
theorem dX9_enter_31 : decode cX9_enter 31 = .ok (.aload_n 0, 1) := by decide +kernel
theorem dX9_enter_32 : decode cX9_enter 32 = .ok (.dup, 1) := by decide +kernel
theorem dX9_enter_33 : decode cX9_enter 33 = .ok (.getfield 29, 3) := by decide +kernel
theorem dX9_enter_36 : decode cX9_enter 36 = .ok (.iconst 1, 1) := by decide +kernel
theorem dX9_enter_37 : decode cX9_enter 37 = .ok (.iadd, 1) := by decide +kernel
theorem dX9_enter_38 : decode cX9_enter 38 = .ok (.putfield 29, 3) := by decide +kernel
theorem dX9_enter_41 : decode cX9_enter 41 = .ok (.aload_n 0, 1) := by decide +kernel
theorem dX9_enter_42 : decode cX9_enter 42 = .ok (.getfield 29, 3) := by decide +kernel
theorem dX9_enter_45 : decode cX9_enter 45 = .ok (.iconst 1, 1) := by decide +kernel
theorem dX9_enter_46 : decode cX9_enter 46 = .ok (.isub, 1) := by decide +kernel
theorem dX9_enter_47 : decode cX9_enter 47 = .ok (.ireturn, 1) := by decide +kernel
theorem dX9_has_0 : decode cX9_has 0 = .ok (.iload_n 1, 1) := by decide +kernel
theorem dX9_has_1 : decode cX9_has 1 = .ok (.ifCond .lt 15, 3) := by decide +kernel
theorem dX9_has_4 : decode cX9_has 4 = .ok (.iload_n 1, 1) := by decide +kernel
theorem dX9_has_5 : decode cX9_has 5 = .ok (.aload_n 0, 1) := by decide +kernel
theorem dX9_has_6 : decode cX9_has 6 = .ok (.getfield 29, 3) := by decide +kernel
theorem dX9_has_9 : decode cX9_has 9 = .ok (.if_icmp .ge 7, 3) := by decide +kernel
theorem dX9_has_16 : decode cX9_has 16 = .ok (.iconst 0, 1) := by decide +kernel
theorem dX9_has_17 : decode cX9_has 17 = .ok (.ireturn, 1) := by decide +kernel
theorem dX9_size_0 : decode cX9_size 0 = .ok (.aload_n 0, 1) := by decide +kernel
theorem dX9_size_1 : decode cX9_size 1 = .ok (.getfield 29, 3) := by decide +kernel
theorem dX9_size_4 : decode cX9_size 4 = .ok (.ireturn, 1) := by decide +kernel
set_option maxHeartbeats 4000000 in
set_option maxRecDepth 100000 in
theorem x_11_isDay (l : Launch) (D : va_G) (ct : Nat → ClassId) (tN : Nat) (ad : Nat → Nat) (iv : Nat → Int32) (ia : Nat → Nat → Int32) (la : Nat → Nat → Int64) (pt : Nat → Option Nat) (ra : Nat → Nat → Option Nat) (R : va_W) (p0 : Int32)  : MI l D (TY ct) tN yX11_isDay cX11_isDay 1 (some .boolean) ({ frames := 0, cells := 0, slots := 0, locals := 0 } : Room) [.int p0] (XW ct ad iv ia la pt ra R) (fun (v : Int32) (u : Unit) => (0 ≤ p0.toInt ∧ p0.toInt ≤ 3999 ∧ v.toInt = 1) ∨ ((p0.toInt < 0 ∨ 3999 < p0.toInt) ∧ v.toInt = 0)) (fun _ => XW ct ad iv ia la pt ra R) 0 0 := by
  intro sz
  refine Met.ofE (Qc := fun A => va_Qi (fun (v : Int32) (u : Unit) => (0 ≤ p0.toInt ∧ p0.toInt ≤ 3999 ∧ v.toInt = 1) ∨ ((p0.toInt < 0 ∨ 3999 < p0.toInt) ∧ v.toInt = 0)) (BW D A (fun _ => XW ct ad iv ia la pt ra R)) A) (by decide) (Nat.le_of_ble_eq_true rfl) ?_
  intro p e s m args below meth c A ls hsz E hr hlk hnm B hl
  have hl : lv_has ls 1 [(0, .int p0)] := hl
  refine lv_iload_n E.1.1 E.1.2.1 dX11_isDay_0 rfl (lv_at hl 0 rfl) ?_
  refine b_lt (tgt := 15) E rfl dX11_isDay_1 (by decide) (fun c_1 => ?_) (fun c_1 => ?_)
  · skip
    refine lv_iconst (v := 0) E.1.1 E.1.2.1 dX11_isDay_15 (by decide) ?_
    have r_2 : (0 : Int32).toInt = 0 := tI_0
    exact ret_I (u := ()) E hr hlk (narrow_z (by omega)) B (by omega) dX11_isDay_16
  · skip
    refine lv_iload_n E.1.1 E.1.2.1 dX11_isDay_4 rfl (lv_at hl 0 rfl) ?_
    refine lv_sipush (v := 3999) E.1.1 E.1.2.1 dX11_isDay_5 (by decide) ?_
    refine c_gt (tgt := 15) E rfl tI_3999 dX11_isDay_8 (by decide) (fun c_3 => ?_) (fun c_3 => ?_)
    · skip
      refine lv_iconst (v := 0) E.1.1 E.1.2.1 dX11_isDay_15 (by decide) ?_
      have r_4 : (0 : Int32).toInt = 0 := tI_0
      exact ret_I (u := ()) E hr hlk (narrow_z (by omega)) B (by omega) dX11_isDay_16
    · skip
      refine lv_iconst (v := 1) E.1.1 E.1.2.1 dX11_isDay_11 (by decide) ?_
      refine lv_goto (tgt := 16) E.1.1 E.1.2.1 dX11_isDay_12 (by decide) ?_
      have r_5 : (1 : Int32).toInt = 1 := tI_1
      exact ret_I (u := ()) E hr hlk (narrow_z (by omega)) B (by omega) dX11_isDay_16
set_option maxHeartbeats 4000000 in
set_option maxRecDepth 100000 in
theorem x_11_isRate (l : Launch) (D : va_G) (ct : Nat → ClassId) (tN : Nat) (ad : Nat → Nat) (iv : Nat → Int32) (ia : Nat → Nat → Int32) (la : Nat → Nat → Int64) (pt : Nat → Option Nat) (ra : Nat → Nat → Option Nat) (R : va_W) (p0 : Int32)  : MI l D (TY ct) tN yX11_isRate cX11_isRate 1 (some .boolean) ({ frames := 0, cells := 0, slots := 0, locals := 0 } : Room) [.int p0] (XW ct ad iv ia la pt ra R) (fun (v : Int32) (u : Unit) => (0 ≤ p0.toInt ∧ p0.toInt ≤ 99 ∧ v.toInt = 1) ∨ ((p0.toInt < 0 ∨ 99 < p0.toInt) ∧ v.toInt = 0)) (fun _ => XW ct ad iv ia la pt ra R) 0 0 := by
  intro sz
  refine Met.ofE (Qc := fun A => va_Qi (fun (v : Int32) (u : Unit) => (0 ≤ p0.toInt ∧ p0.toInt ≤ 99 ∧ v.toInt = 1) ∨ ((p0.toInt < 0 ∨ 99 < p0.toInt) ∧ v.toInt = 0)) (BW D A (fun _ => XW ct ad iv ia la pt ra R)) A) (by decide) (Nat.le_of_ble_eq_true rfl) ?_
  intro p e s m args below meth c A ls hsz E hr hlk hnm B hl
  have hl : lv_has ls 1 [(0, .int p0)] := hl
  refine lv_iload_n E.1.1 E.1.2.1 dX11_isRate_0 rfl (lv_at hl 0 rfl) ?_
  refine b_lt (tgt := 14) E rfl dX11_isRate_1 (by decide) (fun c_1 => ?_) (fun c_1 => ?_)
  · skip
    refine lv_iconst (v := 0) E.1.1 E.1.2.1 dX11_isRate_14 (by decide) ?_
    have r_2 : (0 : Int32).toInt = 0 := tI_0
    exact ret_I (u := ()) E hr hlk (narrow_z (by omega)) B (by omega) dX11_isRate_15
  · skip
    refine lv_iload_n E.1.1 E.1.2.1 dX11_isRate_4 rfl (lv_at hl 0 rfl) ?_
    refine lv_bipush (v := 99) E.1.1 E.1.2.1 dX11_isRate_5 (by decide) ?_
    refine c_gt (tgt := 14) E rfl tI_99 dX11_isRate_7 (by decide) (fun c_3 => ?_) (fun c_3 => ?_)
    · skip
      refine lv_iconst (v := 0) E.1.1 E.1.2.1 dX11_isRate_14 (by decide) ?_
      have r_4 : (0 : Int32).toInt = 0 := tI_0
      exact ret_I (u := ()) E hr hlk (narrow_z (by omega)) B (by omega) dX11_isRate_15
    · skip
      refine lv_iconst (v := 1) E.1.1 E.1.2.1 dX11_isRate_10 (by decide) ?_
      refine lv_goto (tgt := 15) E.1.1 E.1.2.1 dX11_isRate_11 (by decide) ?_
      have r_5 : (1 : Int32).toInt = 1 := tI_1
      exact ret_I (u := ()) E hr hlk (narrow_z (by omega)) B (by omega) dX11_isRate_15
set_option maxHeartbeats 4000000 in
set_option maxRecDepth 100000 in
theorem x_11_isSign (l : Launch) (D : va_G) (ct : Nat → ClassId) (tN : Nat) (ad : Nat → Nat) (iv : Nat → Int32) (ia : Nat → Nat → Int32) (la : Nat → Nat → Int64) (pt : Nat → Option Nat) (ra : Nat → Nat → Option Nat) (R : va_W) (p0 : Int32)  : MI l D (TY ct) tN yX11_isSign cX11_isSign 1 (some .boolean) ({ frames := 0, cells := 0, slots := 0, locals := 0 } : Room) [.int p0] (XW ct ad iv ia la pt ra R) (fun (v : Int32) (u : Unit) => (0 ≤ p0.toInt ∧ p0.toInt ≤ 39 ∧ v.toInt = 1) ∨ ((p0.toInt < 0 ∨ 39 < p0.toInt) ∧ v.toInt = 0)) (fun _ => XW ct ad iv ia la pt ra R) 0 0 := by
  intro sz
  refine Met.ofE (Qc := fun A => va_Qi (fun (v : Int32) (u : Unit) => (0 ≤ p0.toInt ∧ p0.toInt ≤ 39 ∧ v.toInt = 1) ∨ ((p0.toInt < 0 ∨ 39 < p0.toInt) ∧ v.toInt = 0)) (BW D A (fun _ => XW ct ad iv ia la pt ra R)) A) (by decide) (Nat.le_of_ble_eq_true rfl) ?_
  intro p e s m args below meth c A ls hsz E hr hlk hnm B hl
  have hl : lv_has ls 1 [(0, .int p0)] := hl
  refine lv_iload_n E.1.1 E.1.2.1 dX11_isSign_0 rfl (lv_at hl 0 rfl) ?_
  refine b_lt (tgt := 14) E rfl dX11_isSign_1 (by decide) (fun c_1 => ?_) (fun c_1 => ?_)
  · skip
    refine lv_iconst (v := 0) E.1.1 E.1.2.1 dX11_isSign_14 (by decide) ?_
    have r_2 : (0 : Int32).toInt = 0 := tI_0
    exact ret_I (u := ()) E hr hlk (narrow_z (by omega)) B (by omega) dX11_isSign_15
  · skip
    refine lv_iload_n E.1.1 E.1.2.1 dX11_isSign_4 rfl (lv_at hl 0 rfl) ?_
    refine lv_bipush (v := 40) E.1.1 E.1.2.1 dX11_isSign_5 (by decide) ?_
    refine c_ge (tgt := 14) E rfl tI_40 dX11_isSign_7 (by decide) (fun c_3 => ?_) (fun c_3 => ?_)
    · skip
      refine lv_iconst (v := 0) E.1.1 E.1.2.1 dX11_isSign_14 (by decide) ?_
      have r_4 : (0 : Int32).toInt = 0 := tI_0
      exact ret_I (u := ()) E hr hlk (narrow_z (by omega)) B (by omega) dX11_isSign_15
    · skip
      refine lv_iconst (v := 1) E.1.1 E.1.2.1 dX11_isSign_10 (by decide) ?_
      refine lv_goto (tgt := 15) E.1.1 E.1.2.1 dX11_isSign_11 (by decide) ?_
      have r_5 : (1 : Int32).toInt = 1 := tI_1
      exact ret_I (u := ()) E hr hlk (narrow_z (by omega)) B (by omega) dX11_isSign_15
set_option maxHeartbeats 4000000 in
set_option maxRecDepth 100000 in
theorem x_11_isEdition (l : Launch) (D : va_G) (ct : Nat → ClassId) (tN : Nat) (ad : Nat → Nat) (iv : Nat → Int32) (ia : Nat → Nat → Int32) (la : Nat → Nat → Int64) (pt : Nat → Option Nat) (ra : Nat → Nat → Option Nat) (R : va_W) (p0 : Int32)  : MI l D (TY ct) tN yX11_isEdition cX11_isEdition 1 (some .boolean) ({ frames := 0, cells := 0, slots := 0, locals := 0 } : Room) [.int p0] (XW ct ad iv ia la pt ra R) (fun (v : Int32) (u : Unit) => (0 ≤ p0.toInt ∧ p0.toInt ≤ 3 ∧ v.toInt = 1) ∨ ((p0.toInt < 0 ∨ 3 < p0.toInt) ∧ v.toInt = 0)) (fun _ => XW ct ad iv ia la pt ra R) 0 0 := by
  intro sz
  refine Met.ofE (Qc := fun A => va_Qi (fun (v : Int32) (u : Unit) => (0 ≤ p0.toInt ∧ p0.toInt ≤ 3 ∧ v.toInt = 1) ∨ ((p0.toInt < 0 ∨ 3 < p0.toInt) ∧ v.toInt = 0)) (BW D A (fun _ => XW ct ad iv ia la pt ra R)) A) (by decide) (Nat.le_of_ble_eq_true rfl) ?_
  intro p e s m args below meth c A ls hsz E hr hlk hnm B hl
  have hl : lv_has ls 1 [(0, .int p0)] := hl
  refine lv_iload_n E.1.1 E.1.2.1 dX11_isEdition_0 rfl (lv_at hl 0 rfl) ?_
  refine b_lt (tgt := 13) E rfl dX11_isEdition_1 (by decide) (fun c_1 => ?_) (fun c_1 => ?_)
  · skip
    refine lv_iconst (v := 0) E.1.1 E.1.2.1 dX11_isEdition_13 (by decide) ?_
    have r_2 : (0 : Int32).toInt = 0 := tI_0
    exact ret_I (u := ()) E hr hlk (narrow_z (by omega)) B (by omega) dX11_isEdition_14
  · skip
    refine lv_iload_n E.1.1 E.1.2.1 dX11_isEdition_4 rfl (lv_at hl 0 rfl) ?_
    refine lv_iconst (v := 4) E.1.1 E.1.2.1 dX11_isEdition_5 (by decide) ?_
    refine c_ge (tgt := 13) E rfl tI_4 dX11_isEdition_6 (by decide) (fun c_3 => ?_) (fun c_3 => ?_)
    · skip
      refine lv_iconst (v := 0) E.1.1 E.1.2.1 dX11_isEdition_13 (by decide) ?_
      have r_4 : (0 : Int32).toInt = 0 := tI_0
      exact ret_I (u := ()) E hr hlk (narrow_z (by omega)) B (by omega) dX11_isEdition_14
    · skip
      refine lv_iconst (v := 1) E.1.1 E.1.2.1 dX11_isEdition_9 (by decide) ?_
      refine lv_goto (tgt := 14) E.1.1 E.1.2.1 dX11_isEdition_10 (by decide) ?_
      have r_5 : (1 : Int32).toInt = 1 := tI_1
      exact ret_I (u := ()) E hr hlk (narrow_z (by omega)) B (by omega) dX11_isEdition_14
set_option maxHeartbeats 4000000 in
set_option maxRecDepth 100000 in
theorem x_11_isPastDay (l : Launch) (D : va_G) (ct : Nat → ClassId) (tN : Nat) (ad : Nat → Nat) (iv : Nat → Int32) (ia : Nat → Nat → Int32) (la : Nat → Nat → Int64) (pt : Nat → Option Nat) (ra : Nat → Nat → Option Nat) (R : va_W) (p0 : Int32) (h1 : (iv 1).toInt = 0) : MI l D (TY ct) tN yX11_isPastDay cX11_isPastDay 2 (some .boolean) ({ frames := 0, cells := 0, slots := 0, locals := 0 } : Room) [.ref (ad 0), .int p0] (XW ct ad iv ia la pt ra R) (fun (v : Int32) (u : Unit) => (p0.toInt = 0 ∧ v.toInt = 1) ∨ (¬ p0.toInt = 0 ∧ v.toInt = 0)) (fun _ => XW ct ad iv ia la pt ra R) 0 0 := by
  intro sz
  refine Met.ofE (Qc := fun A => va_Qi (fun (v : Int32) (u : Unit) => (p0.toInt = 0 ∧ v.toInt = 1) ∨ (¬ p0.toInt = 0 ∧ v.toInt = 0)) (BW D A (fun _ => XW ct ad iv ia la pt ra R)) A) (by decide) (Nat.le_of_ble_eq_true rfl) ?_
  intro p e s m args below meth c A ls hsz E hr hlk hnm B hl
  have hl : lv_has ls 2 [(0, .ref (ad 0)), (1, .int p0)] := hl
  refine lv_iload_n E.1.1 E.1.2.1 dX11_isPastDay_0 rfl (lv_at hl 1 rfl) ?_
  refine b_lt (tgt := 16) E rfl dX11_isPastDay_1 (by decide) (fun c_1 => ?_) (fun c_1 => ?_)
  · skip
    refine lv_iconst (v := 0) E.1.1 E.1.2.1 dX11_isPastDay_16 (by decide) ?_
    have r_2 : (0 : Int32).toInt = 0 := tI_0
    exact ret_I (u := ()) E hr hlk (narrow_z (by omega)) B (by omega) dX11_isPastDay_17
  · skip
    refine lv_iload_n E.1.1 E.1.2.1 dX11_isPastDay_4 rfl (lv_at hl 1 rfl) ?_
    refine lv_aload_n E.1.1 E.1.2.1 dX11_isPastDay_5 rfl (lv_at hl 0 rfl) ?_
    refine row_get (v := .int (iv 1)) E B iX11 rfl 13 (by decide) mw_398 0 rfl rfl dX11_isPastDay_6 ?_
    refine c_gt (tgt := 16) E rfl h1 dX11_isPastDay_9 (by decide) (fun c_3 => ?_) (fun c_3 => ?_)
    · skip
      refine lv_iconst (v := 0) E.1.1 E.1.2.1 dX11_isPastDay_16 (by decide) ?_
      have r_4 : (0 : Int32).toInt = 0 := tI_0
      exact ret_I (u := ()) E hr hlk (narrow_z (by omega)) B (by omega) dX11_isPastDay_17
    · skip
      refine lv_iconst (v := 1) E.1.1 E.1.2.1 dX11_isPastDay_12 (by decide) ?_
      refine lv_goto (tgt := 17) E.1.1 E.1.2.1 dX11_isPastDay_13 (by decide) ?_
      have r_5 : (1 : Int32).toInt = 1 := tI_1
      exact ret_I (u := ()) E hr hlk (narrow_z (by omega)) B (by omega) dX11_isPastDay_17
set_option maxHeartbeats 4000000 in
set_option maxRecDepth 100000 in
theorem x_11_tapeHas (l : Launch) (D : va_G) (ct : Nat → ClassId) (tN : Nat) (ad : Nat → Nat) (iv : Nat → Int32) (ia : Nat → Nat → Int32) (la : Nat → Nat → Int64) (pt : Nat → Option Nat) (ra : Nat → Nat → Option Nat) (R : va_W) (p0 : Int32) (p1 : Int32) (h0 : (iv 0).toInt = 0) : MI l D (TY ct) tN yX11_tapeHas cX11_tapeHas 3 (some .boolean) ({ frames := 0, cells := 0, slots := 0, locals := 0 } : Room) [.ref (ad 0), .int p0, .int p1] (XW ct ad iv ia la pt ra R) (fun (v : Int32) (u : Unit) => v.toInt = 0) (fun _ => XW ct ad iv ia la pt ra R) 0 0 := by
  intro sz
  refine Met.ofE (Qc := fun A => va_Qi (fun (v : Int32) (u : Unit) => v.toInt = 0) (BW D A (fun _ => XW ct ad iv ia la pt ra R)) A) (by decide) (Nat.le_of_ble_eq_true rfl) ?_
  intro p e s m args below meth c A ls hsz E hr hlk hnm B hl
  have hl : lv_has ls 3 [(0, .ref (ad 0)), (1, .int p0), (2, .int p1)] := hl
  refine lv_iload_n E.1.1 E.1.2.1 dX11_tapeHas_0 rfl (lv_at hl 1 rfl) ?_
  refine lv_iconst (v := 1) E.1.1 E.1.2.1 dX11_tapeHas_1 (by decide) ?_
  refine c_lt (tgt := 22) E rfl tI_1 dX11_tapeHas_2 (by decide) (fun c_1 => ?_) (fun c_1 => ?_)
  · skip
    refine lv_iconst (v := 0) E.1.1 E.1.2.1 dX11_tapeHas_22 (by decide) ?_
    have r_2 : (0 : Int32).toInt = 0 := tI_0
    exact ret_I (u := ()) E hr hlk (narrow_z (by omega)) B (by omega) dX11_tapeHas_23
  · skip
    refine lv_iload_n E.1.1 E.1.2.1 dX11_tapeHas_5 rfl (lv_at hl 1 rfl) ?_
    refine lv_iload_n E.1.1 E.1.2.1 dX11_tapeHas_6 rfl (lv_at hl 2 rfl) ?_
    refine c_gt (tgt := 22) E rfl rfl dX11_tapeHas_7 (by decide) (fun c_3 => ?_) (fun c_3 => ?_)
    · skip
      refine lv_iconst (v := 0) E.1.1 E.1.2.1 dX11_tapeHas_22 (by decide) ?_
      have r_4 : (0 : Int32).toInt = 0 := tI_0
      exact ret_I (u := ()) E hr hlk (narrow_z (by omega)) B (by omega) dX11_tapeHas_23
    · skip
      refine lv_iload_n E.1.1 E.1.2.1 dX11_tapeHas_10 rfl (lv_at hl 1 rfl) ?_
      refine lv_aload_n E.1.1 E.1.2.1 dX11_tapeHas_11 rfl (lv_at hl 0 rfl) ?_
      refine row_get (v := .int (iv 0)) E B iX11 rfl 12 (by decide) mw_397 0 rfl rfl dX11_tapeHas_12 ?_
      refine c_gt (tgt := 22) E rfl h0 dX11_tapeHas_15 (by decide) (fun c_5 => ?_) (fun c_5 => ?_)
      · skip
        refine lv_iconst (v := 0) E.1.1 E.1.2.1 dX11_tapeHas_22 (by decide) ?_
        have r_6 : (0 : Int32).toInt = 0 := tI_0
        exact ret_I (u := ()) E hr hlk (narrow_z (by omega)) B (by omega) dX11_tapeHas_23
      · exfalso; omega
set_option maxHeartbeats 4000000 in
set_option maxRecDepth 100000 in
theorem x_9_has (l : Launch) (D : va_G) (ct : Nat → ClassId) (tN : Nat) (ad : Nat → Nat) (iv : Nat → Int32) (ia : Nat → Nat → Int32) (la : Nat → Nat → Int64) (pt : Nat → Option Nat) (ra : Nat → Nat → Option Nat) (R : va_W) (p0 : Int32) (h3 : (iv 3).toInt = 0) : MI l D (TY ct) tN yX9_has cX9_has 2 (some .boolean) ({ frames := 0, cells := 0, slots := 0, locals := 0 } : Room) [.ref (ad 6), .int p0] (XW ct ad iv ia la pt ra R) (fun (v : Int32) (u : Unit) => v.toInt = 0) (fun _ => XW ct ad iv ia la pt ra R) 0 0 := by
  intro sz
  refine Met.ofE (Qc := fun A => va_Qi (fun (v : Int32) (u : Unit) => v.toInt = 0) (BW D A (fun _ => XW ct ad iv ia la pt ra R)) A) (by decide) (Nat.le_of_ble_eq_true rfl) ?_
  intro p e s m args below meth c A ls hsz E hr hlk hnm B hl
  have hl : lv_has ls 2 [(0, .ref (ad 6)), (1, .int p0)] := hl
  refine lv_iload_n E.1.1 E.1.2.1 dX9_has_0 rfl (lv_at hl 1 rfl) ?_
  refine b_lt (tgt := 16) E rfl dX9_has_1 (by decide) (fun c_1 => ?_) (fun c_1 => ?_)
  · skip
    refine lv_iconst (v := 0) E.1.1 E.1.2.1 dX9_has_16 (by decide) ?_
    have r_2 : (0 : Int32).toInt = 0 := tI_0
    exact ret_I (u := ()) E hr hlk (narrow_z (by omega)) B (by omega) dX9_has_17
  · skip
    refine lv_iload_n E.1.1 E.1.2.1 dX9_has_4 rfl (lv_at hl 1 rfl) ?_
    refine lv_aload_n E.1.1 E.1.2.1 dX9_has_5 rfl (lv_at hl 0 rfl) ?_
    refine row_get (v := .int (iv 3)) E B iX9 rfl 5 (by decide) mw_55 6 rfl rfl dX9_has_6 ?_
    refine c_ge (tgt := 16) E rfl h3 dX9_has_9 (by decide) (fun c_3 => ?_) (fun c_3 => ?_)
    · skip
      refine lv_iconst (v := 0) E.1.1 E.1.2.1 dX9_has_16 (by decide) ?_
      have r_4 : (0 : Int32).toInt = 0 := tI_0
      exact ret_I (u := ()) E hr hlk (narrow_z (by omega)) B (by omega) dX9_has_17
    · exfalso; omega
set_option maxHeartbeats 4000000 in
set_option maxRecDepth 100000 in
theorem x_9_size (l : Launch) (D : va_G) (ct : Nat → ClassId) (tN : Nat) (ad : Nat → Nat) (iv : Nat → Int32) (ia : Nat → Nat → Int32) (la : Nat → Nat → Int64) (pt : Nat → Option Nat) (ra : Nat → Nat → Option Nat) (R : va_W)  (h3 : (iv 3).toInt = 0) : MI l D (TY ct) tN yX9_size cX9_size 1 (some .int) ({ frames := 0, cells := 0, slots := 0, locals := 0 } : Room) [.ref (ad 6)] (XW ct ad iv ia la pt ra R) (fun (v : Int32) (u : Unit) => v.toInt = 0) (fun _ => XW ct ad iv ia la pt ra R) 0 0 := by
  intro sz
  refine Met.ofE (Qc := fun A => va_Qi (fun (v : Int32) (u : Unit) => v.toInt = 0) (BW D A (fun _ => XW ct ad iv ia la pt ra R)) A) (by decide) (Nat.le_of_ble_eq_true rfl) ?_
  intro p e s m args below meth c A ls hsz E hr hlk hnm B hl
  have hl : lv_has ls 1 [(0, .ref (ad 6))] := hl
  refine lv_aload_n E.1.1 E.1.2.1 dX9_size_0 rfl (lv_at hl 0 rfl) ?_
  refine row_get (v := .int (iv 3)) E B iX9 rfl 5 (by decide) mw_55 6 rfl rfl dX9_size_1 ?_
  have r_1 : (iv 3).toInt = 0 := h3
  exact ret_I (u := ()) E hr hlk rfl B (by omega) dX9_size_4
set_option maxHeartbeats 4000000 in
set_option maxRecDepth 100000 in
theorem x_9_enter (l : Launch) (D : va_G) (ct : Nat → ClassId) (tN : Nat) (ad : Nat → Nat) (iv : Nat → Int32) (ia : Nat → Nat → Int32) (la : Nat → Nat → Int64) (pt : Nat → Option Nat) (ra : Nat → Nat → Option Nat) (R : va_W) (p0 : Int32) (p1 : Int32) (h3 : (iv 3).toInt = 0) : MI l D (TY ct) tN yX9_enter cX9_enter 3 (some .int) ({ frames := 0, cells := 0, slots := 0, locals := 0 } : Room) [.ref (ad 6), .int p0, .int p1] (XW ct ad iv ia la pt ra R) (fun (v : Int32) (u : va_W) => v.toInt = 0) (fun u => u) 0 0 := by
  intro sz
  refine Met.ofE (Qc := fun A => va_Qi (fun (v : Int32) (u : va_W) => v.toInt = 0) (BW D A (fun u => u)) A) (by decide) (Nat.le_of_ble_eq_true rfl) ?_
  intro p e s m args below meth c A ls hsz E hr hlk hnm B hl
  have hl : lv_has ls 3 [(0, .ref (ad 6)), (1, .int p0), (2, .int p1)] := hl
  refine lv_aload_n E.1.1 E.1.2.1 dX9_enter_0 rfl (lv_at hl 0 rfl) ?_
  refine row_get (v := .int (iv 3)) E B iX9 rfl 5 (by decide) mw_55 6 rfl rfl dX9_enter_1 ?_
  refine lv_bipush (v := 60) E.1.1 E.1.2.1 dX9_enter_4 (by decide) ?_
  refine c_lt (tgt := 11) E h3 tI_60 dX9_enter_6 (by decide) (fun c_1 => ?_) (fun c_1 => ?_)
  · skip
    refine lv_aload_n E.1.1 E.1.2.1 dX9_enter_11 rfl (lv_at hl 0 rfl) ?_
    refine row_get (v := .ref (ad 7)) E B iX9 rfl 0 (by decide) mw_50 6 rfl rfl dX9_enter_12 ?_
    refine lv_aload_n E.1.1 E.1.2.1 dX9_enter_15 rfl (lv_at hl 0 rfl) ?_
    refine row_get (v := .int (iv 3)) E B iX9 rfl 5 (by decide) mw_55 6 rfl rfl dX9_enter_16 ?_
    refine lv_iload_n E.1.1 E.1.2.1 dX9_enter_19 rfl (lv_at hl 1 rfl) ?_
    refine row_iast E B 7 rfl (vp_of h3 (by omega) (by omega)) dX9_enter_20 (fun H locs B => ?_)
    have B := Hp.eq (sx_ia_7 ct ad iv ia la pt ra R (upd (ia 7) (iv 3).toNatClampNeg p0)) B
    generalize va_up ia 7 (upd (ia 7) (iv 3).toNatClampNeg p0) = ia_2 at B 
    refine at_pc (n := 21) rfl ?_
    refine lv_aload_n E.1.1 E.1.2.1 dX9_enter_21 rfl (lv_at hl 0 rfl) ?_
    refine row_get (v := .ref (ad 8)) E B iX9 rfl 1 (by decide) mw_51 6 rfl rfl dX9_enter_22 ?_
    refine lv_aload_n E.1.1 E.1.2.1 dX9_enter_25 rfl (lv_at hl 0 rfl) ?_
    refine row_get (v := .int (iv 3)) E B iX9 rfl 5 (by decide) mw_55 6 rfl rfl dX9_enter_26 ?_
    refine lv_iload_n E.1.1 E.1.2.1 dX9_enter_29 rfl (lv_at hl 2 rfl) ?_
    refine row_iast E B 8 rfl (vp_of h3 (by omega) (by omega)) dX9_enter_30 (fun H locs B => ?_)
    have B := Hp.eq (sx_ia_8 ct ad iv ia_2 la pt ra R (upd (ia_2 8) (iv 3).toNatClampNeg p1)) B
    generalize va_up ia_2 8 (upd (ia_2 8) (iv 3).toNatClampNeg p1) = ia_3 at B 
    refine at_pc (n := 31) rfl ?_
    refine lv_aload_n E.1.1 E.1.2.1 dX9_enter_31 rfl (lv_at hl 0 rfl) ?_
    refine lv_dup E.1.1 E.1.2.1 dX9_enter_32 rfl ?_
    refine row_get (v := .int (iv 3)) E B iX9 rfl 5 (by decide) mw_55 6 rfl rfl dX9_enter_33 ?_
    refine lv_iconst (v := 1) E.1.1 E.1.2.1 dX9_enter_36 (by decide) ?_
    refine i_add E h3 tI_1 (by omega) (by omega) dX9_enter_37 (fun z_4 ez_4 => ?_)
    have ez_4 : z_4.toInt = 1 := by omega
    refine row_put E B iX9 rfl tyX9 tyX9_ok nmX9 5 (by decide) mw_55 rfl 6 rfl rfl rfl (Nat.le_of_ble_eq_true rfl) dX9_enter_38 (fun H locs B => ?_)
    have B := Hp.eq (sx_iv_3 ct ad iv ia_3 la pt ra R z_4) B
    have h_6 : ((va_up iv 3 z_4) 3).toInt = 1 := ez_4
    generalize va_up iv 3 z_4 = iv_5 at B h_6
    refine at_pc (n := 41) rfl ?_
    refine lv_aload_n E.1.1 E.1.2.1 dX9_enter_41 rfl (lv_at hl 0 rfl) ?_
    refine row_get (v := .int (iv_5 3)) E B iX9 rfl 5 (by decide) mw_55 6 rfl rfl dX9_enter_42 ?_
    refine lv_iconst (v := 1) E.1.1 E.1.2.1 dX9_enter_45 (by decide) ?_
    refine i_sub E h_6 tI_1 (by omega) (by omega) dX9_enter_46 (fun z_7 ez_7 => ?_)
    have ez_7 : z_7.toInt = 0 := by omega
    have r_8 : z_7.toInt = 0 := ez_7
    exact ret_I (u := _) E hr hlk rfl B (by omega) dX9_enter_47
  · exfalso; omega
set_option maxHeartbeats 4000000 in
set_option maxRecDepth 100000 in
theorem x_10_has (l : Launch) (D : va_G) (ct : Nat → ClassId) (tN : Nat) (ad : Nat → Nat) (iv : Nat → Int32) (ia : Nat → Nat → Int32) (la : Nat → Nat → Int64) (pt : Nat → Option Nat) (ra : Nat → Nat → Option Nat) (R : va_W) (p0 : Int32) (h2 : (iv 2).toInt = 0) : MI l D (TY ct) tN yX10_has cX10_has 2 (some .boolean) ({ frames := 0, cells := 0, slots := 0, locals := 0 } : Room) [.ref (ad 3), .int p0] (XW ct ad iv ia la pt ra R) (fun (v : Int32) (u : Unit) => v.toInt = 0) (fun _ => XW ct ad iv ia la pt ra R) 0 0 := by
  intro sz
  refine Met.ofE (Qc := fun A => va_Qi (fun (v : Int32) (u : Unit) => v.toInt = 0) (BW D A (fun _ => XW ct ad iv ia la pt ra R)) A) (by decide) (Nat.le_of_ble_eq_true rfl) ?_
  intro p e s m args below meth c A ls hsz E hr hlk hnm B hl
  have hl : lv_has ls 2 [(0, .ref (ad 3)), (1, .int p0)] := hl
  refine lv_iload_n E.1.1 E.1.2.1 dX10_has_0 rfl (lv_at hl 1 rfl) ?_
  refine b_lt (tgt := 16) E rfl dX10_has_1 (by decide) (fun c_1 => ?_) (fun c_1 => ?_)
  · skip
    refine lv_iconst (v := 0) E.1.1 E.1.2.1 dX10_has_16 (by decide) ?_
    have r_2 : (0 : Int32).toInt = 0 := tI_0
    exact ret_I (u := ()) E hr hlk (narrow_z (by omega)) B (by omega) dX10_has_17
  · skip
    refine lv_iload_n E.1.1 E.1.2.1 dX10_has_4 rfl (lv_at hl 1 rfl) ?_
    refine lv_aload_n E.1.1 E.1.2.1 dX10_has_5 rfl (lv_at hl 0 rfl) ?_
    refine row_get (v := .int (iv 2)) E B iX10 rfl 2 (by decide) mw_32 3 rfl rfl dX10_has_6 ?_
    refine c_ge (tgt := 16) E rfl h2 dX10_has_9 (by decide) (fun c_3 => ?_) (fun c_3 => ?_)
    · skip
      refine lv_iconst (v := 0) E.1.1 E.1.2.1 dX10_has_16 (by decide) ?_
      have r_4 : (0 : Int32).toInt = 0 := tI_0
      exact ret_I (u := ()) E hr hlk (narrow_z (by omega)) B (by omega) dX10_has_17
    · exfalso; omega
set_option maxHeartbeats 4000000 in
set_option maxRecDepth 100000 in
theorem x_10_size (l : Launch) (D : va_G) (ct : Nat → ClassId) (tN : Nat) (ad : Nat → Nat) (iv : Nat → Int32) (ia : Nat → Nat → Int32) (la : Nat → Nat → Int64) (pt : Nat → Option Nat) (ra : Nat → Nat → Option Nat) (R : va_W)  (h2 : (iv 2).toInt = 0) : MI l D (TY ct) tN yX10_size cX10_size 1 (some .int) ({ frames := 0, cells := 0, slots := 0, locals := 0 } : Room) [.ref (ad 3)] (XW ct ad iv ia la pt ra R) (fun (v : Int32) (u : Unit) => v.toInt = 0) (fun _ => XW ct ad iv ia la pt ra R) 0 0 := by
  intro sz
  refine Met.ofE (Qc := fun A => va_Qi (fun (v : Int32) (u : Unit) => v.toInt = 0) (BW D A (fun _ => XW ct ad iv ia la pt ra R)) A) (by decide) (Nat.le_of_ble_eq_true rfl) ?_
  intro p e s m args below meth c A ls hsz E hr hlk hnm B hl
  have hl : lv_has ls 1 [(0, .ref (ad 3))] := hl
  refine lv_aload_n E.1.1 E.1.2.1 dX10_size_0 rfl (lv_at hl 0 rfl) ?_
  refine row_get (v := .int (iv 2)) E B iX10 rfl 2 (by decide) mw_32 3 rfl rfl dX10_size_1 ?_
  have r_1 : (iv 2).toInt = 0 := h2
  exact ret_I (u := ()) E hr hlk rfl B (by omega) dX10_size_4
set_option maxHeartbeats 4000000 in
set_option maxRecDepth 100000 in
theorem x_4_enterCompany (l : Launch) (D : va_G) (ct : Nat → ClassId) (tN : Nat) (ad : Nat → Nat) (iv : Nat → Int32) (ia : Nat → Nat → Int32) (la : Nat → Nat → Int64) (pt : Nat → Option Nat) (ra : Nat → Nat → Option Nat) (R : va_W) (p0 : Int32) (p1 : Int32) (h6 : (iv 6).toInt = 0) : MI l D (TY ct) tN yX4_enterCompany cX4_enterCompany 3 (some .int) ({ frames := 0, cells := 0, slots := 0, locals := 0 } : Room) [.ref (ad 12), .int p0, .int p1] (XW ct ad iv ia la pt ra R) (fun (v : Int32) (u : va_W) => v.toInt = 0) (fun u => u) 0 0 := by
  intro sz
  refine Met.ofE (Qc := fun A => va_Qi (fun (v : Int32) (u : va_W) => v.toInt = 0) (BW D A (fun u => u)) A) (by decide) (Nat.le_of_ble_eq_true rfl) ?_
  intro p e s m args below meth c A ls hsz E hr hlk hnm B hl
  have hl : lv_has ls 3 [(0, .ref (ad 12)), (1, .int p0), (2, .int p1)] := hl
  refine lv_aload_n E.1.1 E.1.2.1 dX4_enterCompany_0 rfl (lv_at hl 0 rfl) ?_
  refine row_get (v := .int (iv 6)) E B iX4 rfl 5 (by decide) mw_80 12 rfl rfl dX4_enterCompany_1 ?_
  refine lv_bipush (v := 6) E.1.1 E.1.2.1 dX4_enterCompany_4 (by decide) ?_
  refine c_lt (tgt := 11) E h6 tI_6 dX4_enterCompany_6 (by decide) (fun c_1 => ?_) (fun c_1 => ?_)
  · skip
    refine lv_aload_n E.1.1 E.1.2.1 dX4_enterCompany_11 rfl (lv_at hl 0 rfl) ?_
    refine row_get (v := .ref (ad 13)) E B iX4 rfl 0 (by decide) mw_75 12 rfl rfl dX4_enterCompany_12 ?_
    refine lv_aload_n E.1.1 E.1.2.1 dX4_enterCompany_15 rfl (lv_at hl 0 rfl) ?_
    refine row_get (v := .int (iv 6)) E B iX4 rfl 5 (by decide) mw_80 12 rfl rfl dX4_enterCompany_16 ?_
    refine lv_iload_n E.1.1 E.1.2.1 dX4_enterCompany_19 rfl (lv_at hl 1 rfl) ?_
    refine row_iast E B 13 rfl (vp_of h6 (by omega) (by omega)) dX4_enterCompany_20 (fun H locs B => ?_)
    have B := Hp.eq (sx_ia_13 ct ad iv ia la pt ra R (upd (ia 13) (iv 6).toNatClampNeg p0)) B
    generalize va_up ia 13 (upd (ia 13) (iv 6).toNatClampNeg p0) = ia_2 at B 
    refine at_pc (n := 21) rfl ?_
    refine lv_aload_n E.1.1 E.1.2.1 dX4_enterCompany_21 rfl (lv_at hl 0 rfl) ?_
    refine row_get (v := .ref (ad 14)) E B iX4 rfl 1 (by decide) mw_76 12 rfl rfl dX4_enterCompany_22 ?_
    refine lv_aload_n E.1.1 E.1.2.1 dX4_enterCompany_25 rfl (lv_at hl 0 rfl) ?_
    refine row_get (v := .int (iv 6)) E B iX4 rfl 5 (by decide) mw_80 12 rfl rfl dX4_enterCompany_26 ?_
    refine lv_iload_n E.1.1 E.1.2.1 dX4_enterCompany_29 rfl (lv_at hl 2 rfl) ?_
    refine row_iast E B 14 rfl (vp_of h6 (by omega) (by omega)) dX4_enterCompany_30 (fun H locs B => ?_)
    have B := Hp.eq (sx_ia_14 ct ad iv ia_2 la pt ra R (upd (ia_2 14) (iv 6).toNatClampNeg p1)) B
    generalize va_up ia_2 14 (upd (ia_2 14) (iv 6).toNatClampNeg p1) = ia_3 at B 
    refine at_pc (n := 31) rfl ?_
    refine lv_aload_n E.1.1 E.1.2.1 dX4_enterCompany_31 rfl (lv_at hl 0 rfl) ?_
    refine lv_dup E.1.1 E.1.2.1 dX4_enterCompany_32 rfl ?_
    refine row_get (v := .int (iv 6)) E B iX4 rfl 5 (by decide) mw_80 12 rfl rfl dX4_enterCompany_33 ?_
    refine lv_iconst (v := 1) E.1.1 E.1.2.1 dX4_enterCompany_36 (by decide) ?_
    refine i_add E h6 tI_1 (by omega) (by omega) dX4_enterCompany_37 (fun z_4 ez_4 => ?_)
    have ez_4 : z_4.toInt = 1 := by omega
    refine row_put E B iX4 rfl tyX4 tyX4_ok nmX4 5 (by decide) mw_80 rfl 12 rfl rfl rfl (Nat.le_of_ble_eq_true rfl) dX4_enterCompany_38 (fun H locs B => ?_)
    have B := Hp.eq (sx_iv_6 ct ad iv ia_3 la pt ra R z_4) B
    have h_6 : ((va_up iv 6 z_4) 6).toInt = 1 := ez_4
    generalize va_up iv 6 z_4 = iv_5 at B h_6
    refine at_pc (n := 41) rfl ?_
    refine lv_aload_n E.1.1 E.1.2.1 dX4_enterCompany_41 rfl (lv_at hl 0 rfl) ?_
    refine row_get (v := .int (iv_5 6)) E B iX4 rfl 5 (by decide) mw_80 12 rfl rfl dX4_enterCompany_42 ?_
    refine lv_iconst (v := 1) E.1.1 E.1.2.1 dX4_enterCompany_45 (by decide) ?_
    refine i_sub E h_6 tI_1 (by omega) (by omega) dX4_enterCompany_46 (fun z_7 ez_7 => ?_)
    have ez_7 : z_7.toInt = 0 := by omega
    have r_8 : z_7.toInt = 0 := ez_7
    exact ret_I (u := _) E hr hlk rfl B (by omega) dX4_enterCompany_47
  · exfalso; omega
set_option maxHeartbeats 4000000 in
set_option maxRecDepth 100000 in
theorem x_4_setCentreRate (l : Launch) (D : va_G) (ct : Nat → ClassId) (tN : Nat) (ad : Nat → Nat) (iv : Nat → Int32) (ia : Nat → Nat → Int32) (la : Nat → Nat → Int64) (pt : Nat → Option Nat) (ra : Nat → Nat → Option Nat) (R : va_W) (p0 : Int32)  : MV l D (TY ct) tN yX4_setCentreRate cX4_setCentreRate 2 ({ frames := 0, cells := 0, slots := 0, locals := 0 } : Room) [.ref (ad 12), .int p0] (XW ct ad iv ia la pt ra R) (fun (u : va_W) => True) (fun u => u) 0 0 := by
  intro sz
  refine Met.ofE (Qc := fun A => va_Qv (fun (u : va_W) => True) (BW D A (fun u => u)) A) (by decide) (Nat.le_of_ble_eq_true rfl) ?_
  intro p e s m args below meth c A ls hsz E hr hlk hnm B hl
  have hl : lv_has ls 2 [(0, .ref (ad 12)), (1, .int p0)] := hl
  refine lv_aload_n E.1.1 E.1.2.1 dX4_setCentreRate_0 rfl (lv_at hl 0 rfl) ?_
  refine lv_iload_n E.1.1 E.1.2.1 dX4_setCentreRate_1 rfl (lv_at hl 1 rfl) ?_
  refine row_put E B iX4 rfl tyX4 tyX4_ok nmX4 4 (by decide) mw_79 rfl 12 rfl rfl rfl (Nat.le_of_ble_eq_true rfl) dX4_setCentreRate_2 (fun H locs B => ?_)
  have B := Hp.eq (sx_iv_5 ct ad iv ia la pt ra R p0) B
  have h_2 : ((va_up iv 5 p0) 5).toInt = p0.toInt := rfl
  generalize va_up iv 5 p0 = iv_1 at B h_2
  exact ret_V (u := _) E hr hlk B trivial dX4_setCentreRate_5
set_option maxHeartbeats 4000000 in
set_option maxRecDepth 100000 in
theorem x_4_hasCompany (l : Launch) (D : va_G) (ct : Nat → ClassId) (tN : Nat) (ad : Nat → Nat) (iv : Nat → Int32) (ia : Nat → Nat → Int32) (la : Nat → Nat → Int64) (pt : Nat → Option Nat) (ra : Nat → Nat → Option Nat) (R : va_W) (p0 : Int32) (h6 : (iv 6).toInt = 0) : MI l D (TY ct) tN yX4_hasCompany cX4_hasCompany 2 (some .boolean) ({ frames := 0, cells := 0, slots := 0, locals := 0 } : Room) [.ref (ad 12), .int p0] (XW ct ad iv ia la pt ra R) (fun (v : Int32) (u : Unit) => v.toInt = 0) (fun _ => XW ct ad iv ia la pt ra R) 0 0 := by
  intro sz
  refine Met.ofE (Qc := fun A => va_Qi (fun (v : Int32) (u : Unit) => v.toInt = 0) (BW D A (fun _ => XW ct ad iv ia la pt ra R)) A) (by decide) (Nat.le_of_ble_eq_true rfl) ?_
  intro p e s m args below meth c A ls hsz E hr hlk hnm B hl
  have hl : lv_has ls 2 [(0, .ref (ad 12)), (1, .int p0)] := hl
  refine lv_iload_n E.1.1 E.1.2.1 dX4_hasCompany_0 rfl (lv_at hl 1 rfl) ?_
  refine b_lt (tgt := 16) E rfl dX4_hasCompany_1 (by decide) (fun c_1 => ?_) (fun c_1 => ?_)
  · skip
    refine lv_iconst (v := 0) E.1.1 E.1.2.1 dX4_hasCompany_16 (by decide) ?_
    have r_2 : (0 : Int32).toInt = 0 := tI_0
    exact ret_I (u := ()) E hr hlk (narrow_z (by omega)) B (by omega) dX4_hasCompany_17
  · skip
    refine lv_iload_n E.1.1 E.1.2.1 dX4_hasCompany_4 rfl (lv_at hl 1 rfl) ?_
    refine lv_aload_n E.1.1 E.1.2.1 dX4_hasCompany_5 rfl (lv_at hl 0 rfl) ?_
    refine row_get (v := .int (iv 6)) E B iX4 rfl 5 (by decide) mw_80 12 rfl rfl dX4_hasCompany_6 ?_
    refine c_ge (tgt := 16) E rfl h6 dX4_hasCompany_9 (by decide) (fun c_3 => ?_) (fun c_3 => ?_)
    · skip
      refine lv_iconst (v := 0) E.1.1 E.1.2.1 dX4_hasCompany_16 (by decide) ?_
      have r_4 : (0 : Int32).toInt = 0 := tI_0
      exact ret_I (u := ()) E hr hlk (narrow_z (by omega)) B (by omega) dX4_hasCompany_17
    · exfalso; omega
set_option maxHeartbeats 4000000 in
set_option maxRecDepth 100000 in
theorem x_4_hasScholar (l : Launch) (D : va_G) (ct : Nat → ClassId) (tN : Nat) (ad : Nat → Nat) (iv : Nat → Int32) (ia : Nat → Nat → Int32) (la : Nat → Nat → Int64) (pt : Nat → Option Nat) (ra : Nat → Nat → Option Nat) (R : va_W) (p0 : Int32) (h7 : (iv 7).toInt = 0) : MI l D (TY ct) tN yX4_hasScholar cX4_hasScholar 2 (some .boolean) ({ frames := 0, cells := 0, slots := 0, locals := 0 } : Room) [.ref (ad 12), .int p0] (XW ct ad iv ia la pt ra R) (fun (v : Int32) (u : Unit) => v.toInt = 0) (fun _ => XW ct ad iv ia la pt ra R) 0 0 := by
  intro sz
  refine Met.ofE (Qc := fun A => va_Qi (fun (v : Int32) (u : Unit) => v.toInt = 0) (BW D A (fun _ => XW ct ad iv ia la pt ra R)) A) (by decide) (Nat.le_of_ble_eq_true rfl) ?_
  intro p e s m args below meth c A ls hsz E hr hlk hnm B hl
  have hl : lv_has ls 2 [(0, .ref (ad 12)), (1, .int p0)] := hl
  refine lv_iload_n E.1.1 E.1.2.1 dX4_hasScholar_0 rfl (lv_at hl 1 rfl) ?_
  refine b_lt (tgt := 16) E rfl dX4_hasScholar_1 (by decide) (fun c_1 => ?_) (fun c_1 => ?_)
  · skip
    refine lv_iconst (v := 0) E.1.1 E.1.2.1 dX4_hasScholar_16 (by decide) ?_
    have r_2 : (0 : Int32).toInt = 0 := tI_0
    exact ret_I (u := ()) E hr hlk (narrow_z (by omega)) B (by omega) dX4_hasScholar_17
  · skip
    refine lv_iload_n E.1.1 E.1.2.1 dX4_hasScholar_4 rfl (lv_at hl 1 rfl) ?_
    refine lv_aload_n E.1.1 E.1.2.1 dX4_hasScholar_5 rfl (lv_at hl 0 rfl) ?_
    refine row_get (v := .int (iv 7)) E B iX4 rfl 6 (by decide) mw_81 12 rfl rfl dX4_hasScholar_6 ?_
    refine c_ge (tgt := 16) E rfl h7 dX4_hasScholar_9 (by decide) (fun c_3 => ?_) (fun c_3 => ?_)
    · skip
      refine lv_iconst (v := 0) E.1.1 E.1.2.1 dX4_hasScholar_16 (by decide) ?_
      have r_4 : (0 : Int32).toInt = 0 := tI_0
      exact ret_I (u := ()) E hr hlk (narrow_z (by omega)) B (by omega) dX4_hasScholar_17
    · exfalso; omega
set_option maxHeartbeats 4000000 in
set_option maxRecDepth 100000 in
theorem x_4_companies (l : Launch) (D : va_G) (ct : Nat → ClassId) (tN : Nat) (ad : Nat → Nat) (iv : Nat → Int32) (ia : Nat → Nat → Int32) (la : Nat → Nat → Int64) (pt : Nat → Option Nat) (ra : Nat → Nat → Option Nat) (R : va_W)  (h6 : (iv 6).toInt = 0) : MI l D (TY ct) tN yX4_companies cX4_companies 1 (some .int) ({ frames := 0, cells := 0, slots := 0, locals := 0 } : Room) [.ref (ad 12)] (XW ct ad iv ia la pt ra R) (fun (v : Int32) (u : Unit) => v.toInt = 0) (fun _ => XW ct ad iv ia la pt ra R) 0 0 := by
  intro sz
  refine Met.ofE (Qc := fun A => va_Qi (fun (v : Int32) (u : Unit) => v.toInt = 0) (BW D A (fun _ => XW ct ad iv ia la pt ra R)) A) (by decide) (Nat.le_of_ble_eq_true rfl) ?_
  intro p e s m args below meth c A ls hsz E hr hlk hnm B hl
  have hl : lv_has ls 1 [(0, .ref (ad 12))] := hl
  refine lv_aload_n E.1.1 E.1.2.1 dX4_companies_0 rfl (lv_at hl 0 rfl) ?_
  refine row_get (v := .int (iv 6)) E B iX4 rfl 5 (by decide) mw_80 12 rfl rfl dX4_companies_1 ?_
  have r_1 : (iv 6).toInt = 0 := h6
  exact ret_I (u := ()) E hr hlk rfl B (by omega) dX4_companies_4
set_option maxHeartbeats 4000000 in
set_option maxRecDepth 100000 in
theorem x_4_scholars (l : Launch) (D : va_G) (ct : Nat → ClassId) (tN : Nat) (ad : Nat → Nat) (iv : Nat → Int32) (ia : Nat → Nat → Int32) (la : Nat → Nat → Int64) (pt : Nat → Option Nat) (ra : Nat → Nat → Option Nat) (R : va_W)  (h7 : (iv 7).toInt = 0) : MI l D (TY ct) tN yX4_scholars cX4_scholars 1 (some .int) ({ frames := 0, cells := 0, slots := 0, locals := 0 } : Room) [.ref (ad 12)] (XW ct ad iv ia la pt ra R) (fun (v : Int32) (u : Unit) => v.toInt = 0) (fun _ => XW ct ad iv ia la pt ra R) 0 0 := by
  intro sz
  refine Met.ofE (Qc := fun A => va_Qi (fun (v : Int32) (u : Unit) => v.toInt = 0) (BW D A (fun _ => XW ct ad iv ia la pt ra R)) A) (by decide) (Nat.le_of_ble_eq_true rfl) ?_
  intro p e s m args below meth c A ls hsz E hr hlk hnm B hl
  have hl : lv_has ls 1 [(0, .ref (ad 12))] := hl
  refine lv_aload_n E.1.1 E.1.2.1 dX4_scholars_0 rfl (lv_at hl 0 rfl) ?_
  refine row_get (v := .int (iv 7)) E B iX4 rfl 6 (by decide) mw_81 12 rfl rfl dX4_scholars_1 ?_
  have r_1 : (iv 7).toInt = 0 := h7
  exact ret_I (u := ()) E hr hlk rfl B (by omega) dX4_scholars_4
set_option maxHeartbeats 4000000 in
set_option maxRecDepth 100000 in
theorem x_2_isFull (l : Launch) (D : va_G) (ct : Nat → ClassId) (tN : Nat) (ad : Nat → Nat) (iv : Nat → Int32) (ia : Nat → Nat → Int32) (la : Nat → Nat → Int64) (pt : Nat → Option Nat) (ra : Nat → Nat → Option Nat) (R : va_W)  (h9 : (iv 9).toInt = 0) : MI l D (TY ct) tN yX2_isFull cX2_isFull 1 (some .boolean) ({ frames := 0, cells := 0, slots := 0, locals := 0 } : Room) [.ref (ad 16)] (XW ct ad iv ia la pt ra R) (fun (v : Int32) (u : Unit) => v.toInt = 0) (fun _ => XW ct ad iv ia la pt ra R) 0 0 := by
  intro sz
  refine Met.ofE (Qc := fun A => va_Qi (fun (v : Int32) (u : Unit) => v.toInt = 0) (BW D A (fun _ => XW ct ad iv ia la pt ra R)) A) (by decide) (Nat.le_of_ble_eq_true rfl) ?_
  intro p e s m args below meth c A ls hsz E hr hlk hnm B hl
  have hl : lv_has ls 1 [(0, .ref (ad 16))] := hl
  refine lv_aload_n E.1.1 E.1.2.1 dX2_isFull_0 rfl (lv_at hl 0 rfl) ?_
  refine row_get (v := .int (iv 9)) E B iX2 rfl 10 (by decide) mw_117 16 rfl rfl dX2_isFull_1 ?_
  refine lv_bipush (v := 20) E.1.1 E.1.2.1 dX2_isFull_4 (by decide) ?_
  refine c_lt (tgt := 13) E h9 tI_20 dX2_isFull_6 (by decide) (fun c_1 => ?_) (fun c_1 => ?_)
  · skip
    refine lv_iconst (v := 0) E.1.1 E.1.2.1 dX2_isFull_13 (by decide) ?_
    have r_2 : (0 : Int32).toInt = 0 := tI_0
    exact ret_I (u := ()) E hr hlk (narrow_z (by omega)) B (by omega) dX2_isFull_14
  · exfalso; omega
set_option maxHeartbeats 4000000 in
set_option maxRecDepth 100000 in
theorem x_2_size (l : Launch) (D : va_G) (ct : Nat → ClassId) (tN : Nat) (ad : Nat → Nat) (iv : Nat → Int32) (ia : Nat → Nat → Int32) (la : Nat → Nat → Int64) (pt : Nat → Option Nat) (ra : Nat → Nat → Option Nat) (R : va_W)  (h9 : (iv 9).toInt = 0) : MI l D (TY ct) tN yX2_size cX2_size 1 (some .int) ({ frames := 0, cells := 0, slots := 0, locals := 0 } : Room) [.ref (ad 16)] (XW ct ad iv ia la pt ra R) (fun (v : Int32) (u : Unit) => v.toInt = 0) (fun _ => XW ct ad iv ia la pt ra R) 0 0 := by
  intro sz
  refine Met.ofE (Qc := fun A => va_Qi (fun (v : Int32) (u : Unit) => v.toInt = 0) (BW D A (fun _ => XW ct ad iv ia la pt ra R)) A) (by decide) (Nat.le_of_ble_eq_true rfl) ?_
  intro p e s m args below meth c A ls hsz E hr hlk hnm B hl
  have hl : lv_has ls 1 [(0, .ref (ad 16))] := hl
  refine lv_aload_n E.1.1 E.1.2.1 dX2_size_0 rfl (lv_at hl 0 rfl) ?_
  refine row_get (v := .int (iv 9)) E B iX2 rfl 10 (by decide) mw_117 16 rfl rfl dX2_size_1 ?_
  have r_1 : (iv 9).toInt = 0 := h9
  exact ret_I (u := ()) E hr hlk rfl B (by omega) dX2_size_4
set_option maxHeartbeats 4000000 in
set_option maxRecDepth 100000 in
theorem x_2_clausesOf (l : Launch) (D : va_G) (ct : Nat → ClassId) (tN : Nat) (ad : Nat → Nat) (iv : Nat → Int32) (ia : Nat → Nat → Int32) (la : Nat → Nat → Int64) (pt : Nat → Option Nat) (ra : Nat → Nat → Option Nat) (R : va_W) (p0 : Int32) (h9 : (iv 9).toInt = 0) : MI l D (TY ct) tN yX2_clausesOf cX2_clausesOf 2 (some .int) ({ frames := 0, cells := 0, slots := 0, locals := 0 } : Room) [.ref (ad 16), .int p0] (XW ct ad iv ia la pt ra R) (fun (v : Int32) (u : Unit) => v.toInt = 0) (fun _ => XW ct ad iv ia la pt ra R) 0 0 := by
  intro sz
  refine Met.ofE (Qc := fun A => va_Qi (fun (v : Int32) (u : Unit) => v.toInt = 0) (BW D A (fun _ => XW ct ad iv ia la pt ra R)) A) (by decide) (Nat.le_of_ble_eq_true rfl) ?_
  intro p e s m args below meth c A ls hsz E hr hlk hnm B hl
  have hl : lv_has ls 2 [(0, .ref (ad 16)), (1, .int p0)] := hl
  refine lv_iload_n E.1.1 E.1.2.1 dX2_clausesOf_0 rfl (lv_at hl 1 rfl) ?_
  refine b_lt (tgt := 21) E rfl dX2_clausesOf_1 (by decide) (fun c_1 => ?_) (fun c_1 => ?_)
  · skip
    refine lv_iconst (v := 0) E.1.1 E.1.2.1 dX2_clausesOf_21 (by decide) ?_
    have r_2 : (0 : Int32).toInt = 0 := tI_0
    exact ret_I (u := ()) E hr hlk rfl B (by omega) dX2_clausesOf_22
  · skip
    refine lv_iload_n E.1.1 E.1.2.1 dX2_clausesOf_4 rfl (lv_at hl 1 rfl) ?_
    refine lv_aload_n E.1.1 E.1.2.1 dX2_clausesOf_5 rfl (lv_at hl 0 rfl) ?_
    refine row_get (v := .int (iv 9)) E B iX2 rfl 10 (by decide) mw_117 16 rfl rfl dX2_clausesOf_6 ?_
    refine c_ge (tgt := 21) E rfl h9 dX2_clausesOf_9 (by decide) (fun c_3 => ?_) (fun c_3 => ?_)
    · skip
      refine lv_iconst (v := 0) E.1.1 E.1.2.1 dX2_clausesOf_21 (by decide) ?_
      have r_4 : (0 : Int32).toInt = 0 := tI_0
      exact ret_I (u := ()) E hr hlk rfl B (by omega) dX2_clausesOf_22
    · exfalso; omega
set_option maxHeartbeats 4000000 in
set_option maxRecDepth 100000 in
theorem x_2_hasClause (l : Launch) (D : va_G) (ct : Nat → ClassId) (tN : Nat) (ad : Nat → Nat) (iv : Nat → Int32) (ia : Nat → Nat → Int32) (la : Nat → Nat → Int64) (pt : Nat → Option Nat) (ra : Nat → Nat → Option Nat) (R : va_W) (p0 : Int32) (p1 : Int32) (h9 : (iv 9).toInt = 0) : MI l D (TY ct) tN yX2_hasClause cX2_hasClause 3 (some .boolean) ({ frames := 1, cells := 0, slots := 0, locals := 21 } : Room) [.ref (ad 16), .int p0, .int p1] (XW ct ad iv ia la pt ra R) (fun (v : Int32) (u : Unit) => v.toInt = 0) (fun _ => XW ct ad iv ia la pt ra R) 0 0 := by
  intro sz
  refine Met.ofE (Qc := fun A => va_Qi (fun (v : Int32) (u : Unit) => v.toInt = 0) (BW D A (fun _ => XW ct ad iv ia la pt ra R)) A) (by decide) (Nat.le_of_ble_eq_true rfl) ?_
  intro p e s m args below meth c A ls hsz E hr hlk hnm B hl
  have hl : lv_has ls 3 [(0, .ref (ad 16)), (1, .int p0), (2, .int p1)] := hl
  refine lv_iload_n E.1.1 E.1.2.1 dX2_hasClause_0 rfl (lv_at hl 2 rfl) ?_
  refine b_lt (tgt := 17) E rfl dX2_hasClause_1 (by decide) (fun c_1 => ?_) (fun c_1 => ?_)
  · skip
    refine lv_iconst (v := 0) E.1.1 E.1.2.1 dX2_hasClause_17 (by decide) ?_
    have r_2 : (0 : Int32).toInt = 0 := tI_0
    exact ret_I (u := ()) E hr hlk (narrow_z (by omega)) B (by omega) dX2_hasClause_18
  · skip
    refine lv_iload_n E.1.1 E.1.2.1 dX2_hasClause_4 rfl (lv_at hl 2 rfl) ?_
    refine lv_aload_n E.1.1 E.1.2.1 dX2_hasClause_5 rfl (lv_at hl 0 rfl) ?_
    refine lv_iload_n E.1.1 E.1.2.1 dX2_hasClause_6 rfl (lv_at hl 1 rfl) ?_
    refine call_VI (kn := 1) E B (x_2_clausesOf l D ct tN ad iv ia la pt ra R  p0 h9) (good_V mw_690 mw_691 mw_692 mw_5 mw_693) 16 rfl rfl ⟨rfl, by decide +kernel⟩ rfl rfl rfl ⟨by decide, by decide⟩ rfl hl (Nat.le_of_ble_eq_true rfl) dX2_hasClause_7 ⟨Nat.le_of_ble_eq_true rfl, Nat.le_of_ble_eq_true rfl⟩ (fun v_3 u_4 H locs w_5 B => ?_)
    have w_5 : v_3.toInt = 0 := w_5
    have B : Hp D A s.heap (XW ct ad iv ia la pt ra R) H locs := B
    refine at_n (n := 10) (k1 := 0) (k2 := 0) rfl rfl rfl ?_
    refine c_ge (tgt := 17) E rfl w_5 dX2_hasClause_10 (by decide) (fun c_6 => ?_) (fun c_6 => ?_)
    · skip
      refine lv_iconst (v := 0) E.1.1 E.1.2.1 dX2_hasClause_17 (by decide) ?_
      have r_7 : (0 : Int32).toInt = 0 := tI_0
      exact ret_I (u := ()) E hr hlk (narrow_z (by omega)) B (by omega) dX2_hasClause_18
    · exfalso; omega
set_option maxHeartbeats 4000000 in
set_option maxRecDepth 100000 in
theorem x_8_size (l : Launch) (D : va_G) (ct : Nat → ClassId) (tN : Nat) (ad : Nat → Nat) (iv : Nat → Int32) (ia : Nat → Nat → Int32) (la : Nat → Nat → Int64) (pt : Nat → Option Nat) (ra : Nat → Nat → Option Nat) (R : va_W)  (h10 : (iv 10).toInt = 0) : MI l D (TY ct) tN yX8_size cX8_size 1 (some .int) ({ frames := 0, cells := 0, slots := 0, locals := 0 } : Room) [.ref (ad 27)] (XW ct ad iv ia la pt ra R) (fun (v : Int32) (u : Unit) => v.toInt = 0) (fun _ => XW ct ad iv ia la pt ra R) 0 0 := by
  intro sz
  refine Met.ofE (Qc := fun A => va_Qi (fun (v : Int32) (u : Unit) => v.toInt = 0) (BW D A (fun _ => XW ct ad iv ia la pt ra R)) A) (by decide) (Nat.le_of_ble_eq_true rfl) ?_
  intro p e s m args below meth c A ls hsz E hr hlk hnm B hl
  have hl : lv_has ls 1 [(0, .ref (ad 27))] := hl
  refine lv_aload_n E.1.1 E.1.2.1 dX8_size_0 rfl (lv_at hl 0 rfl) ?_
  refine row_get (v := .int (iv 10)) E B iX8 rfl 5 (by decide) mw_154 27 rfl rfl dX8_size_1 ?_
  have r_1 : (iv 10).toInt = 0 := h10
  exact ret_I (u := ()) E hr hlk rfl B (by omega) dX8_size_4
set_option maxHeartbeats 4000000 in
set_option maxRecDepth 100000 in
theorem x_8_at (l : Launch) (D : va_G) (ct : Nat → ClassId) (tN : Nat) (ad : Nat → Nat) (iv : Nat → Int32) (ia : Nat → Nat → Int32) (la : Nat → Nat → Int64) (pt : Nat → Option Nat) (ra : Nat → Nat → Option Nat) (R : va_W) (p0 : Int32) (h10 : (iv 10).toInt = 0) : MQ9 l D (TY ct) tN yX8_at cX8_at 2 (some (.object "VerseCommittee$Rendering")) ({ frames := 0, cells := 0, slots := 0, locals := 0 } : Room) [.ref (ad 27), .int p0] (XW ct ad iv ia la pt ra R) (fun (v : Option Nat) (u : Unit) => v = none) (fun _ => XW ct ad iv ia la pt ra R) 0 0 := by
  intro sz
  refine Met.ofE (Qc := fun A => va_Qq (fun (v : Option Nat) (u : Unit) => v = none) (BW D A (fun _ => XW ct ad iv ia la pt ra R)) A) (by decide) (Nat.le_of_ble_eq_true rfl) ?_
  intro p e s m args below meth c A ls hsz E hr hlk hnm B hl
  have hl : lv_has ls 2 [(0, .ref (ad 27)), (1, .int p0)] := hl
  refine lv_iload_n E.1.1 E.1.2.1 dX8_at_0 rfl (lv_at hl 1 rfl) ?_
  refine b_lt (tgt := 21) E rfl dX8_at_1 (by decide) (fun c_1 => ?_) (fun c_1 => ?_)
  · skip
    refine lv_null E.1.1 E.1.2.1 dX8_at_21 ?_
    exact ret_Q (u := ()) (v := none) E hr hlk (Or.inl ⟨_, rfl⟩) B rfl dX8_at_22
  · skip
    refine lv_iload_n E.1.1 E.1.2.1 dX8_at_4 rfl (lv_at hl 1 rfl) ?_
    refine lv_aload_n E.1.1 E.1.2.1 dX8_at_5 rfl (lv_at hl 0 rfl) ?_
    refine row_get (v := .int (iv 10)) E B iX8 rfl 5 (by decide) mw_154 27 rfl rfl dX8_at_6 ?_
    refine c_ge (tgt := 21) E rfl h10 dX8_at_9 (by decide) (fun c_2 => ?_) (fun c_2 => ?_)
    · skip
      refine lv_null E.1.1 E.1.2.1 dX8_at_21 ?_
      exact ret_Q (u := ()) (v := none) E hr hlk (Or.inl ⟨_, rfl⟩) B rfl dX8_at_22
    · exfalso; omega
set_option maxHeartbeats 4000000 in
set_option maxRecDepth 100000 in
theorem x_8_fixedNumber (l : Launch) (D : va_G) (ct : Nat → ClassId) (tN : Nat) (ad : Nat → Nat) (iv : Nat → Int32) (ia : Nat → Nat → Int32) (la : Nat → Nat → Int64) (pt : Nat → Option Nat) (ra : Nat → Nat → Option Nat) (R : va_W) (p0 : Int32) (g29 : ∀ j, (ia 29 j).toInt = -1) : MI l D (TY ct) tN yX8_fixedNumber cX8_fixedNumber 2 (some .int) ({ frames := 0, cells := 0, slots := 0, locals := 0 } : Room) [.ref (ad 27), .int p0] (XW ct ad iv ia la pt ra R) (fun (v : Int32) (u : Unit) => v.toInt = -1) (fun _ => XW ct ad iv ia la pt ra R) 0 0 := by
  intro sz
  refine Met.ofE (Qc := fun A => va_Qi (fun (v : Int32) (u : Unit) => v.toInt = -1) (BW D A (fun _ => XW ct ad iv ia la pt ra R)) A) (by decide) (Nat.le_of_ble_eq_true rfl) ?_
  intro p e s m args below meth c A ls hsz E hr hlk hnm B hl
  have hl : lv_has ls 2 [(0, .ref (ad 27)), (1, .int p0)] := hl
  refine lv_iload_n E.1.1 E.1.2.1 dX8_fixedNumber_0 rfl (lv_at hl 1 rfl) ?_
  refine b_lt (tgt := 19) E rfl dX8_fixedNumber_1 (by decide) (fun c_1 => ?_) (fun c_1 => ?_)
  · skip
    refine lv_iconst (v := -1) E.1.1 E.1.2.1 dX8_fixedNumber_19 (by decide) ?_
    have r_2 : (-1 : Int32).toInt = -1 := tI_m1
    exact ret_I (u := ()) E hr hlk rfl B (by omega) dX8_fixedNumber_20
  · skip
    refine lv_iload_n E.1.1 E.1.2.1 dX8_fixedNumber_4 rfl (lv_at hl 1 rfl) ?_
    refine lv_bipush (v := 60) E.1.1 E.1.2.1 dX8_fixedNumber_5 (by decide) ?_
    refine c_ge (tgt := 19) E rfl tI_60 dX8_fixedNumber_7 (by decide) (fun c_3 => ?_) (fun c_3 => ?_)
    · skip
      refine lv_iconst (v := -1) E.1.1 E.1.2.1 dX8_fixedNumber_19 (by decide) ?_
      have r_4 : (-1 : Int32).toInt = -1 := tI_m1
      exact ret_I (u := ()) E hr hlk rfl B (by omega) dX8_fixedNumber_20
    · skip
      refine lv_aload_n E.1.1 E.1.2.1 dX8_fixedNumber_10 rfl (lv_at hl 0 rfl) ?_
      refine row_get (v := .ref (ad 29)) E B iX8 rfl 1 (by decide) mw_150 27 rfl rfl dX8_fixedNumber_11 ?_
      refine lv_iload_n E.1.1 E.1.2.1 dX8_fixedNumber_14 rfl (lv_at hl 1 rfl) ?_
      refine row_iald E B 29 rfl (vp_of rfl (by omega) (by omega)) dX8_fixedNumber_15 ?_
      refine lv_goto (tgt := 20) E.1.1 E.1.2.1 dX8_fixedNumber_16 (by decide) ?_
      have r_5 : (ia 29 p0.toNatClampNeg).toInt = -1 := (g29 _)
      exact ret_I (u := ()) E hr hlk rfl B (by omega) dX8_fixedNumber_20
set_option maxHeartbeats 4000000 in
set_option maxRecDepth 100000 in
theorem x_8_fixedAt (l : Launch) (D : va_G) (ct : Nat → ClassId) (tN : Nat) (ad : Nat → Nat) (iv : Nat → Int32) (ia : Nat → Nat → Int32) (la : Nat → Nat → Int64) (pt : Nat → Option Nat) (ra : Nat → Nat → Option Nat) (R : va_W) (p0 : Int32) (h10 : (iv 10).toInt = 0) (g29 : ∀ j, (ia 29 j).toInt = -1) : MQ9 l D (TY ct) tN yX8_fixedAt cX8_fixedAt 2 (some (.object "VerseCommittee$Rendering")) ({ frames := 1, cells := 0, slots := 0, locals := 21 } : Room) [.ref (ad 27), .int p0] (XW ct ad iv ia la pt ra R) (fun (v : Option Nat) (u : Unit) => v = none) (fun _ => XW ct ad iv ia la pt ra R) 0 0 := by
  intro sz
  refine Met.ofE (Qc := fun A => va_Qq (fun (v : Option Nat) (u : Unit) => v = none) (BW D A (fun _ => XW ct ad iv ia la pt ra R)) A) (by decide) (Nat.le_of_ble_eq_true rfl) ?_
  intro p e s m args below meth c A ls hsz E hr hlk hnm B hl
  have hl : lv_has ls 2 [(0, .ref (ad 27)), (1, .int p0)] := hl
  refine lv_aload_n E.1.1 E.1.2.1 dX8_fixedAt_0 rfl (lv_at hl 0 rfl) ?_
  refine lv_aload_n E.1.1 E.1.2.1 dX8_fixedAt_1 rfl (lv_at hl 0 rfl) ?_
  refine lv_iload_n E.1.1 E.1.2.1 dX8_fixedAt_2 rfl (lv_at hl 1 rfl) ?_
  refine call_VI (kn := 1) E B (x_8_fixedNumber l D ct tN ad iv ia la pt ra R  p0 g29) (good_V mw_992 mw_993 mw_994 mw_6 mw_995) 27 rfl rfl ⟨rfl, by decide +kernel⟩ rfl rfl rfl ⟨by decide, by decide⟩ rfl hl (Nat.le_of_ble_eq_true rfl) dX8_fixedAt_3 ⟨Nat.le_of_ble_eq_true rfl, Nat.le_of_ble_eq_true rfl⟩ (fun v_1 u_2 H locs w_3 B => ?_)
  have w_3 : v_1.toInt = -1 := w_3
  have B : Hp D A s.heap (XW ct ad iv ia la pt ra R) H locs := B
  refine at_n (n := 6) (k1 := 0) (k2 := 0) rfl rfl rfl ?_
  refine call_VQ (kn := 1) E B (x_8_at l D ct tN ad iv ia la pt ra R  v_1 h10) (good_V mw_996 mw_937 mw_938 mw_6 mw_939) 27 rfl rfl ⟨rfl, by decide +kernel⟩ rfl rfl rfl ⟨by decide, by decide⟩ rfl hl (Nat.le_of_ble_eq_true rfl) dX8_fixedAt_6 ⟨Nat.le_of_ble_eq_true rfl, Nat.le_of_ble_eq_true rfl⟩ (fun v_4 u_5 H locs w_6 B => ?_)
  have w_6 : v_4 = none := w_6
  subst w_6
  have B : Hp D A s.heap (XW ct ad iv ia la pt ra R) H locs := B
  refine at_n (n := 9) (k1 := 0) (k2 := 0) rfl rfl rfl ?_
  exact ret_Q (u := ()) (v := none) E hr hlk (Or.inl ⟨_, rfl⟩) B rfl dX8_fixedAt_9
set_option maxHeartbeats 4000000 in
set_option maxRecDepth 100000 in
theorem x_8_fixedThen (l : Launch) (D : va_G) (ct : Nat → ClassId) (tN : Nat) (ad : Nat → Nat) (iv : Nat → Int32) (ia : Nat → Nat → Int32) (la : Nat → Nat → Int64) (pt : Nat → Option Nat) (ra : Nat → Nat → Option Nat) (R : va_W) (p0 : Int32) (p1 : Int32) (h11 : (iv 11).toInt = 0) : MI l D (TY ct) tN yX8_fixedThen cX8_fixedThen 4 (some .int) ({ frames := 0, cells := 0, slots := 0, locals := 0 } : Room) [.ref (ad 27), .int p0, .int p1] (XW ct ad iv ia la pt ra R) (fun (v : Int32) (u : Unit) => v.toInt = -1) (fun _ => XW ct ad iv ia la pt ra R) 0 0 := by
  intro sz
  refine Met.ofE (Qc := fun A => va_Qi (fun (v : Int32) (u : Unit) => v.toInt = -1) (BW D A (fun _ => XW ct ad iv ia la pt ra R)) A) (by decide) (Nat.le_of_ble_eq_true rfl) ?_
  intro p e s m args below meth c A ls hsz E hr hlk hnm B hl
  have hl : lv_has ls 4 [(0, .ref (ad 27)), (1, .int p0), (2, .int p1)] := hl
  refine lv_aload_n E.1.1 E.1.2.1 dX8_fixedThen_0 rfl (lv_at hl 0 rfl) ?_
  refine row_get (v := .int (iv 11)) E B iX8 rfl 6 (by decide) mw_155 27 rfl rfl dX8_fixedThen_1 ?_
  refine lv_iconst (v := 1) E.1.1 E.1.2.1 dX8_fixedThen_4 (by decide) ?_
  refine i_sub E h11 tI_1 (by omega) (by omega) dX8_fixedThen_5 (fun z_1 ez_1 => ?_)
  have ez_1 : z_1.toInt = -1 := by omega
  refine lv_istore_n (lv' := [(3, .int z_1), (0, .ref (ad 27)), (1, .int p0), (2, .int p1)]) E.1.1 E.1.2.1 dX8_fixedThen_6 rfl hl (by decide) rfl (fun ls hl => ?_)
  refine lv_iload_n E.1.1 E.1.2.1 dX8_fixedThen_7 rfl (lv_at hl 0 rfl) ?_
  refine at_pc (n := 8) rfl ?_
  refine b_lt (tgt := 44) E ez_1 dX8_fixedThen_8 (by decide) (fun c_2 => ?_) (fun c_2 => ?_)
  · skip
    refine lv_iconst (v := -1) E.1.1 E.1.2.1 dX8_fixedThen_44 (by decide) ?_
    have r_3 : (-1 : Int32).toInt = -1 := tI_m1
    exact ret_I (u := ()) E hr hlk rfl B (by omega) dX8_fixedThen_45
  · exfalso; omega
set_option maxHeartbeats 4000000 in
set_option maxRecDepth 100000 in
theorem x_8_inState (l : Launch) (D : va_G) (ct : Nat → ClassId) (tN : Nat) (ad : Nat → Nat) (iv : Nat → Int32) (ia : Nat → Nat → Int32) (la : Nat → Nat → Int64) (pt : Nat → Option Nat) (ra : Nat → Nat → Option Nat) (R : va_W) (p0 : Int32) (h10 : (iv 10).toInt = 0) : MI l D (TY ct) tN yX8_inState cX8_inState 5 (some .int) ({ frames := 0, cells := 0, slots := 0, locals := 0 } : Room) [.ref (ad 27), .int p0] (XW ct ad iv ia la pt ra R) (fun (v : Int32) (u : Unit) => v.toInt = 0) (fun _ => XW ct ad iv ia la pt ra R) 0 0 := by
  intro sz
  refine Met.ofE (Qc := fun A => va_Qi (fun (v : Int32) (u : Unit) => v.toInt = 0) (BW D A (fun _ => XW ct ad iv ia la pt ra R)) A) (by decide) (Nat.le_of_ble_eq_true rfl) ?_
  intro p e s m args below meth c A ls hsz E hr hlk hnm B hl
  have hl : lv_has ls 5 [(0, .ref (ad 27)), (1, .int p0)] := hl
  refine lv_iconst (v := 0) E.1.1 E.1.2.1 dX8_inState_0 (by decide) ?_
  refine lv_istore_n (lv' := [(2, .int (0 : Int32)), (0, .ref (ad 27)), (1, .int p0)]) E.1.1 E.1.2.1 dX8_inState_1 rfl hl (by decide) rfl (fun ls hl => ?_)
  refine lv_iconst (v := 0) E.1.1 E.1.2.1 dX8_inState_2 (by decide) ?_
  refine lv_istore_n (lv' := [(3, .int (0 : Int32)), (2, .int (0 : Int32)), (0, .ref (ad 27)), (1, .int p0)]) E.1.1 E.1.2.1 dX8_inState_3 rfl hl (by decide) rfl (fun ls hl => ?_)
  refine lv_iload_n E.1.1 E.1.2.1 dX8_inState_4 rfl (lv_at hl 0 rfl) ?_
  refine lv_aload_n E.1.1 E.1.2.1 dX8_inState_5 rfl (lv_at hl 2 rfl) ?_
  refine at_pc (n := 6) rfl ?_
  refine row_get (v := .int (iv 10)) E B iX8 rfl 5 (by decide) mw_154 27 rfl rfl dX8_inState_6 ?_
  refine c_ge (tgt := 43) E tI_0 h10 dX8_inState_9 (by decide) (fun c_1 => ?_) (fun c_1 => ?_)
  · skip
    refine lv_iload_n E.1.1 E.1.2.1 dX8_inState_43 rfl (lv_at hl 1 rfl) ?_
    have r_2 : (0 : Int32).toInt = 0 := tI_0
    exact ret_I (u := ()) E hr hlk rfl B (by omega) dX8_inState_44
  · exfalso; omega
set_option maxHeartbeats 4000000 in
set_option maxRecDepth 100000 in
theorem x_8_fixedVerses (l : Launch) (D : va_G) (ct : Nat → ClassId) (tN : Nat) (ad : Nat → Nat) (iv : Nat → Int32) (ia : Nat → Nat → Int32) (la : Nat → Nat → Int64) (pt : Nat → Option Nat) (ra : Nat → Nat → Option Nat) (R : va_W)  (g29 : ∀ j, (ia 29 j).toInt = -1) : MI l D (TY ct) tN yX8_fixedVerses cX8_fixedVerses 3 (some .int) ({ frames := 0, cells := 0, slots := 0, locals := 0 } : Room) [.ref (ad 27)] (XW ct ad iv ia la pt ra R) (fun (v : Int32) (u : Unit) => v.toInt = 0) (fun _ => XW ct ad iv ia la pt ra R) 0 0 := by
  intro sz
  refine Met.ofE (Qc := fun A => va_Qi (fun (v : Int32) (u : Unit) => v.toInt = 0) (BW D A (fun _ => XW ct ad iv ia la pt ra R)) A) (by decide) (Nat.le_of_ble_eq_true rfl) ?_
  intro p e s m args below meth c A ls hsz E hr hlk hnm B hl
  have hl : lv_has ls 3 [(0, .ref (ad 27))] := hl
  refine lv_iconst (v := 0) E.1.1 E.1.2.1 dX8_fixedVerses_0 (by decide) ?_
  refine lv_istore_n (lv' := [(1, .int (0 : Int32)), (0, .ref (ad 27))]) E.1.1 E.1.2.1 dX8_fixedVerses_1 rfl hl (by decide) rfl (fun ls hl => ?_)
  refine lv_iconst (v := 0) E.1.1 E.1.2.1 dX8_fixedVerses_2 (by decide) ?_
  refine lv_istore_n (lv' := [(2, .int (0 : Int32)), (1, .int (0 : Int32)), (0, .ref (ad 27))]) E.1.1 E.1.2.1 dX8_fixedVerses_3 rfl hl (by decide) rfl (fun ls hl => ?_)
  have lp_1 : ∀ (n : Nat) (i_1 : Int32) (H : Heap) (locs : List Loc) (ls : Array Slot), 0 ≤ i_1.toInt → i_1.toInt ≤ 60 → 61 ≤ i_1.toInt + 1 * (n : Int) → (∀ j, (ia 29 j).toInt = -1) → Hp D A s.heap (XW ct ad iv ia la pt ra R) H locs → lv_has ls 3 [(2, .int i_1), (1, .int (0 : Int32)), (0, .ref (ad 27))] → W p l e ({ frames := 0, cells := 0, slots := 0, locals := 0 } : Room) s m args below meth c H locs 0 0 (MQ below (va_Qi (fun (v : Int32) (u : Unit) => v.toInt = 0) (BW D A (fun _ => XW ct ad iv ia la pt ra R)) A) args s 0 0 A) (F0 m 4 ls []) := by
    intro n
    induction n with
    | zero => intro i_1 H locs ls lo1 lo2 lo3; exfalso; omega
    | succ n ih =>
      intro i_1 H locs ls lo1 lo2 lo3 a_2 B hl
      refine lv_iload_n E.1.1 E.1.2.1 dX8_fixedVerses_4 rfl (lv_at hl 0 rfl) ?_
      refine lv_bipush (v := 60) E.1.1 E.1.2.1 dX8_fixedVerses_5 (by decide) ?_
      refine c_ge (tgt := 29) E rfl tI_60 dX8_fixedVerses_7 (by decide) (fun c_3 => ?_) (fun c_3 => ?_)
      · skip
        refine lv_iload_n E.1.1 E.1.2.1 dX8_fixedVerses_29 rfl (lv_at hl 1 rfl) ?_
        have r_4 : (0 : Int32).toInt = 0 := tI_0
        exact ret_I (u := ()) E hr hlk rfl B (by omega) dX8_fixedVerses_30
      · skip
        refine lv_aload_n E.1.1 E.1.2.1 dX8_fixedVerses_10 rfl (lv_at hl 2 rfl) ?_
        refine row_get (v := .ref (ad 29)) E B iX8 rfl 1 (by decide) mw_150 27 rfl rfl dX8_fixedVerses_11 ?_
        refine lv_iload_n E.1.1 E.1.2.1 dX8_fixedVerses_14 rfl (lv_at hl 0 rfl) ?_
        refine row_iald E B 29 rfl (vp_of rfl (by omega) (by omega)) dX8_fixedVerses_15 ?_
        refine lv_iconst (v := -1) E.1.1 E.1.2.1 dX8_fixedVerses_16 (by decide) ?_
        refine c_eq (tgt := 23) E (a_2 _) tI_m1 dX8_fixedVerses_17 (by decide) (fun c_5 => ?_) (fun c_5 => ?_)
        · skip
          refine i_inc (k := 0) E rfl (by decide) (by omega) (by omega) dX8_fixedVerses_23 hl rfl (by decide) (fun z_6 ls ez_6 hl => ?_)
          have hl : lv_has ls 3 [(2, .int z_6), (1, .int (0 : Int32)), (0, .ref (ad 27))] := hl
          have ez_6 : z_6.toInt = i_1.toInt + 1 := ez_6
          refine lv_goto (tgt := 4) E.1.1 E.1.2.1 dX8_fixedVerses_26 (by decide) ?_
          exact ih _ _ _ _ (by omega) (by omega) (by omega) a_2 B (lv_sub hl [0, 1, 2] rfl)
        · exfalso; omega
  exact lp_1 61 _ _ _ _ (by have := tI_0; omega) (by have := tI_0; omega) (by have := tI_0; omega) g29 B hl
set_option maxHeartbeats 4000000 in
set_option maxRecDepth 100000 in
theorem x_1_seekUnlike (l : Launch) (D : va_G) (ct : Nat → ClassId) (tN : Nat) (ad : Nat → Nat) (iv : Nat → Int32) (ia : Nat → Nat → Int32) (la : Nat → Nat → Int64) (pt : Nat → Option Nat) (ra : Nat → Nat → Option Nat) (R : va_W) (p0 : Int32) (p1 : Int32) (h3 : (iv 3).toInt = 0) : MI l D (TY ct) tN yX1_seekUnlike cX1_seekUnlike 5 (some .boolean) ({ frames := 1, cells := 0, slots := 0, locals := 20 } : Room) [.ref (ad 35), .int p0, .int p1] (XW ct ad iv ia la pt ra R) (fun (v : Int32) (u : Nat → Int32) => v.toInt = 0 ∧ (u 29).toInt = 0) (fun u => XW ct ad u ia la pt ra R) 0 0 := by
  intro sz
  refine Met.ofE (Qc := fun A => va_Qi (fun (v : Int32) (u : Nat → Int32) => v.toInt = 0 ∧ (u 29).toInt = 0) (BW D A (fun u => XW ct ad u ia la pt ra R)) A) (by decide) (Nat.le_of_ble_eq_true rfl) ?_
  intro p e s m args below meth c A ls hsz E hr hlk hnm B hl
  have hl : lv_has ls 5 [(0, .ref (ad 35)), (1, .int p0), (2, .int p1)] := hl
  refine lv_aload_n E.1.1 E.1.2.1 dX1_seekUnlike_0 rfl (lv_at hl 0 rfl) ?_
  refine lv_iconst (v := 0) E.1.1 E.1.2.1 dX1_seekUnlike_1 (by decide) ?_
  refine row_put E B iX1 rfl tyX1 tyX1_ok nmX1 12 (by decide) mw_269 rfl 35 rfl rfl rfl (Nat.le_of_ble_eq_true rfl) dX1_seekUnlike_2 (fun H locs B => ?_)
  have B := Hp.eq (sx_iv_29 ct ad iv ia la pt ra R ((0 : Int32))) B
  have h_2 : ((va_up iv 29 (0 : Int32)) 3).toInt = 0 := h3
  have h_3 : ((va_up iv 29 (0 : Int32)) 29).toInt = 0 := tI_0
  generalize va_up iv 29 (0 : Int32) = iv_1 at B h_2 h_3
  refine lv_aload_n E.1.1 E.1.2.1 dX1_seekUnlike_5 rfl (lv_at hl 0 rfl) ?_
  refine lv_iconst (v := 0) E.1.1 E.1.2.1 dX1_seekUnlike_6 (by decide) ?_
  refine row_put E B iX1 rfl tyX1 tyX1_ok nmX1 11 (by decide) mw_268 rfl 35 rfl rfl rfl (Nat.le_of_ble_eq_true rfl) dX1_seekUnlike_7 (fun H locs B => ?_)
  have B := Hp.eq (sx_iv_28 ct ad iv_1 ia la pt ra R ((0 : Int32))) B
  have h_5 : ((va_up iv_1 28 (0 : Int32)) 3).toInt = 0 := h_2
  have h_6 : ((va_up iv_1 28 (0 : Int32)) 29).toInt = 0 := h_3
  have h_7 : ((va_up iv_1 28 (0 : Int32)) 28).toInt = 0 := tI_0
  generalize va_up iv_1 28 (0 : Int32) = iv_4 at B h_5 h_6 h_7
  refine at_pc (n := 10) rfl ?_
  refine lv_iconst (v := 0) E.1.1 E.1.2.1 dX1_seekUnlike_10 (by decide) ?_
  refine lv_istore_n (lv' := [(3, .int (0 : Int32)), (0, .ref (ad 35)), (1, .int p0), (2, .int p1)]) E.1.1 E.1.2.1 dX1_seekUnlike_11 rfl hl (by decide) rfl (fun ls hl => ?_)
  refine lv_iload_n E.1.1 E.1.2.1 dX1_seekUnlike_12 rfl (lv_at hl 0 rfl) ?_
  refine lv_aload_n E.1.1 E.1.2.1 dX1_seekUnlike_13 rfl (lv_at hl 1 rfl) ?_
  refine row_get (v := .ref (ad 6)) E B iX1 rfl 1 (by decide) mw_258 35 rfl rfl dX1_seekUnlike_14 ?_
  refine call_VI (kn := 0) E B (x_9_size l D ct tN ad iv_4 ia la pt ra R   h_5) (good_V mw_1149 mw_1150 mw_1151 mw_3 mw_1152) 6 rfl rfl ⟨rfl, by decide +kernel⟩ rfl rfl rfl ⟨by decide, by decide⟩ rfl hl (Nat.le_of_ble_eq_true rfl) dX1_seekUnlike_17 ⟨Nat.le_of_ble_eq_true rfl, Nat.le_of_ble_eq_true rfl⟩ (fun v_8 u_9 H locs w_10 B => ?_)
  have w_10 : v_8.toInt = 0 := w_10
  have B : Hp D A s.heap (XW ct ad iv_4 ia la pt ra R) H locs := B
  refine at_n (n := 20) (k1 := 0) (k2 := 0) rfl rfl rfl ?_
  refine c_ge (tgt := 63) E tI_0 w_10 dX1_seekUnlike_20 (by decide) (fun c_11 => ?_) (fun c_11 => ?_)
  · skip
    refine lv_iconst (v := 0) E.1.1 E.1.2.1 dX1_seekUnlike_63 (by decide) ?_
    refine lv_istore_n (lv' := [(3, .int (0 : Int32)), (0, .ref (ad 35)), (1, .int p0), (2, .int p1)]) E.1.1 E.1.2.1 dX1_seekUnlike_64 rfl hl (by decide) rfl (fun ls hl => ?_)
    refine lv_iload_n E.1.1 E.1.2.1 dX1_seekUnlike_65 rfl (lv_at hl 0 rfl) ?_
    refine lv_aload_n E.1.1 E.1.2.1 dX1_seekUnlike_66 rfl (lv_at hl 1 rfl) ?_
    refine row_get (v := .int (iv_4 28)) E B iX1 rfl 11 (by decide) mw_268 35 rfl rfl dX1_seekUnlike_67 ?_
    refine c_ge (tgt := 198) E tI_0 h_7 dX1_seekUnlike_70 (by decide) (fun c_12 => ?_) (fun c_12 => ?_)
    · skip
      refine lv_iconst (v := 0) E.1.1 E.1.2.1 dX1_seekUnlike_198 (by decide) ?_
      have r_13 : (0 : Int32).toInt = 0 := tI_0
      exact ret_I (u := iv_4) E hr hlk (narrow_z (by omega)) B ⟨(by omega), (by have := h_6; omega)⟩ dX1_seekUnlike_199
    · exfalso; omega
  · exfalso; omega
set_option maxHeartbeats 4000000 in
set_option maxRecDepth 100000 in
theorem x_1_seen (l : Launch) (D : va_G) (ct : Nat → ClassId) (tN : Nat) (ad : Nat → Nat) (iv : Nat → Int32) (ia : Nat → Nat → Int32) (la : Nat → Nat → Int64) (pt : Nat → Option Nat) (ra : Nat → Nat → Option Nat) (R : va_W)  (h29 : (iv 29).toInt = 0) : MI l D (TY ct) tN yX1_seen cX1_seen 1 (some .int) ({ frames := 0, cells := 0, slots := 0, locals := 0 } : Room) [.ref (ad 35)] (XW ct ad iv ia la pt ra R) (fun (v : Int32) (u : Unit) => v.toInt = 0) (fun _ => XW ct ad iv ia la pt ra R) 0 0 := by
  intro sz
  refine Met.ofE (Qc := fun A => va_Qi (fun (v : Int32) (u : Unit) => v.toInt = 0) (BW D A (fun _ => XW ct ad iv ia la pt ra R)) A) (by decide) (Nat.le_of_ble_eq_true rfl) ?_
  intro p e s m args below meth c A ls hsz E hr hlk hnm B hl
  have hl : lv_has ls 1 [(0, .ref (ad 35))] := hl
  refine lv_aload_n E.1.1 E.1.2.1 dX1_seen_0 rfl (lv_at hl 0 rfl) ?_
  refine row_get (v := .int (iv 29)) E B iX1 rfl 12 (by decide) mw_269 35 rfl rfl dX1_seen_1 ?_
  have r_1 : (iv 29).toInt = 0 := h29
  exact ret_I (u := ()) E hr hlk rfl B (by omega) dX1_seen_4
set_option maxHeartbeats 4000000 in
set_option maxRecDepth 100000 in
theorem x_0_size (l : Launch) (D : va_G) (ct : Nat → ClassId) (tN : Nat) (ad : Nat → Nat) (iv : Nat → Int32) (ia : Nat → Nat → Int32) (la : Nat → Nat → Int64) (pt : Nat → Option Nat) (ra : Nat → Nat → Option Nat) (R : va_W)  (h30 : (iv 30).toInt = 0) : MI l D (TY ct) tN yX0_size cX0_size 1 (some .int) ({ frames := 0, cells := 0, slots := 0, locals := 0 } : Room) [.ref (ad 42)] (XW ct ad iv ia la pt ra R) (fun (v : Int32) (u : Unit) => v.toInt = 0) (fun _ => XW ct ad iv ia la pt ra R) 0 0 := by
  intro sz
  refine Met.ofE (Qc := fun A => va_Qi (fun (v : Int32) (u : Unit) => v.toInt = 0) (BW D A (fun _ => XW ct ad iv ia la pt ra R)) A) (by decide) (Nat.le_of_ble_eq_true rfl) ?_
  intro p e s m args below meth c A ls hsz E hr hlk hnm B hl
  have hl : lv_has ls 1 [(0, .ref (ad 42))] := hl
  refine lv_aload_n E.1.1 E.1.2.1 dX0_size_0 rfl (lv_at hl 0 rfl) ?_
  refine row_get (v := .int (iv 30)) E B iX0 rfl 11 (by decide) mw_315 42 rfl rfl dX0_size_1 ?_
  have r_1 : (iv 30).toInt = 0 := h30
  exact ret_I (u := ()) E hr hlk rfl B (by omega) dX0_size_4
set_option maxHeartbeats 4000000 in
set_option maxRecDepth 100000 in
theorem x_0_arePart (l : Launch) (D : va_G) (ct : Nat → ClassId) (tN : Nat) (ad : Nat → Nat) (iv : Nat → Int32) (ia : Nat → Nat → Int32) (la : Nat → Nat → Int64) (pt : Nat → Option Nat) (ra : Nat → Nat → Option Nat) (R : va_W) (p0 : Int32) (p1 : Int32) (l46 : ∀ j, la 46 j = 0) (q0 : 0 ≤ p0.toInt) (q1 : p0.toInt ≤ 39) : MI l D (TY ct) tN yX0_arePart cX0_arePart 3 (some .boolean) ({ frames := 0, cells := 0, slots := 0, locals := 0 } : Room) [.ref (ad 42), .int p0, .int p1] (XW ct ad iv ia la pt ra R) (fun (v : Int32) (u : Unit) => v.toInt = 0) (fun _ => XW ct ad iv ia la pt ra R) 0 0 := by
  intro sz
  refine Met.ofE (Qc := fun A => va_Qi (fun (v : Int32) (u : Unit) => v.toInt = 0) (BW D A (fun _ => XW ct ad iv ia la pt ra R)) A) (by decide) (Nat.le_of_ble_eq_true rfl) ?_
  intro p e s m args below meth c A ls hsz E hr hlk hnm B hl
  have hl : lv_has ls 3 [(0, .ref (ad 42)), (1, .int p0), (2, .int p1)] := hl
  refine lv_aload_n E.1.1 E.1.2.1 dX0_arePart_0 rfl (lv_at hl 0 rfl) ?_
  refine row_get (v := .ref (ad 46)) E B iX0 rfl 7 (by decide) mw_311 42 rfl rfl dX0_arePart_1 ?_
  refine lv_iload_n E.1.1 E.1.2.1 dX0_arePart_4 rfl (lv_at hl 1 rfl) ?_
  refine row_lald E B 46 rfl (vp_of rfl (by omega) (by omega)) dX0_arePart_5 ?_
  refine lv_lconst (v := 1) E.1.1 E.1.2.1 dX0_arePart_6 (by decide) ?_
  refine lv_iload_n E.1.1 E.1.2.1 dX0_arePart_7 rfl (lv_at hl 2 rfl) ?_
  refine at_pc (n := 8) rfl ?_
  refine lv_lshl E.1.1 E.1.2.1 dX0_arePart_8 rfl (any_l (fun y_1 => ?_))
  refine l_and0 E (l46 _) dX0_arePart_9 ?_
  refine lv_lconst (v := 0) E.1.1 E.1.2.1 dX0_arePart_10 (by decide) ?_
  refine l_cmp0 E dX0_arePart_11 ?_
  refine b_eq (tgt := 19) E tI_0 dX0_arePart_12 (by decide) (fun c_3 => ?_) (fun c_3 => ?_)
  · skip
    refine lv_iconst (v := 0) E.1.1 E.1.2.1 dX0_arePart_19 (by decide) ?_
    have r_4 : (0 : Int32).toInt = 0 := tI_0
    exact ret_I (u := ()) E hr hlk (narrow_z (by omega)) B (by omega) dX0_arePart_20
  · exfalso; omega
set_option maxHeartbeats 4000000 in
set_option maxRecDepth 100000 in
theorem x_0_part (l : Launch) (D : va_G) (ct : Nat → ClassId) (tN : Nat) (ad : Nat → Nat) (iv : Nat → Int32) (ia : Nat → Nat → Int32) (la : Nat → Nat → Int64) (pt : Nat → Option Nat) (ra : Nat → Nat → Option Nat) (R : va_W) (p0 : Int32) (p1 : Int32) (l46 : ∀ j, la 46 j = 0) (q0 : 0 ≤ p0.toInt) (q1 : p0.toInt ≤ 39) (q2 : 0 ≤ p1.toInt) (q3 : p1.toInt ≤ 39) : MI l D (TY ct) tN yX0_part cX0_part 3 (some .boolean) ({ frames := 1, cells := 0, slots := 0, locals := 22 } : Room) [.ref (ad 42), .int p0, .int p1] (XW ct ad iv ia la pt ra R) (fun (v : Int32) (u : va_W) => v.toInt = 1) (fun u => u) 0 0 := by
  intro sz
  refine Met.ofE (Qc := fun A => va_Qi (fun (v : Int32) (u : va_W) => v.toInt = 1) (BW D A (fun u => u)) A) (by decide) (Nat.le_of_ble_eq_true rfl) ?_
  intro p e s m args below meth c A ls hsz E hr hlk hnm B hl
  have hl : lv_has ls 3 [(0, .ref (ad 42)), (1, .int p0), (2, .int p1)] := hl
  refine lv_aload_n E.1.1 E.1.2.1 dX0_part_0 rfl (lv_at hl 0 rfl) ?_
  refine lv_iload_n E.1.1 E.1.2.1 dX0_part_1 rfl (lv_at hl 1 rfl) ?_
  refine lv_iload_n E.1.1 E.1.2.1 dX0_part_2 rfl (lv_at hl 2 rfl) ?_
  refine call_VI (kn := 2) E B (x_0_arePart l D ct tN ad iv ia la pt ra R  p0 p1 l46 (by omega) (by omega)) (good_V mw_1213 mw_1215 ms_53 mw_10 mw_1216) 42 rfl rfl ⟨rfl, by decide +kernel⟩ rfl rfl rfl ⟨by decide, by decide⟩ rfl hl (Nat.le_of_ble_eq_true rfl) dX0_part_3 ⟨Nat.le_of_ble_eq_true rfl, Nat.le_of_ble_eq_true rfl⟩ (fun v_1 u_2 H locs w_3 B => ?_)
  have w_3 : v_1.toInt = 0 := w_3
  have B : Hp D A s.heap (XW ct ad iv ia la pt ra R) H locs := B
  refine at_n (n := 6) (k1 := 0) (k2 := 0) rfl rfl rfl ?_
  refine b_eq (tgt := 11) E w_3 dX0_part_6 (by decide) (fun c_4 => ?_) (fun c_4 => ?_)
  · skip
    refine lv_aload_n E.1.1 E.1.2.1 dX0_part_11 rfl (lv_at hl 0 rfl) ?_
    refine row_get (v := .ref (ad 46)) E B iX0 rfl 7 (by decide) mw_311 42 rfl rfl dX0_part_12 ?_
    refine lv_iload_n E.1.1 E.1.2.1 dX0_part_15 rfl (lv_at hl 1 rfl) ?_
    refine lv_dup2_11 E.1.1 E.1.2.1 dX0_part_16 rfl rfl ?_
    refine row_lald E B 46 rfl (vp_of rfl (by omega) (by omega)) dX0_part_17 ?_
    refine lv_lconst (v := 1) E.1.1 E.1.2.1 dX0_part_18 (by decide) ?_
    refine at_pc (n := 19) rfl ?_
    refine lv_iload_n E.1.1 E.1.2.1 dX0_part_19 rfl (lv_at hl 2 rfl) ?_
    refine lv_lshl E.1.1 E.1.2.1 dX0_part_20 rfl (any_l (fun y_5 => ?_))
    refine lv_lor E.1.1 E.1.2.1 dX0_part_21 (any_l (fun y_6 => ?_))
    refine row_last E B 46 rfl (vp_of rfl (by omega) (by omega)) dX0_part_22 (fun H locs B => ?_)
    have B := Hp.eq (sx_la_46 ct ad iv ia la pt ra R (vp_updL (la 46) p0.toNatClampNeg y_6)) B
    generalize va_up la 46 (vp_updL (la 46) p0.toNatClampNeg y_6) = la_7 at B
    refine lv_aload_n E.1.1 E.1.2.1 dX0_part_23 rfl (lv_at hl 0 rfl) ?_
    refine row_get (v := .ref (ad 46)) E B iX0 rfl 7 (by decide) mw_311 42 rfl rfl dX0_part_24 ?_
    refine at_pc (n := 27) rfl ?_
    refine lv_iload_n E.1.1 E.1.2.1 dX0_part_27 rfl (lv_at hl 2 rfl) ?_
    refine lv_dup2_11 E.1.1 E.1.2.1 dX0_part_28 rfl rfl ?_
    refine row_lald E B 46 rfl (vp_of rfl (by omega) (by omega)) dX0_part_29 ?_
    refine lv_lconst (v := 1) E.1.1 E.1.2.1 dX0_part_30 (by decide) ?_
    refine lv_iload_n E.1.1 E.1.2.1 dX0_part_31 rfl (lv_at hl 1 rfl) ?_
    refine lv_lshl E.1.1 E.1.2.1 dX0_part_32 rfl (any_l (fun y_8 => ?_))
    refine at_pc (n := 33) rfl ?_
    refine lv_lor E.1.1 E.1.2.1 dX0_part_33 (any_l (fun y_9 => ?_))
    refine row_last E B 46 rfl (vp_of rfl (by omega) (by omega)) dX0_part_34 (fun H locs B => ?_)
    have B := Hp.eq (sx_la_46 ct ad iv ia la_7 pt ra R (vp_updL (la_7 46) p1.toNatClampNeg y_9)) B
    generalize va_up la_7 46 (vp_updL (la_7 46) p1.toNatClampNeg y_9) = la_10 at B
    refine lv_iconst (v := 1) E.1.1 E.1.2.1 dX0_part_35 (by decide) ?_
    have r_11 : (1 : Int32).toInt = 1 := tI_1
    exact ret_I (u := _) E hr hlk (narrow_z (by omega)) B (by omega) dX0_part_36
  · exfalso; omega
set_option maxHeartbeats 4000000 in
set_option maxRecDepth 100000 in
theorem x_0_readRow (l : Launch) (D : va_G) (ct : Nat → ClassId) (tN : Nat) (ad : Nat → Nat) (iv : Nat → Int32) (ia : Nat → Nat → Int32) (la : Nat → Nat → Int64) (pt : Nat → Option Nat) (ra : Nat → Nat → Option Nat) (R : va_W) (p0 : Int32) (h30 : (iv 30).toInt = 0) : MI l D (TY ct) tN yX0_readRow cX0_readRow 4 (some .boolean) ({ frames := 0, cells := 0, slots := 0, locals := 0 } : Room) [.ref (ad 42), .int p0] (XW ct ad iv ia la pt ra R) (fun (v : Int32) (u : Unit) => (p0.toInt = 0 ∧ v.toInt = 1) ∨ (¬ p0.toInt = 0 ∧ v.toInt = 0)) (fun _ => XW ct ad iv ia la pt ra R) 0 0 := by
  intro sz
  refine Met.ofE (Qc := fun A => va_Qi (fun (v : Int32) (u : Unit) => (p0.toInt = 0 ∧ v.toInt = 1) ∨ (¬ p0.toInt = 0 ∧ v.toInt = 0)) (BW D A (fun _ => XW ct ad iv ia la pt ra R)) A) (by decide) (Nat.le_of_ble_eq_true rfl) ?_
  intro p e s m args below meth c A ls hsz E hr hlk hnm B hl
  have hl : lv_has ls 4 [(0, .ref (ad 42)), (1, .int p0)] := hl
  refine lv_iload_n E.1.1 E.1.2.1 dX0_readRow_0 rfl (lv_at hl 1 rfl) ?_
  refine b_ge (tgt := 6) E rfl dX0_readRow_1 (by decide) (fun c_1 => ?_) (fun c_1 => ?_)
  · skip
    refine lv_iload_n E.1.1 E.1.2.1 dX0_readRow_6 rfl (lv_at hl 1 rfl) ?_
    refine lv_istore_n (lv' := [(2, .int p0), (0, .ref (ad 42)), (1, .int p0)]) E.1.1 E.1.2.1 dX0_readRow_7 rfl hl (by decide) rfl (fun ls hl => ?_)
    refine lv_iconst (v := 0) E.1.1 E.1.2.1 dX0_readRow_8 (by decide) ?_
    refine lv_istore_n (lv' := [(3, .int (0 : Int32)), (2, .int p0), (0, .ref (ad 42)), (1, .int p0)]) E.1.1 E.1.2.1 dX0_readRow_9 rfl hl (by decide) rfl (fun ls hl => ?_)
    refine lv_iload_n E.1.1 E.1.2.1 dX0_readRow_10 rfl (lv_at hl 0 rfl) ?_
    refine lv_aload_n E.1.1 E.1.2.1 dX0_readRow_11 rfl (lv_at hl 2 rfl) ?_
    refine at_pc (n := 12) rfl ?_
    refine row_get (v := .int (iv 30)) E B iX0 rfl 11 (by decide) mw_315 42 rfl rfl dX0_readRow_12 ?_
    refine c_ge (tgt := 54) E tI_0 h30 dX0_readRow_15 (by decide) (fun c_2 => ?_) (fun c_2 => ?_)
    · skip
      refine lv_iload_n E.1.1 E.1.2.1 dX0_readRow_54 rfl (lv_at hl 1 rfl) ?_
      refine b_ne (tgt := 62) E rfl dX0_readRow_55 (by decide) (fun c_3 => ?_) (fun c_3 => ?_)
      · skip
        refine lv_iconst (v := 0) E.1.1 E.1.2.1 dX0_readRow_62 (by decide) ?_
        have r_4 : (0 : Int32).toInt = 0 := tI_0
        exact ret_I (u := ()) E hr hlk (narrow_z (by omega)) B (by omega) dX0_readRow_63
      · skip
        refine lv_iconst (v := 1) E.1.1 E.1.2.1 dX0_readRow_58 (by decide) ?_
        refine lv_goto (tgt := 63) E.1.1 E.1.2.1 dX0_readRow_59 (by decide) ?_
        have r_5 : (1 : Int32).toInt = 1 := tI_1
        exact ret_I (u := ()) E hr hlk (narrow_z (by omega)) B (by omega) dX0_readRow_63
    · exfalso; omega
  · skip
    refine lv_iconst (v := 0) E.1.1 E.1.2.1 dX0_readRow_4 (by decide) ?_
    have r_6 : (0 : Int32).toInt = 0 := tI_0
    exact ret_I (u := ()) E hr hlk (narrow_z (by omega)) B (by omega) dX0_readRow_5
set_option maxHeartbeats 4000000 in
set_option maxRecDepth 100000 in
theorem x_0_reckon (l : Launch) (D : va_G) (ct : Nat → ClassId) (tN : Nat) (ad : Nat → Nat) (iv : Nat → Int32) (ia : Nat → Nat → Int32) (la : Nat → Nat → Int64) (pt : Nat → Option Nat) (ra : Nat → Nat → Option Nat) (R : va_W) (p0 : Int32) (h30 : (iv 30).toInt = 0) : MV l D (TY ct) tN yX0_reckon cX0_reckon 4 ({ frames := 0, cells := 0, slots := 0, locals := 0 } : Room) [.ref (ad 42), .int p0] (XW ct ad iv ia la pt ra R) (fun (u : Nat → Nat → Int32) => True) (fun u => XW ct ad iv u la pt ra R) 0 0 := by
  intro sz
  refine Met.ofE (Qc := fun A => va_Qv (fun (u : Nat → Nat → Int32) => True) (BW D A (fun u => XW ct ad iv u la pt ra R)) A) (by decide) (Nat.le_of_ble_eq_true rfl) ?_
  intro p e s m args below meth c A ls hsz E hr hlk hnm B hl
  have hl : lv_has ls 4 [(0, .ref (ad 42)), (1, .int p0)] := hl
  refine lv_iconst (v := 0) E.1.1 E.1.2.1 dX0_reckon_0 (by decide) ?_
  refine lv_istore_n (lv' := [(2, .int (0 : Int32)), (0, .ref (ad 42)), (1, .int p0)]) E.1.1 E.1.2.1 dX0_reckon_1 rfl hl (by decide) rfl (fun ls hl => ?_)
  have lp_1 : ∀ (n : Nat) (i_1 : Int32) (ia_1 : Nat → Nat → Int32) (H : Heap) (locs : List Loc) (ls : Array Slot), 0 ≤ i_1.toInt → i_1.toInt ≤ 24 → 25 ≤ i_1.toInt + 1 * (n : Int) → Hp D A s.heap (XW ct ad iv ia_1 la pt ra R) H locs → lv_has ls 4 [(2, .int i_1), (0, .ref (ad 42)), (1, .int p0)] → W p l e ({ frames := 0, cells := 0, slots := 0, locals := 0 } : Room) s m args below meth c H locs 0 0 (MQ below (va_Qv (fun (u : Nat → Nat → Int32) => True) (BW D A (fun u => XW ct ad iv u la pt ra R)) A) args s 0 0 A) (F0 m 2 ls []) := by
    intro n
    induction n with
    | zero => intro i_1 ia_1 H locs ls lo1 lo2 lo3; exfalso; omega
    | succ n ih =>
      intro i_1 ia_1 H locs ls lo1 lo2 lo3  B hl
      refine lv_iload_n E.1.1 E.1.2.1 dX0_reckon_2 rfl (lv_at hl 0 rfl) ?_
      refine lv_aload_n E.1.1 E.1.2.1 dX0_reckon_3 rfl (lv_at hl 1 rfl) ?_
      refine row_get (v := .ref (ad 47)) E B iX0 rfl 8 (by decide) mw_312 42 rfl rfl dX0_reckon_4 ?_
      refine va_alen (v := 24) E.1.1 E.1.2.1 E.2.1.1 B.1 47 0 rfl rfl rfl dX0_reckon_7 ?_
      refine c_ge (tgt := 31) E rfl tI_24 dX0_reckon_8 (by decide) (fun c_2 => ?_) (fun c_2 => ?_)
      · skip
        refine lv_aload_n E.1.1 E.1.2.1 dX0_reckon_31 rfl (lv_at hl 1 rfl) ?_
        refine row_get (v := .int (iv 30)) E B iX0 rfl 11 (by decide) mw_315 42 rfl rfl dX0_reckon_32 ?_
        refine b_ne (tgt := 39) E h30 dX0_reckon_35 (by decide) (fun c_3 => ?_) (fun c_3 => ?_)
        · exfalso; omega
        · skip
          exact ret_V (u := ia_1) E hr hlk B trivial dX0_reckon_38
      · skip
        refine lv_aload_n E.1.1 E.1.2.1 dX0_reckon_11 rfl (lv_at hl 1 rfl) ?_
        refine row_get (v := .ref (ad 47)) E B iX0 rfl 8 (by decide) mw_312 42 rfl rfl dX0_reckon_12 ?_
        refine lv_iload_n E.1.1 E.1.2.1 dX0_reckon_15 rfl (lv_at hl 0 rfl) ?_
        refine lv_iconst (v := 0) E.1.1 E.1.2.1 dX0_reckon_16 (by decide) ?_
        refine row_iast E B 47 rfl (vp_of rfl (by omega) (by omega)) dX0_reckon_17 (fun H locs B => ?_)
        have B := Hp.eq (sx_ia_47 ct ad iv ia_1 la pt ra R (upd (ia_1 47) i_1.toNatClampNeg (0 : Int32))) B
        generalize va_up ia_1 47 (upd (ia_1 47) i_1.toNatClampNeg (0 : Int32)) = ia_4 at B 
        refine lv_aload_n E.1.1 E.1.2.1 dX0_reckon_18 rfl (lv_at hl 1 rfl) ?_
        refine at_pc (n := 19) rfl ?_
        refine row_get (v := .ref (ad 48)) E B iX0 rfl 9 (by decide) mw_313 42 rfl rfl dX0_reckon_19 ?_
        refine lv_iload_n E.1.1 E.1.2.1 dX0_reckon_22 rfl (lv_at hl 0 rfl) ?_
        refine lv_iconst (v := 0) E.1.1 E.1.2.1 dX0_reckon_23 (by decide) ?_
        refine row_zast E B 48 rfl (vp_of rfl (by omega) (by omega)) dX0_reckon_24 (fun H locs B => ?_)
        have B := Hp.eq (sx_ia_48 ct ad iv ia_4 la pt ra R (upd (ia_4 48) i_1.toNatClampNeg (vp_nar .boolean (0 : Int32)))) B
        generalize va_up ia_4 48 (upd (ia_4 48) i_1.toNatClampNeg (vp_nar .boolean (0 : Int32))) = ia_5 at B 
        refine i_inc (k := 0) E rfl (by decide) (by omega) (by omega) dX0_reckon_25 hl rfl (by decide) (fun z_6 ls ez_6 hl => ?_)
        have hl : lv_has ls 4 [(2, .int z_6), (0, .ref (ad 42)), (1, .int p0)] := hl
        have ez_6 : z_6.toInt = i_1.toInt + 1 := ez_6
        refine lv_goto (tgt := 2) E.1.1 E.1.2.1 dX0_reckon_28 (by decide) ?_
        exact ih _ _ _ _ _ (by omega) (by omega) (by omega)  B (lv_sub hl [0, 1, 2] rfl)
  exact lp_1 25 _ _ _ _ _ (by have := tI_0; omega) (by have := tI_0; omega) (by have := tI_0; omega)  B hl
set_option maxHeartbeats 4000000 in
set_option maxRecDepth 100000 in
theorem x_0_priceOfRow (l : Launch) (D : va_G) (ct : Nat → ClassId) (tN : Nat) (ad : Nat → Nat) (iv : Nat → Int32) (ia : Nat → Nat → Int32) (la : Nat → Nat → Int64) (pt : Nat → Option Nat) (ra : Nat → Nat → Option Nat) (R : va_W)  (h30 : (iv 30).toInt = 0) : MI l D (TY ct) tN yX0_priceOfRow cX0_priceOfRow 3 (some .int) ({ frames := 0, cells := 0, slots := 0, locals := 0 } : Room) [.ref (ad 42)] (XW ct ad iv ia la pt ra R) (fun (v : Int32) (u : Unit) => v.toInt = 0) (fun _ => XW ct ad iv ia la pt ra R) 0 0 := by
  intro sz
  refine Met.ofE (Qc := fun A => va_Qi (fun (v : Int32) (u : Unit) => v.toInt = 0) (BW D A (fun _ => XW ct ad iv ia la pt ra R)) A) (by decide) (Nat.le_of_ble_eq_true rfl) ?_
  intro p e s m args below meth c A ls hsz E hr hlk hnm B hl
  have hl : lv_has ls 3 [(0, .ref (ad 42))] := hl
  refine lv_iconst (v := 0) E.1.1 E.1.2.1 dX0_priceOfRow_0 (by decide) ?_
  refine lv_istore_n (lv' := [(1, .int (0 : Int32)), (0, .ref (ad 42))]) E.1.1 E.1.2.1 dX0_priceOfRow_1 rfl hl (by decide) rfl (fun ls hl => ?_)
  refine lv_iconst (v := 0) E.1.1 E.1.2.1 dX0_priceOfRow_2 (by decide) ?_
  refine lv_istore_n (lv' := [(2, .int (0 : Int32)), (1, .int (0 : Int32)), (0, .ref (ad 42))]) E.1.1 E.1.2.1 dX0_priceOfRow_3 rfl hl (by decide) rfl (fun ls hl => ?_)
  refine lv_iload_n E.1.1 E.1.2.1 dX0_priceOfRow_4 rfl (lv_at hl 0 rfl) ?_
  refine lv_aload_n E.1.1 E.1.2.1 dX0_priceOfRow_5 rfl (lv_at hl 2 rfl) ?_
  refine at_pc (n := 6) rfl ?_
  refine row_get (v := .int (iv 30)) E B iX0 rfl 11 (by decide) mw_315 42 rfl rfl dX0_priceOfRow_6 ?_
  refine c_ge (tgt := 47) E tI_0 h30 dX0_priceOfRow_9 (by decide) (fun c_1 => ?_) (fun c_1 => ?_)
  · skip
    refine lv_iload_n E.1.1 E.1.2.1 dX0_priceOfRow_47 rfl (lv_at hl 1 rfl) ?_
    have r_2 : (0 : Int32).toInt = 0 := tI_0
    exact ret_I (u := ()) E hr hlk rfl B (by omega) dX0_priceOfRow_48
  · exfalso; omega
set_option maxHeartbeats 4000000 in
set_option maxRecDepth 100000 in
theorem x_0_choiceOfRow (l : Launch) (D : va_G) (ct : Nat → ClassId) (tN : Nat) (ad : Nat → Nat) (iv : Nat → Int32) (ia : Nat → Nat → Int32) (la : Nat → Nat → Int64) (pt : Nat → Option Nat) (ra : Nat → Nat → Option Nat) (R : va_W)  (h30 : (iv 30).toInt = 0) : MI l D (TY ct) tN yX0_choiceOfRow cX0_choiceOfRow 3 (some .int) ({ frames := 0, cells := 0, slots := 0, locals := 0 } : Room) [.ref (ad 42)] (XW ct ad iv ia la pt ra R) (fun (v : Int32) (u : Unit) => v.toInt = 0) (fun _ => XW ct ad iv ia la pt ra R) 0 0 := by
  intro sz
  refine Met.ofE (Qc := fun A => va_Qi (fun (v : Int32) (u : Unit) => v.toInt = 0) (BW D A (fun _ => XW ct ad iv ia la pt ra R)) A) (by decide) (Nat.le_of_ble_eq_true rfl) ?_
  intro p e s m args below meth c A ls hsz E hr hlk hnm B hl
  have hl : lv_has ls 3 [(0, .ref (ad 42))] := hl
  refine lv_iconst (v := 0) E.1.1 E.1.2.1 dX0_choiceOfRow_0 (by decide) ?_
  refine lv_istore_n (lv' := [(1, .int (0 : Int32)), (0, .ref (ad 42))]) E.1.1 E.1.2.1 dX0_choiceOfRow_1 rfl hl (by decide) rfl (fun ls hl => ?_)
  refine lv_aload_n E.1.1 E.1.2.1 dX0_choiceOfRow_2 rfl (lv_at hl 1 rfl) ?_
  refine row_get (v := .int (iv 30)) E B iX0 rfl 11 (by decide) mw_315 42 rfl rfl dX0_choiceOfRow_3 ?_
  refine lv_iconst (v := 1) E.1.1 E.1.2.1 dX0_choiceOfRow_6 (by decide) ?_
  refine i_sub E h30 tI_1 (by omega) (by omega) dX0_choiceOfRow_7 (fun z_1 ez_1 => ?_)
  have ez_1 : z_1.toInt = -1 := by omega
  refine at_pc (n := 8) rfl ?_
  refine lv_istore_n (lv' := [(2, .int z_1), (1, .int (0 : Int32)), (0, .ref (ad 42))]) E.1.1 E.1.2.1 dX0_choiceOfRow_8 rfl hl (by decide) rfl (fun ls hl => ?_)
  refine lv_iload_n E.1.1 E.1.2.1 dX0_choiceOfRow_9 rfl (lv_at hl 0 rfl) ?_
  refine b_lt (tgt := 30) E ez_1 dX0_choiceOfRow_10 (by decide) (fun c_2 => ?_) (fun c_2 => ?_)
  · skip
    refine lv_iload_n E.1.1 E.1.2.1 dX0_choiceOfRow_30 rfl (lv_at hl 1 rfl) ?_
    have r_3 : (0 : Int32).toInt = 0 := tI_0
    exact ret_I (u := ()) E hr hlk rfl B (by omega) dX0_choiceOfRow_31
  · exfalso; omega
set_option maxHeartbeats 4000000 in
set_option maxRecDepth 100000 in
theorem x_0_choose (l : Launch) (D : va_G) (ct : Nat → ClassId) (tN : Nat) (ad : Nat → Nat) (iv : Nat → Int32) (ia : Nat → Nat → Int32) (la : Nat → Nat → Int64) (pt : Nat → Option Nat) (ra : Nat → Nat → Option Nat) (R : va_W) (p0 : Int32) (p1 : Int32) (h30 : (iv 30).toInt = 0) (h31 : (iv 31).toInt = 2147483647) (q0 : p0.toInt = 0) (q1 : p1.toInt = 0) : MV l D (TY ct) tN yX0_choose cX0_choose 4 ({ frames := 1, cells := 0, slots := 0, locals := 22 } : Room) [.ref (ad 42), .int p0, .int p1] (XW ct ad iv ia la pt ra R) (fun (u : Nat → Int32) => (u 32).toInt = 0) (fun u => XW ct ad u ia la pt ra R) 0 0 := by
  intro sz
  refine Met.ofE (Qc := fun A => va_Qv (fun (u : Nat → Int32) => (u 32).toInt = 0) (BW D A (fun u => XW ct ad u ia la pt ra R)) A) (by decide) (Nat.le_of_ble_eq_true rfl) ?_
  intro p e s m args below meth c A ls hsz E hr hlk hnm B hl
  have hl : lv_has ls 4 [(0, .ref (ad 42)), (1, .int p0), (2, .int p1)] := hl
  refine lv_iload_n E.1.1 E.1.2.1 dX0_choose_0 rfl (lv_at hl 2 rfl) ?_
  refine lv_aload_n E.1.1 E.1.2.1 dX0_choose_1 rfl (lv_at hl 0 rfl) ?_
  refine row_get (v := .int (iv 31)) E B iX0 rfl 12 (by decide) mw_316 42 rfl rfl dX0_choose_2 ?_
  refine c_lt (tgt := 9) E q1 h31 dX0_choose_5 (by decide) (fun c_1 => ?_) (fun c_1 => ?_)
  · skip
    refine lv_iload_n E.1.1 E.1.2.1 dX0_choose_9 rfl (lv_at hl 1 rfl) ?_
    refine lv_aload_n E.1.1 E.1.2.1 dX0_choose_10 rfl (lv_at hl 0 rfl) ?_
    refine row_get (v := .int (iv 30)) E B iX0 rfl 11 (by decide) mw_315 42 rfl rfl dX0_choose_11 ?_
    refine c_lt (tgt := 31) E q0 h30 dX0_choose_14 (by decide) (fun c_2 => ?_) (fun c_2 => ?_)
    · exfalso; omega
    · skip
      refine lv_aload_n E.1.1 E.1.2.1 dX0_choose_17 rfl (lv_at hl 0 rfl) ?_
      refine lv_iload_n E.1.1 E.1.2.1 dX0_choose_18 rfl (lv_at hl 2 rfl) ?_
      refine row_put E B iX0 rfl tyX0 tyX0_ok nmX0 12 (by decide) mw_316 rfl 42 rfl rfl rfl (Nat.le_of_ble_eq_true rfl) dX0_choose_19 (fun H locs B => ?_)
      have B := Hp.eq (sx_iv_31 ct ad iv ia la pt ra R p1) B
      have h_4 : ((va_up iv 31 p1) 30).toInt = 0 := h30
      have h_5 : ((va_up iv 31 p1) 31).toInt = 0 := q1
      generalize va_up iv 31 p1 = iv_3 at B h_4 h_5
      refine lv_aload_n E.1.1 E.1.2.1 dX0_choose_22 rfl (lv_at hl 0 rfl) ?_
      refine lv_aload_n E.1.1 E.1.2.1 dX0_choose_23 rfl (lv_at hl 0 rfl) ?_
      refine call_VI (kn := 0) E B (x_0_choiceOfRow l D ct tN ad iv_3 ia la pt ra R   h_4) (good_V mw_1285 mw_1287 ms_60 mw_10 mw_1288) 42 rfl rfl ⟨rfl, by decide +kernel⟩ rfl rfl rfl ⟨by decide, by decide⟩ rfl hl (Nat.le_of_ble_eq_true rfl) dX0_choose_24 ⟨Nat.le_of_ble_eq_true rfl, Nat.le_of_ble_eq_true rfl⟩ (fun v_6 u_7 H locs w_8 B => ?_)
      have w_8 : v_6.toInt = 0 := w_8
      have B : Hp D A s.heap (XW ct ad iv_3 ia la pt ra R) H locs := B
      refine at_n (n := 27) (k1 := 0) (k2 := 0) rfl rfl rfl ?_
      refine row_put E B iX0 rfl tyX0 tyX0_ok nmX0 13 (by decide) mw_317 rfl 42 rfl rfl rfl (Nat.le_of_ble_eq_true rfl) dX0_choose_27 (fun H locs B => ?_)
      have B := Hp.eq (sx_iv_32 ct ad iv_3 ia la pt ra R v_6) B
      have h_10 : ((va_up iv_3 32 v_6) 30).toInt = 0 := h_4
      have h_11 : ((va_up iv_3 32 v_6) 31).toInt = 0 := h_5
      have h_12 : ((va_up iv_3 32 v_6) 32).toInt = 0 := w_8
      generalize va_up iv_3 32 v_6 = iv_9 at B h_10 h_11 h_12
      exact ret_V (u := iv_9) E hr hlk B (by have := h_12; omega) dX0_choose_30
  · exfalso; omega
set_option maxHeartbeats 4000000 in
set_option maxRecDepth 100000 in
theorem x_0_leastPriced (l : Launch) (D : va_G) (ct : Nat → ClassId) (tN : Nat) (ad : Nat → Nat) (iv : Nat → Int32) (ia : Nat → Nat → Int32) (la : Nat → Nat → Int64) (pt : Nat → Option Nat) (ra : Nat → Nat → Option Nat) (R : va_W)  (h30 : (iv 30).toInt = 0) : MI l D (TY ct) tN yX0_leastPriced cX0_leastPriced 1 (some .int) ({ frames := 2, cells := 0, slots := 0, locals := 45 } : Room) [.ref (ad 42)] (XW ct ad iv ia la pt ra R) (fun (v : Int32) (u : va_W) => v.toInt = 0) (fun u => u) 0 0 := by
  intro sz
  refine Met.ofE (Qc := fun A => va_Qi (fun (v : Int32) (u : va_W) => v.toInt = 0) (BW D A (fun u => u)) A) (by decide) (Nat.le_of_ble_eq_true rfl) ?_
  intro p e s m args below meth c A ls hsz E hr hlk hnm B hl
  have hl : lv_has ls 1 [(0, .ref (ad 42))] := hl
  refine lv_aload_n E.1.1 E.1.2.1 dX0_leastPriced_0 rfl (lv_at hl 0 rfl) ?_
  refine lv_ldc (v := 2147483647) E.1.1 E.1.2.1 E.1.2.2.2.1 (E.1.2.2.2.2 _ mw_1280) dX0_leastPriced_1 ?_
  refine row_put E B iX0 rfl tyX0 tyX0_ok nmX0 12 (by decide) mw_316 rfl 42 rfl rfl rfl (Nat.le_of_ble_eq_true rfl) dX0_leastPriced_3 (fun H locs B => ?_)
  have B := Hp.eq (sx_iv_31 ct ad iv ia la pt ra R ((2147483647 : Int32))) B
  have h_2 : ((va_up iv 31 (2147483647 : Int32)) 30).toInt = 0 := h30
  have h_3 : ((va_up iv 31 (2147483647 : Int32)) 31).toInt = 2147483647 := tI_2147483647
  generalize va_up iv 31 (2147483647 : Int32) = iv_1 at B h_2 h_3
  refine lv_aload_n E.1.1 E.1.2.1 dX0_leastPriced_6 rfl (lv_at hl 0 rfl) ?_
  refine lv_iconst (v := -1) E.1.1 E.1.2.1 dX0_leastPriced_7 (by decide) ?_
  refine row_put E B iX0 rfl tyX0 tyX0_ok nmX0 13 (by decide) mw_317 rfl 42 rfl rfl rfl (Nat.le_of_ble_eq_true rfl) dX0_leastPriced_8 (fun H locs B => ?_)
  have B := Hp.eq (sx_iv_32 ct ad iv_1 ia la pt ra R ((-1 : Int32))) B
  have h_5 : ((va_up iv_1 32 (-1 : Int32)) 30).toInt = 0 := h_2
  have h_6 : ((va_up iv_1 32 (-1 : Int32)) 31).toInt = 2147483647 := h_3
  have h_7 : ((va_up iv_1 32 (-1 : Int32)) 32).toInt = -1 := tI_m1
  generalize va_up iv_1 32 (-1 : Int32) = iv_4 at B h_5 h_6 h_7
  refine at_pc (n := 11) rfl ?_
  refine lv_aload_n E.1.1 E.1.2.1 dX0_leastPriced_11 rfl (lv_at hl 0 rfl) ?_
  refine lv_iconst (v := 0) E.1.1 E.1.2.1 dX0_leastPriced_12 (by decide) ?_
  refine lv_iconst (v := 0) E.1.1 E.1.2.1 dX0_leastPriced_13 (by decide) ?_
  refine call_VV (kn := 2) E B (x_0_choose l D ct tN ad iv_4 ia la pt ra R  ((0 : Int32)) ((0 : Int32)) h_5 h_6 (by have := tI_0; omega) (by have := tI_0; omega)) (good_V mw_1281 mw_1283 ms_59 mw_10 mw_1284) 42 rfl rfl ⟨rfl, by decide +kernel⟩ rfl rfl rfl ⟨by decide, by decide⟩ rfl hl (Nat.le_of_ble_eq_true rfl) dX0_leastPriced_14 ⟨Nat.le_of_ble_eq_true rfl, Nat.le_of_ble_eq_true rfl⟩ (fun u_9 H locs w_10 B => ?_)
  have h_11 := w_10
  have h_11 : (u_9 32).toInt = 0 := h_11
  have B : Hp D A s.heap (XW ct ad u_9 ia la pt ra R) H locs := B
  refine at_n (n := 17) (k1 := 0) (k2 := 0) rfl rfl rfl ?_
  refine lv_aload_n E.1.1 E.1.2.1 dX0_leastPriced_17 rfl (lv_at hl 0 rfl) ?_
  refine row_get (v := .int (u_9 32)) E B iX0 rfl 13 (by decide) mw_317 42 rfl rfl dX0_leastPriced_18 ?_
  have r_12 : (u_9 32).toInt = 0 := h_11
  exact ret_I (u := _) E hr hlk rfl B (by omega) dX0_leastPriced_21
set_option maxHeartbeats 4000000 in
set_option maxRecDepth 100000 in
theorem x_5_gatherBooks (l : Launch) (D : va_G) (ct : Nat → ClassId) (tN : Nat) (ad : Nat → Nat) (iv : Nat → Int32) (ia : Nat → Nat → Int32) (la : Nat → Nat → Int64) (pt : Nat → Option Nat) (ra : Nat → Nat → Option Nat) (R : va_W)  (h3 : (iv 3).toInt = 0) (g51 : ∀ j, (ia 51 j).toInt = 0) : MV l D (TY ct) tN yX5_gatherBooks cX5_gatherBooks 3 ({ frames := 1, cells := 0, slots := 0, locals := 20 } : Room) [.ref (ad 50)] (XW ct ad iv ia la pt ra R) (fun (u : (Nat → Int32) × (Nat → Nat → Int32)) => (u.1 33).toInt = 0) (fun u => XW ct ad u.1 u.2 la pt ra R) 0 0 := by
  intro sz
  refine Met.ofE (Qc := fun A => va_Qv (fun (u : (Nat → Int32) × (Nat → Nat → Int32)) => (u.1 33).toInt = 0) (BW D A (fun u => XW ct ad u.1 u.2 la pt ra R)) A) (by decide) (Nat.le_of_ble_eq_true rfl) ?_
  intro p e s m args below meth c A ls hsz E hr hlk hnm B hl
  have hl : lv_has ls 3 [(0, .ref (ad 50))] := hl
  refine lv_iconst (v := 0) E.1.1 E.1.2.1 dX5_gatherBooks_0 (by decide) ?_
  refine lv_istore_n (lv' := [(1, .int (0 : Int32)), (0, .ref (ad 50))]) E.1.1 E.1.2.1 dX5_gatherBooks_1 rfl hl (by decide) rfl (fun ls hl => ?_)
  refine lv_iload_n E.1.1 E.1.2.1 dX5_gatherBooks_2 rfl (lv_at hl 0 rfl) ?_
  refine lv_bipush (v := 8) E.1.1 E.1.2.1 dX5_gatherBooks_3 (by decide) ?_
  refine c_ge (tgt := 21) E tI_0 tI_8 dX5_gatherBooks_5 (by decide) (fun c_1 => ?_) (fun c_1 => ?_)
  · exfalso; omega
  · skip
    refine lv_aload_n E.1.1 E.1.2.1 dX5_gatherBooks_8 rfl (lv_at hl 1 rfl) ?_
    refine row_get (v := .ref (ad 51)) E B iX5 rfl 3 (by decide) mw_357 50 rfl rfl dX5_gatherBooks_9 ?_
    refine lv_iload_n E.1.1 E.1.2.1 dX5_gatherBooks_12 rfl (lv_at hl 0 rfl) ?_
    refine lv_iconst (v := 0) E.1.1 E.1.2.1 dX5_gatherBooks_13 (by decide) ?_
    refine row_iast E B 51 rfl (vp_of tI_0 (by omega) (by omega)) dX5_gatherBooks_14 (fun H locs B => ?_)
    have B := Hp.eq (sx_ia_51 ct ad iv ia la pt ra R (upd (ia 51) (0 : Int32).toNatClampNeg (0 : Int32))) B
    have a_3 : ∀ j, ((va_up ia 51 (upd (ia 51) (0 : Int32).toNatClampNeg (0 : Int32))) 51 j).toInt = 0 := upd_all g51 tI_0
    generalize va_up ia 51 (upd (ia 51) (0 : Int32).toNatClampNeg (0 : Int32)) = ia_2 at B a_3
    refine lv_iinc (v := 1) (lv' := [(1, .int (1 : Int32)), (0, .ref (ad 50))]) E.1.1 E.1.2.1 dX5_gatherBooks_15 hl (k := 0) rfl (by decide) (by decide) rfl (fun ls hl => ?_)
    refine at_pc (n := 18) rfl ?_
    refine lv_goto (tgt := 2) E.1.1 E.1.2.1 dX5_gatherBooks_18 (by decide) ?_
    refine lv_iload_n E.1.1 E.1.2.1 dX5_gatherBooks_2 rfl (lv_at hl 0 rfl) ?_
    refine lv_bipush (v := 8) E.1.1 E.1.2.1 dX5_gatherBooks_3 (by decide) ?_
    refine c_ge (tgt := 21) E tI_1 tI_8 dX5_gatherBooks_5 (by decide) (fun c_4 => ?_) (fun c_4 => ?_)
    · exfalso; omega
    · skip
      refine lv_aload_n E.1.1 E.1.2.1 dX5_gatherBooks_8 rfl (lv_at hl 1 rfl) ?_
      refine row_get (v := .ref (ad 51)) E B iX5 rfl 3 (by decide) mw_357 50 rfl rfl dX5_gatherBooks_9 ?_
      refine lv_iload_n E.1.1 E.1.2.1 dX5_gatherBooks_12 rfl (lv_at hl 0 rfl) ?_
      refine lv_iconst (v := 0) E.1.1 E.1.2.1 dX5_gatherBooks_13 (by decide) ?_
      refine row_iast E B 51 rfl (vp_of tI_1 (by omega) (by omega)) dX5_gatherBooks_14 (fun H locs B => ?_)
      have B := Hp.eq (sx_ia_51 ct ad iv ia_2 la pt ra R (upd (ia_2 51) (1 : Int32).toNatClampNeg (0 : Int32))) B
      have a_6 : ∀ j, ((va_up ia_2 51 (upd (ia_2 51) (1 : Int32).toNatClampNeg (0 : Int32))) 51 j).toInt = 0 := upd_all a_3 tI_0
      generalize va_up ia_2 51 (upd (ia_2 51) (1 : Int32).toNatClampNeg (0 : Int32)) = ia_5 at B a_6
      refine lv_iinc (v := 2) (lv' := [(1, .int (2 : Int32)), (0, .ref (ad 50))]) E.1.1 E.1.2.1 dX5_gatherBooks_15 hl (k := 0) rfl (by decide) (by decide) rfl (fun ls hl => ?_)
      refine at_pc (n := 18) rfl ?_
      refine lv_goto (tgt := 2) E.1.1 E.1.2.1 dX5_gatherBooks_18 (by decide) ?_
      refine lv_iload_n E.1.1 E.1.2.1 dX5_gatherBooks_2 rfl (lv_at hl 0 rfl) ?_
      refine lv_bipush (v := 8) E.1.1 E.1.2.1 dX5_gatherBooks_3 (by decide) ?_
      refine c_ge (tgt := 21) E tI_2 tI_8 dX5_gatherBooks_5 (by decide) (fun c_7 => ?_) (fun c_7 => ?_)
      · exfalso; omega
      · skip
        refine lv_aload_n E.1.1 E.1.2.1 dX5_gatherBooks_8 rfl (lv_at hl 1 rfl) ?_
        refine row_get (v := .ref (ad 51)) E B iX5 rfl 3 (by decide) mw_357 50 rfl rfl dX5_gatherBooks_9 ?_
        refine lv_iload_n E.1.1 E.1.2.1 dX5_gatherBooks_12 rfl (lv_at hl 0 rfl) ?_
        refine lv_iconst (v := 0) E.1.1 E.1.2.1 dX5_gatherBooks_13 (by decide) ?_
        refine row_iast E B 51 rfl (vp_of tI_2 (by omega) (by omega)) dX5_gatherBooks_14 (fun H locs B => ?_)
        have B := Hp.eq (sx_ia_51 ct ad iv ia_5 la pt ra R (upd (ia_5 51) (2 : Int32).toNatClampNeg (0 : Int32))) B
        have a_9 : ∀ j, ((va_up ia_5 51 (upd (ia_5 51) (2 : Int32).toNatClampNeg (0 : Int32))) 51 j).toInt = 0 := upd_all a_6 tI_0
        generalize va_up ia_5 51 (upd (ia_5 51) (2 : Int32).toNatClampNeg (0 : Int32)) = ia_8 at B a_9
        refine lv_iinc (v := 3) (lv' := [(1, .int (3 : Int32)), (0, .ref (ad 50))]) E.1.1 E.1.2.1 dX5_gatherBooks_15 hl (k := 0) rfl (by decide) (by decide) rfl (fun ls hl => ?_)
        refine at_pc (n := 18) rfl ?_
        refine lv_goto (tgt := 2) E.1.1 E.1.2.1 dX5_gatherBooks_18 (by decide) ?_
        refine lv_iload_n E.1.1 E.1.2.1 dX5_gatherBooks_2 rfl (lv_at hl 0 rfl) ?_
        refine lv_bipush (v := 8) E.1.1 E.1.2.1 dX5_gatherBooks_3 (by decide) ?_
        refine c_ge (tgt := 21) E tI_3 tI_8 dX5_gatherBooks_5 (by decide) (fun c_10 => ?_) (fun c_10 => ?_)
        · exfalso; omega
        · skip
          refine lv_aload_n E.1.1 E.1.2.1 dX5_gatherBooks_8 rfl (lv_at hl 1 rfl) ?_
          refine row_get (v := .ref (ad 51)) E B iX5 rfl 3 (by decide) mw_357 50 rfl rfl dX5_gatherBooks_9 ?_
          refine lv_iload_n E.1.1 E.1.2.1 dX5_gatherBooks_12 rfl (lv_at hl 0 rfl) ?_
          refine lv_iconst (v := 0) E.1.1 E.1.2.1 dX5_gatherBooks_13 (by decide) ?_
          refine row_iast E B 51 rfl (vp_of tI_3 (by omega) (by omega)) dX5_gatherBooks_14 (fun H locs B => ?_)
          have B := Hp.eq (sx_ia_51 ct ad iv ia_8 la pt ra R (upd (ia_8 51) (3 : Int32).toNatClampNeg (0 : Int32))) B
          have a_12 : ∀ j, ((va_up ia_8 51 (upd (ia_8 51) (3 : Int32).toNatClampNeg (0 : Int32))) 51 j).toInt = 0 := upd_all a_9 tI_0
          generalize va_up ia_8 51 (upd (ia_8 51) (3 : Int32).toNatClampNeg (0 : Int32)) = ia_11 at B a_12
          refine lv_iinc (v := 4) (lv' := [(1, .int (4 : Int32)), (0, .ref (ad 50))]) E.1.1 E.1.2.1 dX5_gatherBooks_15 hl (k := 0) rfl (by decide) (by decide) rfl (fun ls hl => ?_)
          refine at_pc (n := 18) rfl ?_
          refine lv_goto (tgt := 2) E.1.1 E.1.2.1 dX5_gatherBooks_18 (by decide) ?_
          refine lv_iload_n E.1.1 E.1.2.1 dX5_gatherBooks_2 rfl (lv_at hl 0 rfl) ?_
          refine lv_bipush (v := 8) E.1.1 E.1.2.1 dX5_gatherBooks_3 (by decide) ?_
          refine c_ge (tgt := 21) E tI_4 tI_8 dX5_gatherBooks_5 (by decide) (fun c_13 => ?_) (fun c_13 => ?_)
          · exfalso; omega
          · skip
            refine lv_aload_n E.1.1 E.1.2.1 dX5_gatherBooks_8 rfl (lv_at hl 1 rfl) ?_
            refine row_get (v := .ref (ad 51)) E B iX5 rfl 3 (by decide) mw_357 50 rfl rfl dX5_gatherBooks_9 ?_
            refine lv_iload_n E.1.1 E.1.2.1 dX5_gatherBooks_12 rfl (lv_at hl 0 rfl) ?_
            refine lv_iconst (v := 0) E.1.1 E.1.2.1 dX5_gatherBooks_13 (by decide) ?_
            refine row_iast E B 51 rfl (vp_of tI_4 (by omega) (by omega)) dX5_gatherBooks_14 (fun H locs B => ?_)
            have B := Hp.eq (sx_ia_51 ct ad iv ia_11 la pt ra R (upd (ia_11 51) (4 : Int32).toNatClampNeg (0 : Int32))) B
            have a_15 : ∀ j, ((va_up ia_11 51 (upd (ia_11 51) (4 : Int32).toNatClampNeg (0 : Int32))) 51 j).toInt = 0 := upd_all a_12 tI_0
            generalize va_up ia_11 51 (upd (ia_11 51) (4 : Int32).toNatClampNeg (0 : Int32)) = ia_14 at B a_15
            refine lv_iinc (v := 5) (lv' := [(1, .int (5 : Int32)), (0, .ref (ad 50))]) E.1.1 E.1.2.1 dX5_gatherBooks_15 hl (k := 0) rfl (by decide) (by decide) rfl (fun ls hl => ?_)
            refine at_pc (n := 18) rfl ?_
            refine lv_goto (tgt := 2) E.1.1 E.1.2.1 dX5_gatherBooks_18 (by decide) ?_
            refine lv_iload_n E.1.1 E.1.2.1 dX5_gatherBooks_2 rfl (lv_at hl 0 rfl) ?_
            refine lv_bipush (v := 8) E.1.1 E.1.2.1 dX5_gatherBooks_3 (by decide) ?_
            refine c_ge (tgt := 21) E tI_5 tI_8 dX5_gatherBooks_5 (by decide) (fun c_16 => ?_) (fun c_16 => ?_)
            · exfalso; omega
            · skip
              refine lv_aload_n E.1.1 E.1.2.1 dX5_gatherBooks_8 rfl (lv_at hl 1 rfl) ?_
              refine row_get (v := .ref (ad 51)) E B iX5 rfl 3 (by decide) mw_357 50 rfl rfl dX5_gatherBooks_9 ?_
              refine lv_iload_n E.1.1 E.1.2.1 dX5_gatherBooks_12 rfl (lv_at hl 0 rfl) ?_
              refine lv_iconst (v := 0) E.1.1 E.1.2.1 dX5_gatherBooks_13 (by decide) ?_
              refine row_iast E B 51 rfl (vp_of tI_5 (by omega) (by omega)) dX5_gatherBooks_14 (fun H locs B => ?_)
              have B := Hp.eq (sx_ia_51 ct ad iv ia_14 la pt ra R (upd (ia_14 51) (5 : Int32).toNatClampNeg (0 : Int32))) B
              have a_18 : ∀ j, ((va_up ia_14 51 (upd (ia_14 51) (5 : Int32).toNatClampNeg (0 : Int32))) 51 j).toInt = 0 := upd_all a_15 tI_0
              generalize va_up ia_14 51 (upd (ia_14 51) (5 : Int32).toNatClampNeg (0 : Int32)) = ia_17 at B a_18
              refine lv_iinc (v := 6) (lv' := [(1, .int (6 : Int32)), (0, .ref (ad 50))]) E.1.1 E.1.2.1 dX5_gatherBooks_15 hl (k := 0) rfl (by decide) (by decide) rfl (fun ls hl => ?_)
              refine at_pc (n := 18) rfl ?_
              refine lv_goto (tgt := 2) E.1.1 E.1.2.1 dX5_gatherBooks_18 (by decide) ?_
              refine lv_iload_n E.1.1 E.1.2.1 dX5_gatherBooks_2 rfl (lv_at hl 0 rfl) ?_
              refine lv_bipush (v := 8) E.1.1 E.1.2.1 dX5_gatherBooks_3 (by decide) ?_
              refine c_ge (tgt := 21) E tI_6 tI_8 dX5_gatherBooks_5 (by decide) (fun c_19 => ?_) (fun c_19 => ?_)
              · exfalso; omega
              · skip
                refine lv_aload_n E.1.1 E.1.2.1 dX5_gatherBooks_8 rfl (lv_at hl 1 rfl) ?_
                refine row_get (v := .ref (ad 51)) E B iX5 rfl 3 (by decide) mw_357 50 rfl rfl dX5_gatherBooks_9 ?_
                refine lv_iload_n E.1.1 E.1.2.1 dX5_gatherBooks_12 rfl (lv_at hl 0 rfl) ?_
                refine lv_iconst (v := 0) E.1.1 E.1.2.1 dX5_gatherBooks_13 (by decide) ?_
                refine row_iast E B 51 rfl (vp_of tI_6 (by omega) (by omega)) dX5_gatherBooks_14 (fun H locs B => ?_)
                have B := Hp.eq (sx_ia_51 ct ad iv ia_17 la pt ra R (upd (ia_17 51) (6 : Int32).toNatClampNeg (0 : Int32))) B
                have a_21 : ∀ j, ((va_up ia_17 51 (upd (ia_17 51) (6 : Int32).toNatClampNeg (0 : Int32))) 51 j).toInt = 0 := upd_all a_18 tI_0
                generalize va_up ia_17 51 (upd (ia_17 51) (6 : Int32).toNatClampNeg (0 : Int32)) = ia_20 at B a_21
                refine lv_iinc (v := 7) (lv' := [(1, .int (7 : Int32)), (0, .ref (ad 50))]) E.1.1 E.1.2.1 dX5_gatherBooks_15 hl (k := 0) rfl (by decide) (by decide) rfl (fun ls hl => ?_)
                refine at_pc (n := 18) rfl ?_
                refine lv_goto (tgt := 2) E.1.1 E.1.2.1 dX5_gatherBooks_18 (by decide) ?_
                refine lv_iload_n E.1.1 E.1.2.1 dX5_gatherBooks_2 rfl (lv_at hl 0 rfl) ?_
                refine lv_bipush (v := 8) E.1.1 E.1.2.1 dX5_gatherBooks_3 (by decide) ?_
                refine c_ge (tgt := 21) E tI_7 tI_8 dX5_gatherBooks_5 (by decide) (fun c_22 => ?_) (fun c_22 => ?_)
                · exfalso; omega
                · skip
                  refine lv_aload_n E.1.1 E.1.2.1 dX5_gatherBooks_8 rfl (lv_at hl 1 rfl) ?_
                  refine row_get (v := .ref (ad 51)) E B iX5 rfl 3 (by decide) mw_357 50 rfl rfl dX5_gatherBooks_9 ?_
                  refine lv_iload_n E.1.1 E.1.2.1 dX5_gatherBooks_12 rfl (lv_at hl 0 rfl) ?_
                  refine lv_iconst (v := 0) E.1.1 E.1.2.1 dX5_gatherBooks_13 (by decide) ?_
                  refine row_iast E B 51 rfl (vp_of tI_7 (by omega) (by omega)) dX5_gatherBooks_14 (fun H locs B => ?_)
                  have B := Hp.eq (sx_ia_51 ct ad iv ia_20 la pt ra R (upd (ia_20 51) (7 : Int32).toNatClampNeg (0 : Int32))) B
                  have a_24 : ∀ j, ((va_up ia_20 51 (upd (ia_20 51) (7 : Int32).toNatClampNeg (0 : Int32))) 51 j).toInt = 0 := upd_all a_21 tI_0
                  generalize va_up ia_20 51 (upd (ia_20 51) (7 : Int32).toNatClampNeg (0 : Int32)) = ia_23 at B a_24
                  refine lv_iinc (v := 8) (lv' := [(1, .int (8 : Int32)), (0, .ref (ad 50))]) E.1.1 E.1.2.1 dX5_gatherBooks_15 hl (k := 0) rfl (by decide) (by decide) rfl (fun ls hl => ?_)
                  refine at_pc (n := 18) rfl ?_
                  refine lv_goto (tgt := 2) E.1.1 E.1.2.1 dX5_gatherBooks_18 (by decide) ?_
                  refine lv_iload_n E.1.1 E.1.2.1 dX5_gatherBooks_2 rfl (lv_at hl 0 rfl) ?_
                  refine lv_bipush (v := 8) E.1.1 E.1.2.1 dX5_gatherBooks_3 (by decide) ?_
                  refine c_ge (tgt := 21) E tI_8 tI_8 dX5_gatherBooks_5 (by decide) (fun c_25 => ?_) (fun c_25 => ?_)
                  · skip
                    refine lv_iconst (v := 0) E.1.1 E.1.2.1 dX5_gatherBooks_21 (by decide) ?_
                    refine lv_istore_n (lv' := [(1, .int (0 : Int32)), (0, .ref (ad 50))]) E.1.1 E.1.2.1 dX5_gatherBooks_22 rfl hl (by decide) rfl (fun ls hl => ?_)
                    refine lv_iload_n E.1.1 E.1.2.1 dX5_gatherBooks_23 rfl (lv_at hl 0 rfl) ?_
                    refine lv_aload_n E.1.1 E.1.2.1 dX5_gatherBooks_24 rfl (lv_at hl 1 rfl) ?_
                    refine row_get (v := .ref (ad 6)) E B iX5 rfl 0 (by decide) mw_354 50 rfl rfl dX5_gatherBooks_25 ?_
                    refine call_VI (kn := 0) E B (x_9_size l D ct tN ad iv ia_23 la pt ra R   h3) (good_V mw_1370 mw_1150 mw_1151 mw_3 mw_1152) 6 rfl rfl ⟨rfl, by decide +kernel⟩ rfl rfl rfl ⟨by decide, by decide⟩ rfl hl (Nat.le_of_ble_eq_true rfl) dX5_gatherBooks_28 ⟨Nat.le_of_ble_eq_true rfl, Nat.le_of_ble_eq_true rfl⟩ (fun v_26 u_27 H locs w_28 B => ?_)
                    have w_28 : v_26.toInt = 0 := w_28
                    have B : Hp D A s.heap (XW ct ad iv ia_23 la pt ra R) H locs := B
                    refine at_n (n := 31) (k1 := 0) (k2 := 0) rfl rfl rfl ?_
                    refine c_ge (tgt := 81) E tI_0 w_28 dX5_gatherBooks_31 (by decide) (fun c_29 => ?_) (fun c_29 => ?_)
                    · skip
                      refine lv_aload_n E.1.1 E.1.2.1 dX5_gatherBooks_81 rfl (lv_at hl 1 rfl) ?_
                      refine lv_iconst (v := 0) E.1.1 E.1.2.1 dX5_gatherBooks_82 (by decide) ?_
                      refine row_put E B iX5 rfl tyX5 tyX5_ok nmX5 8 (by decide) mw_362 rfl 50 rfl rfl rfl (Nat.le_of_ble_eq_true rfl) dX5_gatherBooks_83 (fun H locs B => ?_)
                      have B := Hp.eq (sx_iv_33 ct ad iv ia_23 la pt ra R ((0 : Int32))) B
                      have h_31 : ((va_up iv 33 (0 : Int32)) 3).toInt = 0 := h3
                      have h_32 : ((va_up iv 33 (0 : Int32)) 33).toInt = 0 := tI_0
                      generalize va_up iv 33 (0 : Int32) = iv_30 at B h_31 h_32
                      refine lv_iconst (v := 0) E.1.1 E.1.2.1 dX5_gatherBooks_86 (by decide) ?_
                      refine lv_istore_n (lv' := [(1, .int (0 : Int32)), (0, .ref (ad 50))]) E.1.1 E.1.2.1 dX5_gatherBooks_87 rfl hl (by decide) rfl (fun ls hl => ?_)
                      refine lv_iload_n E.1.1 E.1.2.1 dX5_gatherBooks_88 rfl (lv_at hl 0 rfl) ?_
                      refine at_pc (n := 89) rfl ?_
                      refine lv_bipush (v := 8) E.1.1 E.1.2.1 dX5_gatherBooks_89 (by decide) ?_
                      refine c_ge (tgt := 138) E tI_0 tI_8 dX5_gatherBooks_91 (by decide) (fun c_33 => ?_) (fun c_33 => ?_)
                      · exfalso; omega
                      · skip
                        refine lv_aload_n E.1.1 E.1.2.1 dX5_gatherBooks_94 rfl (lv_at hl 1 rfl) ?_
                        refine row_get (v := .int (iv_30 33)) E B iX5 rfl 8 (by decide) mw_362 50 rfl rfl dX5_gatherBooks_95 ?_
                        refine lv_bipush (v := 6) E.1.1 E.1.2.1 dX5_gatherBooks_98 (by decide) ?_
                        refine c_ge (tgt := 138) E h_32 tI_6 dX5_gatherBooks_100 (by decide) (fun c_34 => ?_) (fun c_34 => ?_)
                        · exfalso; omega
                        · skip
                          refine lv_aload_n E.1.1 E.1.2.1 dX5_gatherBooks_103 rfl (lv_at hl 1 rfl) ?_
                          refine row_get (v := .ref (ad 51)) E B iX5 rfl 3 (by decide) mw_357 50 rfl rfl dX5_gatherBooks_104 ?_
                          refine lv_iload_n E.1.1 E.1.2.1 dX5_gatherBooks_107 rfl (lv_at hl 0 rfl) ?_
                          refine row_iald E B 51 rfl (vp_of tI_0 (by omega) (by omega)) dX5_gatherBooks_108 ?_
                          refine b_le (tgt := 132) E (a_24 _) dX5_gatherBooks_109 (by decide) (fun c_35 => ?_) (fun c_35 => ?_)
                          · skip
                            refine lv_iinc (v := 1) (lv' := [(1, .int (1 : Int32)), (0, .ref (ad 50))]) E.1.1 E.1.2.1 dX5_gatherBooks_132 hl (k := 0) rfl (by decide) (by decide) rfl (fun ls hl => ?_)
                            refine lv_goto (tgt := 88) E.1.1 E.1.2.1 dX5_gatherBooks_135 (by decide) ?_
                            refine lv_iload_n E.1.1 E.1.2.1 dX5_gatherBooks_88 rfl (lv_at hl 0 rfl) ?_
                            refine lv_bipush (v := 8) E.1.1 E.1.2.1 dX5_gatherBooks_89 (by decide) ?_
                            refine c_ge (tgt := 138) E tI_1 tI_8 dX5_gatherBooks_91 (by decide) (fun c_36 => ?_) (fun c_36 => ?_)
                            · exfalso; omega
                            · skip
                              refine lv_aload_n E.1.1 E.1.2.1 dX5_gatherBooks_94 rfl (lv_at hl 1 rfl) ?_
                              refine row_get (v := .int (iv_30 33)) E B iX5 rfl 8 (by decide) mw_362 50 rfl rfl dX5_gatherBooks_95 ?_
                              refine lv_bipush (v := 6) E.1.1 E.1.2.1 dX5_gatherBooks_98 (by decide) ?_
                              refine c_ge (tgt := 138) E h_32 tI_6 dX5_gatherBooks_100 (by decide) (fun c_37 => ?_) (fun c_37 => ?_)
                              · exfalso; omega
                              · skip
                                refine lv_aload_n E.1.1 E.1.2.1 dX5_gatherBooks_103 rfl (lv_at hl 1 rfl) ?_
                                refine row_get (v := .ref (ad 51)) E B iX5 rfl 3 (by decide) mw_357 50 rfl rfl dX5_gatherBooks_104 ?_
                                refine lv_iload_n E.1.1 E.1.2.1 dX5_gatherBooks_107 rfl (lv_at hl 0 rfl) ?_
                                refine row_iald E B 51 rfl (vp_of tI_1 (by omega) (by omega)) dX5_gatherBooks_108 ?_
                                refine b_le (tgt := 132) E (a_24 _) dX5_gatherBooks_109 (by decide) (fun c_38 => ?_) (fun c_38 => ?_)
                                · skip
                                  refine lv_iinc (v := 2) (lv' := [(1, .int (2 : Int32)), (0, .ref (ad 50))]) E.1.1 E.1.2.1 dX5_gatherBooks_132 hl (k := 0) rfl (by decide) (by decide) rfl (fun ls hl => ?_)
                                  refine lv_goto (tgt := 88) E.1.1 E.1.2.1 dX5_gatherBooks_135 (by decide) ?_
                                  refine lv_iload_n E.1.1 E.1.2.1 dX5_gatherBooks_88 rfl (lv_at hl 0 rfl) ?_
                                  refine lv_bipush (v := 8) E.1.1 E.1.2.1 dX5_gatherBooks_89 (by decide) ?_
                                  refine c_ge (tgt := 138) E tI_2 tI_8 dX5_gatherBooks_91 (by decide) (fun c_39 => ?_) (fun c_39 => ?_)
                                  · exfalso; omega
                                  · skip
                                    refine lv_aload_n E.1.1 E.1.2.1 dX5_gatherBooks_94 rfl (lv_at hl 1 rfl) ?_
                                    refine row_get (v := .int (iv_30 33)) E B iX5 rfl 8 (by decide) mw_362 50 rfl rfl dX5_gatherBooks_95 ?_
                                    refine lv_bipush (v := 6) E.1.1 E.1.2.1 dX5_gatherBooks_98 (by decide) ?_
                                    refine c_ge (tgt := 138) E h_32 tI_6 dX5_gatherBooks_100 (by decide) (fun c_40 => ?_) (fun c_40 => ?_)
                                    · exfalso; omega
                                    · skip
                                      refine lv_aload_n E.1.1 E.1.2.1 dX5_gatherBooks_103 rfl (lv_at hl 1 rfl) ?_
                                      refine row_get (v := .ref (ad 51)) E B iX5 rfl 3 (by decide) mw_357 50 rfl rfl dX5_gatherBooks_104 ?_
                                      refine lv_iload_n E.1.1 E.1.2.1 dX5_gatherBooks_107 rfl (lv_at hl 0 rfl) ?_
                                      refine row_iald E B 51 rfl (vp_of tI_2 (by omega) (by omega)) dX5_gatherBooks_108 ?_
                                      refine b_le (tgt := 132) E (a_24 _) dX5_gatherBooks_109 (by decide) (fun c_41 => ?_) (fun c_41 => ?_)
                                      · skip
                                        refine lv_iinc (v := 3) (lv' := [(1, .int (3 : Int32)), (0, .ref (ad 50))]) E.1.1 E.1.2.1 dX5_gatherBooks_132 hl (k := 0) rfl (by decide) (by decide) rfl (fun ls hl => ?_)
                                        refine lv_goto (tgt := 88) E.1.1 E.1.2.1 dX5_gatherBooks_135 (by decide) ?_
                                        refine lv_iload_n E.1.1 E.1.2.1 dX5_gatherBooks_88 rfl (lv_at hl 0 rfl) ?_
                                        refine lv_bipush (v := 8) E.1.1 E.1.2.1 dX5_gatherBooks_89 (by decide) ?_
                                        refine c_ge (tgt := 138) E tI_3 tI_8 dX5_gatherBooks_91 (by decide) (fun c_42 => ?_) (fun c_42 => ?_)
                                        · exfalso; omega
                                        · skip
                                          refine lv_aload_n E.1.1 E.1.2.1 dX5_gatherBooks_94 rfl (lv_at hl 1 rfl) ?_
                                          refine row_get (v := .int (iv_30 33)) E B iX5 rfl 8 (by decide) mw_362 50 rfl rfl dX5_gatherBooks_95 ?_
                                          refine lv_bipush (v := 6) E.1.1 E.1.2.1 dX5_gatherBooks_98 (by decide) ?_
                                          refine c_ge (tgt := 138) E h_32 tI_6 dX5_gatherBooks_100 (by decide) (fun c_43 => ?_) (fun c_43 => ?_)
                                          · exfalso; omega
                                          · skip
                                            refine lv_aload_n E.1.1 E.1.2.1 dX5_gatherBooks_103 rfl (lv_at hl 1 rfl) ?_
                                            refine row_get (v := .ref (ad 51)) E B iX5 rfl 3 (by decide) mw_357 50 rfl rfl dX5_gatherBooks_104 ?_
                                            refine lv_iload_n E.1.1 E.1.2.1 dX5_gatherBooks_107 rfl (lv_at hl 0 rfl) ?_
                                            refine row_iald E B 51 rfl (vp_of tI_3 (by omega) (by omega)) dX5_gatherBooks_108 ?_
                                            refine b_le (tgt := 132) E (a_24 _) dX5_gatherBooks_109 (by decide) (fun c_44 => ?_) (fun c_44 => ?_)
                                            · skip
                                              refine lv_iinc (v := 4) (lv' := [(1, .int (4 : Int32)), (0, .ref (ad 50))]) E.1.1 E.1.2.1 dX5_gatherBooks_132 hl (k := 0) rfl (by decide) (by decide) rfl (fun ls hl => ?_)
                                              refine lv_goto (tgt := 88) E.1.1 E.1.2.1 dX5_gatherBooks_135 (by decide) ?_
                                              refine lv_iload_n E.1.1 E.1.2.1 dX5_gatherBooks_88 rfl (lv_at hl 0 rfl) ?_
                                              refine lv_bipush (v := 8) E.1.1 E.1.2.1 dX5_gatherBooks_89 (by decide) ?_
                                              refine c_ge (tgt := 138) E tI_4 tI_8 dX5_gatherBooks_91 (by decide) (fun c_45 => ?_) (fun c_45 => ?_)
                                              · exfalso; omega
                                              · skip
                                                refine lv_aload_n E.1.1 E.1.2.1 dX5_gatherBooks_94 rfl (lv_at hl 1 rfl) ?_
                                                refine row_get (v := .int (iv_30 33)) E B iX5 rfl 8 (by decide) mw_362 50 rfl rfl dX5_gatherBooks_95 ?_
                                                refine lv_bipush (v := 6) E.1.1 E.1.2.1 dX5_gatherBooks_98 (by decide) ?_
                                                refine c_ge (tgt := 138) E h_32 tI_6 dX5_gatherBooks_100 (by decide) (fun c_46 => ?_) (fun c_46 => ?_)
                                                · exfalso; omega
                                                · skip
                                                  refine lv_aload_n E.1.1 E.1.2.1 dX5_gatherBooks_103 rfl (lv_at hl 1 rfl) ?_
                                                  refine row_get (v := .ref (ad 51)) E B iX5 rfl 3 (by decide) mw_357 50 rfl rfl dX5_gatherBooks_104 ?_
                                                  refine lv_iload_n E.1.1 E.1.2.1 dX5_gatherBooks_107 rfl (lv_at hl 0 rfl) ?_
                                                  refine row_iald E B 51 rfl (vp_of tI_4 (by omega) (by omega)) dX5_gatherBooks_108 ?_
                                                  refine b_le (tgt := 132) E (a_24 _) dX5_gatherBooks_109 (by decide) (fun c_47 => ?_) (fun c_47 => ?_)
                                                  · skip
                                                    refine lv_iinc (v := 5) (lv' := [(1, .int (5 : Int32)), (0, .ref (ad 50))]) E.1.1 E.1.2.1 dX5_gatherBooks_132 hl (k := 0) rfl (by decide) (by decide) rfl (fun ls hl => ?_)
                                                    refine lv_goto (tgt := 88) E.1.1 E.1.2.1 dX5_gatherBooks_135 (by decide) ?_
                                                    refine lv_iload_n E.1.1 E.1.2.1 dX5_gatherBooks_88 rfl (lv_at hl 0 rfl) ?_
                                                    refine lv_bipush (v := 8) E.1.1 E.1.2.1 dX5_gatherBooks_89 (by decide) ?_
                                                    refine c_ge (tgt := 138) E tI_5 tI_8 dX5_gatherBooks_91 (by decide) (fun c_48 => ?_) (fun c_48 => ?_)
                                                    · exfalso; omega
                                                    · skip
                                                      refine lv_aload_n E.1.1 E.1.2.1 dX5_gatherBooks_94 rfl (lv_at hl 1 rfl) ?_
                                                      refine row_get (v := .int (iv_30 33)) E B iX5 rfl 8 (by decide) mw_362 50 rfl rfl dX5_gatherBooks_95 ?_
                                                      refine lv_bipush (v := 6) E.1.1 E.1.2.1 dX5_gatherBooks_98 (by decide) ?_
                                                      refine c_ge (tgt := 138) E h_32 tI_6 dX5_gatherBooks_100 (by decide) (fun c_49 => ?_) (fun c_49 => ?_)
                                                      · exfalso; omega
                                                      · skip
                                                        refine lv_aload_n E.1.1 E.1.2.1 dX5_gatherBooks_103 rfl (lv_at hl 1 rfl) ?_
                                                        refine row_get (v := .ref (ad 51)) E B iX5 rfl 3 (by decide) mw_357 50 rfl rfl dX5_gatherBooks_104 ?_
                                                        refine lv_iload_n E.1.1 E.1.2.1 dX5_gatherBooks_107 rfl (lv_at hl 0 rfl) ?_
                                                        refine row_iald E B 51 rfl (vp_of tI_5 (by omega) (by omega)) dX5_gatherBooks_108 ?_
                                                        refine b_le (tgt := 132) E (a_24 _) dX5_gatherBooks_109 (by decide) (fun c_50 => ?_) (fun c_50 => ?_)
                                                        · skip
                                                          refine lv_iinc (v := 6) (lv' := [(1, .int (6 : Int32)), (0, .ref (ad 50))]) E.1.1 E.1.2.1 dX5_gatherBooks_132 hl (k := 0) rfl (by decide) (by decide) rfl (fun ls hl => ?_)
                                                          refine lv_goto (tgt := 88) E.1.1 E.1.2.1 dX5_gatherBooks_135 (by decide) ?_
                                                          refine lv_iload_n E.1.1 E.1.2.1 dX5_gatherBooks_88 rfl (lv_at hl 0 rfl) ?_
                                                          refine lv_bipush (v := 8) E.1.1 E.1.2.1 dX5_gatherBooks_89 (by decide) ?_
                                                          refine c_ge (tgt := 138) E tI_6 tI_8 dX5_gatherBooks_91 (by decide) (fun c_51 => ?_) (fun c_51 => ?_)
                                                          · exfalso; omega
                                                          · skip
                                                            refine lv_aload_n E.1.1 E.1.2.1 dX5_gatherBooks_94 rfl (lv_at hl 1 rfl) ?_
                                                            refine row_get (v := .int (iv_30 33)) E B iX5 rfl 8 (by decide) mw_362 50 rfl rfl dX5_gatherBooks_95 ?_
                                                            refine lv_bipush (v := 6) E.1.1 E.1.2.1 dX5_gatherBooks_98 (by decide) ?_
                                                            refine c_ge (tgt := 138) E h_32 tI_6 dX5_gatherBooks_100 (by decide) (fun c_52 => ?_) (fun c_52 => ?_)
                                                            · exfalso; omega
                                                            · skip
                                                              refine lv_aload_n E.1.1 E.1.2.1 dX5_gatherBooks_103 rfl (lv_at hl 1 rfl) ?_
                                                              refine row_get (v := .ref (ad 51)) E B iX5 rfl 3 (by decide) mw_357 50 rfl rfl dX5_gatherBooks_104 ?_
                                                              refine lv_iload_n E.1.1 E.1.2.1 dX5_gatherBooks_107 rfl (lv_at hl 0 rfl) ?_
                                                              refine row_iald E B 51 rfl (vp_of tI_6 (by omega) (by omega)) dX5_gatherBooks_108 ?_
                                                              refine b_le (tgt := 132) E (a_24 _) dX5_gatherBooks_109 (by decide) (fun c_53 => ?_) (fun c_53 => ?_)
                                                              · skip
                                                                refine lv_iinc (v := 7) (lv' := [(1, .int (7 : Int32)), (0, .ref (ad 50))]) E.1.1 E.1.2.1 dX5_gatherBooks_132 hl (k := 0) rfl (by decide) (by decide) rfl (fun ls hl => ?_)
                                                                refine lv_goto (tgt := 88) E.1.1 E.1.2.1 dX5_gatherBooks_135 (by decide) ?_
                                                                refine lv_iload_n E.1.1 E.1.2.1 dX5_gatherBooks_88 rfl (lv_at hl 0 rfl) ?_
                                                                refine lv_bipush (v := 8) E.1.1 E.1.2.1 dX5_gatherBooks_89 (by decide) ?_
                                                                refine c_ge (tgt := 138) E tI_7 tI_8 dX5_gatherBooks_91 (by decide) (fun c_54 => ?_) (fun c_54 => ?_)
                                                                · exfalso; omega
                                                                · skip
                                                                  refine lv_aload_n E.1.1 E.1.2.1 dX5_gatherBooks_94 rfl (lv_at hl 1 rfl) ?_
                                                                  refine row_get (v := .int (iv_30 33)) E B iX5 rfl 8 (by decide) mw_362 50 rfl rfl dX5_gatherBooks_95 ?_
                                                                  refine lv_bipush (v := 6) E.1.1 E.1.2.1 dX5_gatherBooks_98 (by decide) ?_
                                                                  refine c_ge (tgt := 138) E h_32 tI_6 dX5_gatherBooks_100 (by decide) (fun c_55 => ?_) (fun c_55 => ?_)
                                                                  · exfalso; omega
                                                                  · skip
                                                                    refine lv_aload_n E.1.1 E.1.2.1 dX5_gatherBooks_103 rfl (lv_at hl 1 rfl) ?_
                                                                    refine row_get (v := .ref (ad 51)) E B iX5 rfl 3 (by decide) mw_357 50 rfl rfl dX5_gatherBooks_104 ?_
                                                                    refine lv_iload_n E.1.1 E.1.2.1 dX5_gatherBooks_107 rfl (lv_at hl 0 rfl) ?_
                                                                    refine row_iald E B 51 rfl (vp_of tI_7 (by omega) (by omega)) dX5_gatherBooks_108 ?_
                                                                    refine b_le (tgt := 132) E (a_24 _) dX5_gatherBooks_109 (by decide) (fun c_56 => ?_) (fun c_56 => ?_)
                                                                    · skip
                                                                      refine lv_iinc (v := 8) (lv' := [(1, .int (8 : Int32)), (0, .ref (ad 50))]) E.1.1 E.1.2.1 dX5_gatherBooks_132 hl (k := 0) rfl (by decide) (by decide) rfl (fun ls hl => ?_)
                                                                      refine lv_goto (tgt := 88) E.1.1 E.1.2.1 dX5_gatherBooks_135 (by decide) ?_
                                                                      refine lv_iload_n E.1.1 E.1.2.1 dX5_gatherBooks_88 rfl (lv_at hl 0 rfl) ?_
                                                                      refine lv_bipush (v := 8) E.1.1 E.1.2.1 dX5_gatherBooks_89 (by decide) ?_
                                                                      refine c_ge (tgt := 138) E tI_8 tI_8 dX5_gatherBooks_91 (by decide) (fun c_57 => ?_) (fun c_57 => ?_)
                                                                      · skip
                                                                        refine lv_iconst (v := 0) E.1.1 E.1.2.1 dX5_gatherBooks_138 (by decide) ?_
                                                                        refine lv_istore_n (lv' := [(1, .int (0 : Int32)), (0, .ref (ad 50))]) E.1.1 E.1.2.1 dX5_gatherBooks_139 rfl hl (by decide) rfl (fun ls hl => ?_)
                                                                        refine lv_iload_n E.1.1 E.1.2.1 dX5_gatherBooks_140 rfl (lv_at hl 0 rfl) ?_
                                                                        refine lv_aload_n E.1.1 E.1.2.1 dX5_gatherBooks_141 rfl (lv_at hl 1 rfl) ?_
                                                                        refine row_get (v := .ref (ad 53)) E B iX5 rfl 5 (by decide) mw_359 50 rfl rfl dX5_gatherBooks_142 ?_
                                                                        refine va_alen (v := 6) E.1.1 E.1.2.1 E.2.1.1 B.1 53 0 rfl rfl rfl dX5_gatherBooks_145 ?_
                                                                        refine at_pc (n := 146) rfl ?_
                                                                        refine c_ge (tgt := 162) E tI_0 tI_6 dX5_gatherBooks_146 (by decide) (fun c_58 => ?_) (fun c_58 => ?_)
                                                                        · exfalso; omega
                                                                        · skip
                                                                          refine lv_aload_n E.1.1 E.1.2.1 dX5_gatherBooks_149 rfl (lv_at hl 1 rfl) ?_
                                                                          refine row_get (v := .ref (ad 53)) E B iX5 rfl 5 (by decide) mw_359 50 rfl rfl dX5_gatherBooks_150 ?_
                                                                          refine lv_iload_n E.1.1 E.1.2.1 dX5_gatherBooks_153 rfl (lv_at hl 0 rfl) ?_
                                                                          refine lv_iconst (v := 0) E.1.1 E.1.2.1 dX5_gatherBooks_154 (by decide) ?_
                                                                          refine row_iast E B 53 rfl (vp_of tI_0 (by omega) (by omega)) dX5_gatherBooks_155 (fun H locs B => ?_)
                                                                          have B := Hp.eq (sx_ia_53 ct ad iv_30 ia_23 la pt ra R (upd (ia_23 53) (0 : Int32).toNatClampNeg (0 : Int32))) B
                                                                          have a_60 : ∀ j, ((va_up ia_23 53 (upd (ia_23 53) (0 : Int32).toNatClampNeg (0 : Int32))) 51 j).toInt = 0 := a_24
                                                                          generalize va_up ia_23 53 (upd (ia_23 53) (0 : Int32).toNatClampNeg (0 : Int32)) = ia_59 at B a_60
                                                                          refine lv_iinc (v := 1) (lv' := [(1, .int (1 : Int32)), (0, .ref (ad 50))]) E.1.1 E.1.2.1 dX5_gatherBooks_156 hl (k := 0) rfl (by decide) (by decide) rfl (fun ls hl => ?_)
                                                                          refine at_pc (n := 159) rfl ?_
                                                                          refine lv_goto (tgt := 140) E.1.1 E.1.2.1 dX5_gatherBooks_159 (by decide) ?_
                                                                          refine lv_iload_n E.1.1 E.1.2.1 dX5_gatherBooks_140 rfl (lv_at hl 0 rfl) ?_
                                                                          refine lv_aload_n E.1.1 E.1.2.1 dX5_gatherBooks_141 rfl (lv_at hl 1 rfl) ?_
                                                                          refine row_get (v := .ref (ad 53)) E B iX5 rfl 5 (by decide) mw_359 50 rfl rfl dX5_gatherBooks_142 ?_
                                                                          refine va_alen (v := 6) E.1.1 E.1.2.1 E.2.1.1 B.1 53 0 rfl rfl rfl dX5_gatherBooks_145 ?_
                                                                          refine c_ge (tgt := 162) E tI_1 tI_6 dX5_gatherBooks_146 (by decide) (fun c_61 => ?_) (fun c_61 => ?_)
                                                                          · exfalso; omega
                                                                          · skip
                                                                            refine lv_aload_n E.1.1 E.1.2.1 dX5_gatherBooks_149 rfl (lv_at hl 1 rfl) ?_
                                                                            refine row_get (v := .ref (ad 53)) E B iX5 rfl 5 (by decide) mw_359 50 rfl rfl dX5_gatherBooks_150 ?_
                                                                            refine lv_iload_n E.1.1 E.1.2.1 dX5_gatherBooks_153 rfl (lv_at hl 0 rfl) ?_
                                                                            refine lv_iconst (v := 0) E.1.1 E.1.2.1 dX5_gatherBooks_154 (by decide) ?_
                                                                            refine row_iast E B 53 rfl (vp_of tI_1 (by omega) (by omega)) dX5_gatherBooks_155 (fun H locs B => ?_)
                                                                            have B := Hp.eq (sx_ia_53 ct ad iv_30 ia_59 la pt ra R (upd (ia_59 53) (1 : Int32).toNatClampNeg (0 : Int32))) B
                                                                            have a_63 : ∀ j, ((va_up ia_59 53 (upd (ia_59 53) (1 : Int32).toNatClampNeg (0 : Int32))) 51 j).toInt = 0 := a_60
                                                                            generalize va_up ia_59 53 (upd (ia_59 53) (1 : Int32).toNatClampNeg (0 : Int32)) = ia_62 at B a_63
                                                                            refine lv_iinc (v := 2) (lv' := [(1, .int (2 : Int32)), (0, .ref (ad 50))]) E.1.1 E.1.2.1 dX5_gatherBooks_156 hl (k := 0) rfl (by decide) (by decide) rfl (fun ls hl => ?_)
                                                                            refine at_pc (n := 159) rfl ?_
                                                                            refine lv_goto (tgt := 140) E.1.1 E.1.2.1 dX5_gatherBooks_159 (by decide) ?_
                                                                            refine lv_iload_n E.1.1 E.1.2.1 dX5_gatherBooks_140 rfl (lv_at hl 0 rfl) ?_
                                                                            refine lv_aload_n E.1.1 E.1.2.1 dX5_gatherBooks_141 rfl (lv_at hl 1 rfl) ?_
                                                                            refine row_get (v := .ref (ad 53)) E B iX5 rfl 5 (by decide) mw_359 50 rfl rfl dX5_gatherBooks_142 ?_
                                                                            refine va_alen (v := 6) E.1.1 E.1.2.1 E.2.1.1 B.1 53 0 rfl rfl rfl dX5_gatherBooks_145 ?_
                                                                            refine c_ge (tgt := 162) E tI_2 tI_6 dX5_gatherBooks_146 (by decide) (fun c_64 => ?_) (fun c_64 => ?_)
                                                                            · exfalso; omega
                                                                            · skip
                                                                              refine lv_aload_n E.1.1 E.1.2.1 dX5_gatherBooks_149 rfl (lv_at hl 1 rfl) ?_
                                                                              refine row_get (v := .ref (ad 53)) E B iX5 rfl 5 (by decide) mw_359 50 rfl rfl dX5_gatherBooks_150 ?_
                                                                              refine lv_iload_n E.1.1 E.1.2.1 dX5_gatherBooks_153 rfl (lv_at hl 0 rfl) ?_
                                                                              refine lv_iconst (v := 0) E.1.1 E.1.2.1 dX5_gatherBooks_154 (by decide) ?_
                                                                              refine row_iast E B 53 rfl (vp_of tI_2 (by omega) (by omega)) dX5_gatherBooks_155 (fun H locs B => ?_)
                                                                              have B := Hp.eq (sx_ia_53 ct ad iv_30 ia_62 la pt ra R (upd (ia_62 53) (2 : Int32).toNatClampNeg (0 : Int32))) B
                                                                              have a_66 : ∀ j, ((va_up ia_62 53 (upd (ia_62 53) (2 : Int32).toNatClampNeg (0 : Int32))) 51 j).toInt = 0 := a_63
                                                                              generalize va_up ia_62 53 (upd (ia_62 53) (2 : Int32).toNatClampNeg (0 : Int32)) = ia_65 at B a_66
                                                                              refine lv_iinc (v := 3) (lv' := [(1, .int (3 : Int32)), (0, .ref (ad 50))]) E.1.1 E.1.2.1 dX5_gatherBooks_156 hl (k := 0) rfl (by decide) (by decide) rfl (fun ls hl => ?_)
                                                                              refine at_pc (n := 159) rfl ?_
                                                                              refine lv_goto (tgt := 140) E.1.1 E.1.2.1 dX5_gatherBooks_159 (by decide) ?_
                                                                              refine lv_iload_n E.1.1 E.1.2.1 dX5_gatherBooks_140 rfl (lv_at hl 0 rfl) ?_
                                                                              refine lv_aload_n E.1.1 E.1.2.1 dX5_gatherBooks_141 rfl (lv_at hl 1 rfl) ?_
                                                                              refine row_get (v := .ref (ad 53)) E B iX5 rfl 5 (by decide) mw_359 50 rfl rfl dX5_gatherBooks_142 ?_
                                                                              refine va_alen (v := 6) E.1.1 E.1.2.1 E.2.1.1 B.1 53 0 rfl rfl rfl dX5_gatherBooks_145 ?_
                                                                              refine c_ge (tgt := 162) E tI_3 tI_6 dX5_gatherBooks_146 (by decide) (fun c_67 => ?_) (fun c_67 => ?_)
                                                                              · exfalso; omega
                                                                              · skip
                                                                                refine lv_aload_n E.1.1 E.1.2.1 dX5_gatherBooks_149 rfl (lv_at hl 1 rfl) ?_
                                                                                refine row_get (v := .ref (ad 53)) E B iX5 rfl 5 (by decide) mw_359 50 rfl rfl dX5_gatherBooks_150 ?_
                                                                                refine lv_iload_n E.1.1 E.1.2.1 dX5_gatherBooks_153 rfl (lv_at hl 0 rfl) ?_
                                                                                refine lv_iconst (v := 0) E.1.1 E.1.2.1 dX5_gatherBooks_154 (by decide) ?_
                                                                                refine row_iast E B 53 rfl (vp_of tI_3 (by omega) (by omega)) dX5_gatherBooks_155 (fun H locs B => ?_)
                                                                                have B := Hp.eq (sx_ia_53 ct ad iv_30 ia_65 la pt ra R (upd (ia_65 53) (3 : Int32).toNatClampNeg (0 : Int32))) B
                                                                                have a_69 : ∀ j, ((va_up ia_65 53 (upd (ia_65 53) (3 : Int32).toNatClampNeg (0 : Int32))) 51 j).toInt = 0 := a_66
                                                                                generalize va_up ia_65 53 (upd (ia_65 53) (3 : Int32).toNatClampNeg (0 : Int32)) = ia_68 at B a_69
                                                                                refine lv_iinc (v := 4) (lv' := [(1, .int (4 : Int32)), (0, .ref (ad 50))]) E.1.1 E.1.2.1 dX5_gatherBooks_156 hl (k := 0) rfl (by decide) (by decide) rfl (fun ls hl => ?_)
                                                                                refine at_pc (n := 159) rfl ?_
                                                                                refine lv_goto (tgt := 140) E.1.1 E.1.2.1 dX5_gatherBooks_159 (by decide) ?_
                                                                                refine lv_iload_n E.1.1 E.1.2.1 dX5_gatherBooks_140 rfl (lv_at hl 0 rfl) ?_
                                                                                refine lv_aload_n E.1.1 E.1.2.1 dX5_gatherBooks_141 rfl (lv_at hl 1 rfl) ?_
                                                                                refine row_get (v := .ref (ad 53)) E B iX5 rfl 5 (by decide) mw_359 50 rfl rfl dX5_gatherBooks_142 ?_
                                                                                refine va_alen (v := 6) E.1.1 E.1.2.1 E.2.1.1 B.1 53 0 rfl rfl rfl dX5_gatherBooks_145 ?_
                                                                                refine c_ge (tgt := 162) E tI_4 tI_6 dX5_gatherBooks_146 (by decide) (fun c_70 => ?_) (fun c_70 => ?_)
                                                                                · exfalso; omega
                                                                                · skip
                                                                                  refine lv_aload_n E.1.1 E.1.2.1 dX5_gatherBooks_149 rfl (lv_at hl 1 rfl) ?_
                                                                                  refine row_get (v := .ref (ad 53)) E B iX5 rfl 5 (by decide) mw_359 50 rfl rfl dX5_gatherBooks_150 ?_
                                                                                  refine lv_iload_n E.1.1 E.1.2.1 dX5_gatherBooks_153 rfl (lv_at hl 0 rfl) ?_
                                                                                  refine lv_iconst (v := 0) E.1.1 E.1.2.1 dX5_gatherBooks_154 (by decide) ?_
                                                                                  refine row_iast E B 53 rfl (vp_of tI_4 (by omega) (by omega)) dX5_gatherBooks_155 (fun H locs B => ?_)
                                                                                  have B := Hp.eq (sx_ia_53 ct ad iv_30 ia_68 la pt ra R (upd (ia_68 53) (4 : Int32).toNatClampNeg (0 : Int32))) B
                                                                                  have a_72 : ∀ j, ((va_up ia_68 53 (upd (ia_68 53) (4 : Int32).toNatClampNeg (0 : Int32))) 51 j).toInt = 0 := a_69
                                                                                  generalize va_up ia_68 53 (upd (ia_68 53) (4 : Int32).toNatClampNeg (0 : Int32)) = ia_71 at B a_72
                                                                                  refine lv_iinc (v := 5) (lv' := [(1, .int (5 : Int32)), (0, .ref (ad 50))]) E.1.1 E.1.2.1 dX5_gatherBooks_156 hl (k := 0) rfl (by decide) (by decide) rfl (fun ls hl => ?_)
                                                                                  refine at_pc (n := 159) rfl ?_
                                                                                  refine lv_goto (tgt := 140) E.1.1 E.1.2.1 dX5_gatherBooks_159 (by decide) ?_
                                                                                  refine lv_iload_n E.1.1 E.1.2.1 dX5_gatherBooks_140 rfl (lv_at hl 0 rfl) ?_
                                                                                  refine lv_aload_n E.1.1 E.1.2.1 dX5_gatherBooks_141 rfl (lv_at hl 1 rfl) ?_
                                                                                  refine row_get (v := .ref (ad 53)) E B iX5 rfl 5 (by decide) mw_359 50 rfl rfl dX5_gatherBooks_142 ?_
                                                                                  refine va_alen (v := 6) E.1.1 E.1.2.1 E.2.1.1 B.1 53 0 rfl rfl rfl dX5_gatherBooks_145 ?_
                                                                                  refine c_ge (tgt := 162) E tI_5 tI_6 dX5_gatherBooks_146 (by decide) (fun c_73 => ?_) (fun c_73 => ?_)
                                                                                  · exfalso; omega
                                                                                  · skip
                                                                                    refine lv_aload_n E.1.1 E.1.2.1 dX5_gatherBooks_149 rfl (lv_at hl 1 rfl) ?_
                                                                                    refine row_get (v := .ref (ad 53)) E B iX5 rfl 5 (by decide) mw_359 50 rfl rfl dX5_gatherBooks_150 ?_
                                                                                    refine lv_iload_n E.1.1 E.1.2.1 dX5_gatherBooks_153 rfl (lv_at hl 0 rfl) ?_
                                                                                    refine lv_iconst (v := 0) E.1.1 E.1.2.1 dX5_gatherBooks_154 (by decide) ?_
                                                                                    refine row_iast E B 53 rfl (vp_of tI_5 (by omega) (by omega)) dX5_gatherBooks_155 (fun H locs B => ?_)
                                                                                    have B := Hp.eq (sx_ia_53 ct ad iv_30 ia_71 la pt ra R (upd (ia_71 53) (5 : Int32).toNatClampNeg (0 : Int32))) B
                                                                                    have a_75 : ∀ j, ((va_up ia_71 53 (upd (ia_71 53) (5 : Int32).toNatClampNeg (0 : Int32))) 51 j).toInt = 0 := a_72
                                                                                    generalize va_up ia_71 53 (upd (ia_71 53) (5 : Int32).toNatClampNeg (0 : Int32)) = ia_74 at B a_75
                                                                                    refine lv_iinc (v := 6) (lv' := [(1, .int (6 : Int32)), (0, .ref (ad 50))]) E.1.1 E.1.2.1 dX5_gatherBooks_156 hl (k := 0) rfl (by decide) (by decide) rfl (fun ls hl => ?_)
                                                                                    refine at_pc (n := 159) rfl ?_
                                                                                    refine lv_goto (tgt := 140) E.1.1 E.1.2.1 dX5_gatherBooks_159 (by decide) ?_
                                                                                    refine lv_iload_n E.1.1 E.1.2.1 dX5_gatherBooks_140 rfl (lv_at hl 0 rfl) ?_
                                                                                    refine lv_aload_n E.1.1 E.1.2.1 dX5_gatherBooks_141 rfl (lv_at hl 1 rfl) ?_
                                                                                    refine row_get (v := .ref (ad 53)) E B iX5 rfl 5 (by decide) mw_359 50 rfl rfl dX5_gatherBooks_142 ?_
                                                                                    refine va_alen (v := 6) E.1.1 E.1.2.1 E.2.1.1 B.1 53 0 rfl rfl rfl dX5_gatherBooks_145 ?_
                                                                                    refine c_ge (tgt := 162) E tI_6 tI_6 dX5_gatherBooks_146 (by decide) (fun c_76 => ?_) (fun c_76 => ?_)
                                                                                    · skip
                                                                                      exact ret_V (u := (iv_30, ia_74)) E hr hlk B (by have := h_32; omega) dX5_gatherBooks_162
                                                                                    · exfalso; omega
                                                                      · exfalso; omega
                                                                    · exfalso; omega
                                                              · exfalso; omega
                                                        · exfalso; omega
                                                  · exfalso; omega
                                            · exfalso; omega
                                      · exfalso; omega
                                · exfalso; omega
                          · exfalso; omega
                    · exfalso; omega
                  · exfalso; omega
set_option maxHeartbeats 4000000 in
set_option maxRecDepth 100000 in
theorem x_5_daysOfCentre (l : Launch) (D : va_G) (ct : Nat → ClassId) (tN : Nat) (ad : Nat → Nat) (iv : Nat → Int32) (ia : Nat → Nat → Int32) (la : Nat → Nat → Int64) (pt : Nat → Option Nat) (ra : Nat → Nat → Option Nat) (R : va_W)  (h33 : (iv 33).toInt = 0) : MI l D (TY ct) tN yX5_daysOfCentre cX5_daysOfCentre 3 (some .int) ({ frames := 0, cells := 0, slots := 0, locals := 0 } : Room) [.ref (ad 50)] (XW ct ad iv ia la pt ra R) (fun (v : Int32) (u : Unit) => v.toInt = 0) (fun _ => XW ct ad iv ia la pt ra R) 0 0 := by
  intro sz
  refine Met.ofE (Qc := fun A => va_Qi (fun (v : Int32) (u : Unit) => v.toInt = 0) (BW D A (fun _ => XW ct ad iv ia la pt ra R)) A) (by decide) (Nat.le_of_ble_eq_true rfl) ?_
  intro p e s m args below meth c A ls hsz E hr hlk hnm B hl
  have hl : lv_has ls 3 [(0, .ref (ad 50))] := hl
  refine lv_iconst (v := 0) E.1.1 E.1.2.1 dX5_daysOfCentre_0 (by decide) ?_
  refine lv_istore_n (lv' := [(1, .int (0 : Int32)), (0, .ref (ad 50))]) E.1.1 E.1.2.1 dX5_daysOfCentre_1 rfl hl (by decide) rfl (fun ls hl => ?_)
  refine lv_iconst (v := 0) E.1.1 E.1.2.1 dX5_daysOfCentre_2 (by decide) ?_
  refine lv_istore_n (lv' := [(2, .int (0 : Int32)), (1, .int (0 : Int32)), (0, .ref (ad 50))]) E.1.1 E.1.2.1 dX5_daysOfCentre_3 rfl hl (by decide) rfl (fun ls hl => ?_)
  refine lv_iload_n E.1.1 E.1.2.1 dX5_daysOfCentre_4 rfl (lv_at hl 0 rfl) ?_
  refine lv_aload_n E.1.1 E.1.2.1 dX5_daysOfCentre_5 rfl (lv_at hl 2 rfl) ?_
  refine at_pc (n := 6) rfl ?_
  refine row_get (v := .int (iv 33)) E B iX5 rfl 8 (by decide) mw_362 50 rfl rfl dX5_daysOfCentre_6 ?_
  refine c_ge (tgt := 32) E tI_0 h33 dX5_daysOfCentre_9 (by decide) (fun c_1 => ?_) (fun c_1 => ?_)
  · skip
    refine lv_iload_n E.1.1 E.1.2.1 dX5_daysOfCentre_32 rfl (lv_at hl 1 rfl) ?_
    refine b_ne (tgt := 38) E tI_0 dX5_daysOfCentre_33 (by decide) (fun c_2 => ?_) (fun c_2 => ?_)
    · exfalso; omega
    · skip
      refine lv_iconst (v := 0) E.1.1 E.1.2.1 dX5_daysOfCentre_36 (by decide) ?_
      have r_3 : (0 : Int32).toInt = 0 := tI_0
      exact ret_I (u := ()) E hr hlk rfl B (by omega) dX5_daysOfCentre_37
  · exfalso; omega
set_option maxHeartbeats 4000000 in
set_option maxRecDepth 100000 in
theorem x_5_give (l : Launch) (D : va_G) (ct : Nat → ClassId) (tN : Nat) (ad : Nat → Nat) (iv : Nat → Int32) (ia : Nat → Nat → Int32) (la : Nat → Nat → Int64) (pt : Nat → Option Nat) (ra : Nat → Nat → Option Nat) (R : va_W) (p0 : Int32) (p1 : Int32) (h33 : (iv 33).toInt = 0) (h34 : (iv 34).toInt = 2147483647) (q0 : p0.toInt = 0) (q1 : p1.toInt = 0) : MV l D (TY ct) tN yX5_give cX5_give 4 ({ frames := 0, cells := 0, slots := 0, locals := 0 } : Room) [.ref (ad 50), .int p0, .int p1] (XW ct ad iv ia la pt ra R) (fun (u : Nat → Int32) => (u 33).toInt = 0 ∧ (u 34).toInt = 0) (fun u => XW ct ad u ia la pt ra R) 0 0 := by
  intro sz
  refine Met.ofE (Qc := fun A => va_Qv (fun (u : Nat → Int32) => (u 33).toInt = 0 ∧ (u 34).toInt = 0) (BW D A (fun u => XW ct ad u ia la pt ra R)) A) (by decide) (Nat.le_of_ble_eq_true rfl) ?_
  intro p e s m args below meth c A ls hsz E hr hlk hnm B hl
  have hl : lv_has ls 4 [(0, .ref (ad 50)), (1, .int p0), (2, .int p1)] := hl
  refine lv_iload_n E.1.1 E.1.2.1 dX5_give_0 rfl (lv_at hl 2 rfl) ?_
  refine lv_aload_n E.1.1 E.1.2.1 dX5_give_1 rfl (lv_at hl 0 rfl) ?_
  refine row_get (v := .int (iv 34)) E B iX5 rfl 9 (by decide) mw_363 50 rfl rfl dX5_give_2 ?_
  refine c_lt (tgt := 9) E q1 h34 dX5_give_5 (by decide) (fun c_1 => ?_) (fun c_1 => ?_)
  · skip
    refine lv_iload_n E.1.1 E.1.2.1 dX5_give_9 rfl (lv_at hl 1 rfl) ?_
    refine lv_aload_n E.1.1 E.1.2.1 dX5_give_10 rfl (lv_at hl 0 rfl) ?_
    refine row_get (v := .int (iv 33)) E B iX5 rfl 8 (by decide) mw_362 50 rfl rfl dX5_give_11 ?_
    refine c_lt (tgt := 51) E q0 h33 dX5_give_14 (by decide) (fun c_2 => ?_) (fun c_2 => ?_)
    · exfalso; omega
    · skip
      refine lv_aload_n E.1.1 E.1.2.1 dX5_give_17 rfl (lv_at hl 0 rfl) ?_
      refine lv_iload_n E.1.1 E.1.2.1 dX5_give_18 rfl (lv_at hl 2 rfl) ?_
      refine row_put E B iX5 rfl tyX5 tyX5_ok nmX5 9 (by decide) mw_363 rfl 50 rfl rfl rfl (Nat.le_of_ble_eq_true rfl) dX5_give_19 (fun H locs B => ?_)
      have B := Hp.eq (sx_iv_34 ct ad iv ia la pt ra R p1) B
      have h_4 : ((va_up iv 34 p1) 33).toInt = 0 := h33
      have h_5 : ((va_up iv 34 p1) 34).toInt = 0 := q1
      generalize va_up iv 34 p1 = iv_3 at B h_4 h_5
      refine lv_iconst (v := 0) E.1.1 E.1.2.1 dX5_give_22 (by decide) ?_
      refine lv_istore_n (lv' := [(3, .int (0 : Int32)), (0, .ref (ad 50)), (1, .int p0), (2, .int p1)]) E.1.1 E.1.2.1 dX5_give_23 rfl hl (by decide) rfl (fun ls hl => ?_)
      refine lv_iload_n E.1.1 E.1.2.1 dX5_give_24 rfl (lv_at hl 0 rfl) ?_
      refine at_pc (n := 25) rfl ?_
      refine lv_aload_n E.1.1 E.1.2.1 dX5_give_25 rfl (lv_at hl 1 rfl) ?_
      refine row_get (v := .int (iv_3 33)) E B iX5 rfl 8 (by decide) mw_362 50 rfl rfl dX5_give_26 ?_
      refine c_ge (tgt := 50) E tI_0 h_4 dX5_give_29 (by decide) (fun c_6 => ?_) (fun c_6 => ?_)
      · skip
        exact ret_V (u := iv_3) E hr hlk B ⟨(by have := h_4; omega), (by have := h_5; omega)⟩ dX5_give_50
      · exfalso; omega
  · exfalso; omega
set_option maxHeartbeats 4000000 in
set_option maxRecDepth 100000 in
theorem x_5_answer (l : Launch) (D : va_G) (ct : Nat → ClassId) (tN : Nat) (ad : Nat → Nat) (iv : Nat → Int32) (ia : Nat → Nat → Int32) (la : Nat → Nat → Int64) (pt : Nat → Option Nat) (ra : Nat → Nat → Option Nat) (R : va_W) (p0 : Int32) (h3 : (iv 3).toInt = 0) (g51 : ∀ j, (ia 51 j).toInt = 0) : MI l D (TY ct) tN yX5_answer cX5_answer 3 (some .int) ({ frames := 2, cells := 0, slots := 0, locals := 42 } : Room) [.ref (ad 50), .int p0] (XW ct ad iv ia la pt ra R) (fun (v : Int32) (u : va_W) => (p0.toInt = -1 ∧ v.toInt = 0) ∨ (¬ p0.toInt = -1 ∧ v.toInt = -1)) (fun u => u) 0 0 := by
  intro sz
  refine Met.ofE (Qc := fun A => va_Qi (fun (v : Int32) (u : va_W) => (p0.toInt = -1 ∧ v.toInt = 0) ∨ (¬ p0.toInt = -1 ∧ v.toInt = -1)) (BW D A (fun u => u)) A) (by decide) (Nat.le_of_ble_eq_true rfl) ?_
  intro p e s m args below meth c A ls hsz E hr hlk hnm B hl
  have hl : lv_has ls 3 [(0, .ref (ad 50)), (1, .int p0)] := hl
  refine lv_aload_n E.1.1 E.1.2.1 dX5_answer_0 rfl (lv_at hl 0 rfl) ?_
  refine call_VV (kn := 0) E B (x_5_gatherBooks l D ct tN ad iv ia la pt ra R   h3 g51) (good_V mw_1366 mw_1368 ms_66 mw_11 mw_1369) 50 rfl rfl ⟨rfl, by decide +kernel⟩ rfl rfl rfl ⟨by decide, by decide⟩ rfl hl (Nat.le_of_ble_eq_true rfl) dX5_answer_1 ⟨Nat.le_of_ble_eq_true rfl, Nat.le_of_ble_eq_true rfl⟩ (fun u_2 H locs w_3 B => ?_)
  obtain ⟨iv_4, ia_5⟩ := u_2
  have h_6 := w_3
  have h_6 : (iv_4 33).toInt = 0 := h_6
  have B : Hp D A s.heap (XW ct ad iv_4 ia_5 la pt ra R) H locs := B
  refine at_n (n := 4) (k1 := 0) (k2 := 0) rfl rfl rfl ?_
  refine lv_aload_n E.1.1 E.1.2.1 dX5_answer_4 rfl (lv_at hl 0 rfl) ?_
  refine lv_ldc (v := 2147483647) E.1.1 E.1.2.1 E.1.2.2.2.1 (E.1.2.2.2.2 _ mw_1373) dX5_answer_5 ?_
  refine row_put E B iX5 rfl tyX5 tyX5_ok nmX5 9 (by decide) mw_363 rfl 50 rfl rfl rfl (Nat.le_of_ble_eq_true rfl) dX5_answer_7 (fun H locs B => ?_)
  have B := Hp.eq (sx_iv_34 ct ad iv_4 ia_5 la pt ra R ((2147483647 : Int32))) B
  have h_8 : ((va_up iv_4 34 (2147483647 : Int32)) 33).toInt = 0 := h_6
  have h_9 : ((va_up iv_4 34 (2147483647 : Int32)) 34).toInt = 2147483647 := tI_2147483647
  generalize va_up iv_4 34 (2147483647 : Int32) = iv_7 at B h_8 h_9
  refine lv_aload_n E.1.1 E.1.2.1 dX5_answer_10 rfl (lv_at hl 0 rfl) ?_
  refine call_VI (kn := 0) E B (x_5_daysOfCentre l D ct tN ad iv_7 ia_5 la pt ra R   h_8) (good_V mw_1374 mw_1376 ms_67 mw_11 mw_1377) 50 rfl rfl ⟨rfl, by decide +kernel⟩ rfl rfl rfl ⟨by decide, by decide⟩ rfl hl (Nat.le_of_ble_eq_true rfl) dX5_answer_11 ⟨Nat.le_of_ble_eq_true rfl, Nat.le_of_ble_eq_true rfl⟩ (fun v_10 u_11 H locs w_12 B => ?_)
  have w_12 : v_10.toInt = 0 := w_12
  have B : Hp D A s.heap (XW ct ad iv_7 ia_5 la pt ra R) H locs := B
  refine at_n (n := 14) (k1 := 0) (k2 := 0) rfl rfl rfl ?_
  refine lv_istore_n (lv' := [(2, .int v_10), (0, .ref (ad 50)), (1, .int p0)]) E.1.1 E.1.2.1 dX5_answer_14 rfl hl (by decide) rfl (fun ls hl => ?_)
  refine lv_iload_n E.1.1 E.1.2.1 dX5_answer_15 rfl (lv_at hl 0 rfl) ?_
  refine lv_iconst (v := -1) E.1.1 E.1.2.1 dX5_answer_16 (by decide) ?_
  refine c_eq (tgt := 26) E w_12 tI_m1 dX5_answer_17 (by decide) (fun c_13 => ?_) (fun c_13 => ?_)
  · exfalso; omega
  · skip
    refine lv_aload_n E.1.1 E.1.2.1 dX5_answer_20 rfl (lv_at hl 1 rfl) ?_
    refine lv_iconst (v := 0) E.1.1 E.1.2.1 dX5_answer_21 (by decide) ?_
    refine lv_iload_n E.1.1 E.1.2.1 dX5_answer_22 rfl (lv_at hl 0 rfl) ?_
    refine call_VV (kn := 2) E B (x_5_give l D ct tN ad iv_7 ia_5 la pt ra R  ((0 : Int32)) v_10 h_8 h_9 (by have := tI_0; omega) (by have := w_12; omega)) (good_V mw_1385 mw_1387 ms_68 mw_11 mw_1388) 50 rfl rfl ⟨rfl, by decide +kernel⟩ rfl rfl rfl ⟨by decide, by decide⟩ rfl hl (Nat.le_of_ble_eq_true rfl) dX5_answer_23 ⟨Nat.le_of_ble_eq_true rfl, Nat.le_of_ble_eq_true rfl⟩ (fun u_15 H locs w_16 B => ?_)
    obtain ⟨h_17, h_18⟩ := w_16
    have h_17 : (u_15 33).toInt = 0 := h_17
    have h_18 : (u_15 34).toInt = 0 := h_18
    have B : Hp D A s.heap (XW ct ad u_15 ia_5 la pt ra R) H locs := B
    refine at_n (n := 26) (k1 := 0) (k2 := 0) rfl rfl rfl ?_
    refine lv_aload_n E.1.1 E.1.2.1 dX5_answer_26 rfl (lv_at hl 1 rfl) ?_
    refine row_get (v := .int (u_15 34)) E B iX5 rfl 9 (by decide) mw_363 50 rfl rfl dX5_answer_27 ?_
    refine lv_ldc (v := 2147483647) E.1.1 E.1.2.1 E.1.2.2.2.1 (E.1.2.2.2.2 _ mw_1373) dX5_answer_30 ?_
    refine c_ne (tgt := 37) E h_18 tI_2147483647 dX5_answer_32 (by decide) (fun c_19 => ?_) (fun c_19 => ?_)
    · skip
      refine lv_iload_n E.1.1 E.1.2.1 dX5_answer_37 rfl (lv_at hl 2 rfl) ?_
      refine lv_iconst (v := -1) E.1.1 E.1.2.1 dX5_answer_38 (by decide) ?_
      refine c_ne (tgt := 47) E rfl tI_m1 dX5_answer_39 (by decide) (fun c_20 => ?_) (fun c_20 => ?_)
      · skip
        refine lv_iload_n E.1.1 E.1.2.1 dX5_answer_47 rfl (lv_at hl 2 rfl) ?_
        refine b_lt (tgt := 68) E rfl dX5_answer_48 (by decide) (fun c_21 => ?_) (fun c_21 => ?_)
        · skip
          refine lv_iconst (v := -1) E.1.1 E.1.2.1 dX5_answer_68 (by decide) ?_
          have r_22 : (-1 : Int32).toInt = -1 := tI_m1
          exact ret_I (u := _) E hr hlk rfl B (by omega) dX5_answer_69
        · skip
          refine lv_iload_n E.1.1 E.1.2.1 dX5_answer_51 rfl (lv_at hl 2 rfl) ?_
          refine lv_aload_n E.1.1 E.1.2.1 dX5_answer_52 rfl (lv_at hl 1 rfl) ?_
          refine row_get (v := .int (u_15 33)) E B iX5 rfl 8 (by decide) mw_362 50 rfl rfl dX5_answer_53 ?_
          refine c_ge (tgt := 68) E rfl h_17 dX5_answer_56 (by decide) (fun c_23 => ?_) (fun c_23 => ?_)
          · skip
            refine lv_iconst (v := -1) E.1.1 E.1.2.1 dX5_answer_68 (by decide) ?_
            have r_24 : (-1 : Int32).toInt = -1 := tI_m1
            exact ret_I (u := _) E hr hlk rfl B (by omega) dX5_answer_69
          · exfalso; omega
      · skip
        refine lv_aload_n E.1.1 E.1.2.1 dX5_answer_42 rfl (lv_at hl 1 rfl) ?_
        refine row_get (v := .int (u_15 34)) E B iX5 rfl 9 (by decide) mw_363 50 rfl rfl dX5_answer_43 ?_
        have r_25 : (u_15 34).toInt = 0 := h_18
        exact ret_I (u := _) E hr hlk rfl B (by omega) dX5_answer_46
    · exfalso; omega
set_option maxHeartbeats 4000000 in
set_option maxRecDepth 100000 in
theorem x_5_daysOf (l : Launch) (D : va_G) (ct : Nat → ClassId) (tN : Nat) (ad : Nat → Nat) (iv : Nat → Int32) (ia : Nat → Nat → Int32) (la : Nat → Nat → Int64) (pt : Nat → Option Nat) (ra : Nat → Nat → Option Nat) (R : va_W) (p0 : Int32) (h3 : (iv 3).toInt = 0) (g51 : ∀ j, (ia 51 j).toInt = 0) : MI l D (TY ct) tN yX5_daysOf cX5_daysOf 6 (some .int) ({ frames := 2, cells := 0, slots := 0, locals := 42 } : Room) [.ref (ad 50), .int p0] (XW ct ad iv ia la pt ra R) (fun (v : Int32) (u : va_W) => (p0.toInt = 0 ∧ v.toInt = 0) ∨ (¬ p0.toInt = 0 ∧ v.toInt = -1)) (fun u => u) 0 0 := by
  intro sz
  refine Met.ofE (Qc := fun A => va_Qi (fun (v : Int32) (u : va_W) => (p0.toInt = 0 ∧ v.toInt = 0) ∨ (¬ p0.toInt = 0 ∧ v.toInt = -1)) (BW D A (fun u => u)) A) (by decide) (Nat.le_of_ble_eq_true rfl) ?_
  intro p e s m args below meth c A ls hsz E hr hlk hnm B hl
  have hl : lv_has ls 6 [(0, .ref (ad 50)), (1, .int p0)] := hl
  refine lv_aload_n E.1.1 E.1.2.1 dX5_daysOf_0 rfl (lv_at hl 0 rfl) ?_
  refine call_VV (kn := 0) E B (x_5_gatherBooks l D ct tN ad iv ia la pt ra R   h3 g51) (good_V mw_1366 mw_1368 ms_66 mw_11 mw_1369) 50 rfl rfl ⟨rfl, by decide +kernel⟩ rfl rfl rfl ⟨by decide, by decide⟩ rfl hl (Nat.le_of_ble_eq_true rfl) dX5_daysOf_1 ⟨Nat.le_of_ble_eq_true rfl, Nat.le_of_ble_eq_true rfl⟩ (fun u_2 H locs w_3 B => ?_)
  obtain ⟨iv_4, ia_5⟩ := u_2
  have h_6 := w_3
  have h_6 : (iv_4 33).toInt = 0 := h_6
  have B : Hp D A s.heap (XW ct ad iv_4 ia_5 la pt ra R) H locs := B
  refine at_n (n := 4) (k1 := 0) (k2 := 0) rfl rfl rfl ?_
  refine lv_aload_n E.1.1 E.1.2.1 dX5_daysOf_4 rfl (lv_at hl 0 rfl) ?_
  refine call_VI (kn := 0) E B (x_5_daysOfCentre l D ct tN ad iv_4 ia_5 la pt ra R   h_6) (good_V mw_1374 mw_1376 ms_67 mw_11 mw_1377) 50 rfl rfl ⟨rfl, by decide +kernel⟩ rfl rfl rfl ⟨by decide, by decide⟩ rfl hl (Nat.le_of_ble_eq_true rfl) dX5_daysOf_5 ⟨Nat.le_of_ble_eq_true rfl, Nat.le_of_ble_eq_true rfl⟩ (fun v_7 u_8 H locs w_9 B => ?_)
  have w_9 : v_7.toInt = 0 := w_9
  have B : Hp D A s.heap (XW ct ad iv_4 ia_5 la pt ra R) H locs := B
  refine at_n (n := 8) (k1 := 0) (k2 := 0) rfl rfl rfl ?_
  refine lv_istore_n (lv' := [(2, .int v_7), (0, .ref (ad 50)), (1, .int p0)]) E.1.1 E.1.2.1 dX5_daysOf_8 rfl hl (by decide) rfl (fun ls hl => ?_)
  refine lv_iload_n E.1.1 E.1.2.1 dX5_daysOf_9 rfl (lv_at hl 2 rfl) ?_
  refine lv_istore_n (lv' := [(3, .int p0), (2, .int v_7), (0, .ref (ad 50)), (1, .int p0)]) E.1.1 E.1.2.1 dX5_daysOf_10 rfl hl (by decide) rfl (fun ls hl => ?_)
  refine lv_iconst (v := 0) E.1.1 E.1.2.1 dX5_daysOf_11 (by decide) ?_
  refine lv_istore (lv' := [(4, .int (0 : Int32)), (3, .int p0), (2, .int v_7), (0, .ref (ad 50)), (1, .int p0)]) E.1.1 E.1.2.1 dX5_daysOf_12 hl (by decide) rfl (fun ls hl => ?_)
  refine lv_iload E.1.1 E.1.2.1 dX5_daysOf_14 (lv_at hl 0 rfl) ?_
  refine at_pc (n := 16) rfl ?_
  refine lv_aload_n E.1.1 E.1.2.1 dX5_daysOf_16 rfl (lv_at hl 3 rfl) ?_
  refine row_get (v := .int (iv_4 33)) E B iX5 rfl 8 (by decide) mw_362 50 rfl rfl dX5_daysOf_17 ?_
  refine c_ge (tgt := 109) E tI_0 h_6 dX5_daysOf_20 (by decide) (fun c_10 => ?_) (fun c_10 => ?_)
  · skip
    refine lv_iload_n E.1.1 E.1.2.1 dX5_daysOf_109 rfl (lv_at hl 1 rfl) ?_
    refine b_ne (tgt := 117) E rfl dX5_daysOf_110 (by decide) (fun c_11 => ?_) (fun c_11 => ?_)
    · skip
      refine lv_iconst (v := -1) E.1.1 E.1.2.1 dX5_daysOf_117 (by decide) ?_
      have r_12 : (-1 : Int32).toInt = -1 := tI_m1
      exact ret_I (u := _) E hr hlk rfl B (by omega) dX5_daysOf_118
    · skip
      refine lv_iload_n E.1.1 E.1.2.1 dX5_daysOf_113 rfl (lv_at hl 2 rfl) ?_
      refine lv_goto (tgt := 118) E.1.1 E.1.2.1 dX5_daysOf_114 (by decide) ?_
      have r_13 : v_7.toInt = 0 := w_9
      exact ret_I (u := _) E hr hlk rfl B (by omega) dX5_daysOf_118
  · exfalso; omega
set_option maxHeartbeats 4000000 in
set_option maxRecDepth 100000 in
theorem x_11_putFour (l : Launch) (D : va_G) (ct : Nat → ClassId) (tN : Nat) (ad : Nat → Nat) (iv : Nat → Int32) (ia : Nat → Nat → Int32) (la : Nat → Nat → Int64) (pt : Nat → Option Nat) (ra : Nat → Nat → Option Nat) (R : va_W) (t : Int) (p0 : Int32) (h0 : (iv 0).toInt = t) (k0 : 0 ≤ t ∧ t ≤ 180) : MV l D (TY ct) tN yX11_putFour cX11_putFour 3 ({ frames := 0, cells := 0, slots := 0, locals := 0 } : Room) [.ref (ad 0), .int p0] (XW ct ad iv ia la pt ra R) (fun (u : (Nat → Int32) × (Nat → Nat → Int32)) => (u.1 0).toInt = t + 4) (fun u => XW ct ad u.1 u.2 la pt ra R) 0 0 := by
  intro sz
  refine Met.ofE (Qc := fun A => va_Qv (fun (u : (Nat → Int32) × (Nat → Nat → Int32)) => (u.1 0).toInt = t + 4) (BW D A (fun u => XW ct ad u.1 u.2 la pt ra R)) A) (by decide) (Nat.le_of_ble_eq_true rfl) ?_
  intro p e s m args below meth c A ls hsz E hr hlk hnm B hl
  have hl : lv_has ls 3 [(0, .ref (ad 0)), (1, .int p0)] := hl
  refine lv_bipush (v := 24) E.1.1 E.1.2.1 dX11_putFour_0 (by decide) ?_
  refine lv_istore_n (lv' := [(2, .int (24 : Int32)), (0, .ref (ad 0)), (1, .int p0)]) E.1.1 E.1.2.1 dX11_putFour_2 rfl hl (by decide) rfl (fun ls hl => ?_)
  refine lv_iload_n E.1.1 E.1.2.1 dX11_putFour_3 rfl (lv_at hl 0 rfl) ?_
  refine b_lt (tgt := 49) E tI_24 dX11_putFour_4 (by decide) (fun c_1 => ?_) (fun c_1 => ?_)
  · exfalso; omega
  · skip
    refine lv_aload_n E.1.1 E.1.2.1 dX11_putFour_7 rfl (lv_at hl 1 rfl) ?_
    refine row_get (v := .int (iv 0)) E B iX11 rfl 12 (by decide) mw_397 0 rfl rfl dX11_putFour_8 ?_
    refine lv_sipush (v := 200) E.1.1 E.1.2.1 dX11_putFour_11 (by decide) ?_
    refine c_ge (tgt := 43) E h0 tI_200 dX11_putFour_14 (by decide) (fun c_2 => ?_) (fun c_2 => ?_)
    · exfalso; omega
    · skip
      refine lv_aload_n E.1.1 E.1.2.1 dX11_putFour_17 rfl (lv_at hl 1 rfl) ?_
      refine row_get (v := .ref (ad 1)) E B iX11 rfl 0 (by decide) mw_385 0 rfl rfl dX11_putFour_18 ?_
      refine lv_aload_n E.1.1 E.1.2.1 dX11_putFour_21 rfl (lv_at hl 1 rfl) ?_
      refine row_get (v := .int (iv 0)) E B iX11 rfl 12 (by decide) mw_397 0 rfl rfl dX11_putFour_22 ?_
      refine lv_iload_n E.1.1 E.1.2.1 dX11_putFour_25 rfl (lv_at hl 2 rfl) ?_
      refine lv_iload_n E.1.1 E.1.2.1 dX11_putFour_26 rfl (lv_at hl 0 rfl) ?_
      refine at_pc (n := 27) rfl ?_
      refine lv_iushr E.1.1 E.1.2.1 dX11_putFour_27 rfl (any_i (fun z_3 => ?_))
      refine lv_sipush (v := 255) E.1.1 E.1.2.1 dX11_putFour_28 (by decide) ?_
      refine lv_iand E.1.1 E.1.2.1 dX11_putFour_31 (any_i (fun z_4 => ?_))
      refine row_iast E B 1 rfl (vp_of h0 (by omega) (by omega)) dX11_putFour_32 (fun H locs B => ?_)
      have B := Hp.eq (sx_ia_1 ct ad iv ia la pt ra R (upd (ia 1) (iv 0).toNatClampNeg z_4)) B
      generalize va_up ia 1 (upd (ia 1) (iv 0).toNatClampNeg z_4) = ia_5 at B 
      refine lv_aload_n E.1.1 E.1.2.1 dX11_putFour_33 rfl (lv_at hl 1 rfl) ?_
      refine lv_dup E.1.1 E.1.2.1 dX11_putFour_34 rfl ?_
      refine at_pc (n := 35) rfl ?_
      refine row_get (v := .int (iv 0)) E B iX11 rfl 12 (by decide) mw_397 0 rfl rfl dX11_putFour_35 ?_
      refine lv_iconst (v := 1) E.1.1 E.1.2.1 dX11_putFour_38 (by decide) ?_
      refine i_add E h0 tI_1 (by omega) (by omega) dX11_putFour_39 (fun z_6 ez_6 => ?_)
      have ez_6 : z_6.toInt = t + 1 := by omega
      refine row_put E B iX11 rfl tyX11 tyX11_ok nmX11 12 (by decide) mw_397 rfl 0 rfl rfl rfl (Nat.le_of_ble_eq_true rfl) dX11_putFour_40 (fun H locs B => ?_)
      have B := Hp.eq (sx_iv_0 ct ad iv ia_5 la pt ra R z_6) B
      have h_8 : ((va_up iv 0 z_6) 0).toInt = t + 1 := ez_6
      generalize va_up iv 0 z_6 = iv_7 at B h_8
      refine lv_iinc (v := 16) (lv' := [(2, .int (16 : Int32)), (0, .ref (ad 0)), (1, .int p0)]) E.1.1 E.1.2.1 dX11_putFour_43 hl (k := 0) rfl (by decide) (by decide) rfl (fun ls hl => ?_)
      refine lv_goto (tgt := 3) E.1.1 E.1.2.1 dX11_putFour_46 (by decide) ?_
      refine lv_iload_n E.1.1 E.1.2.1 dX11_putFour_3 rfl (lv_at hl 0 rfl) ?_
      refine at_pc (n := 4) rfl ?_
      refine b_lt (tgt := 49) E tI_16 dX11_putFour_4 (by decide) (fun c_9 => ?_) (fun c_9 => ?_)
      · exfalso; omega
      · skip
        refine lv_aload_n E.1.1 E.1.2.1 dX11_putFour_7 rfl (lv_at hl 1 rfl) ?_
        refine row_get (v := .int (iv_7 0)) E B iX11 rfl 12 (by decide) mw_397 0 rfl rfl dX11_putFour_8 ?_
        refine lv_sipush (v := 200) E.1.1 E.1.2.1 dX11_putFour_11 (by decide) ?_
        refine c_ge (tgt := 43) E h_8 tI_200 dX11_putFour_14 (by decide) (fun c_10 => ?_) (fun c_10 => ?_)
        · exfalso; omega
        · skip
          refine lv_aload_n E.1.1 E.1.2.1 dX11_putFour_17 rfl (lv_at hl 1 rfl) ?_
          refine row_get (v := .ref (ad 1)) E B iX11 rfl 0 (by decide) mw_385 0 rfl rfl dX11_putFour_18 ?_
          refine lv_aload_n E.1.1 E.1.2.1 dX11_putFour_21 rfl (lv_at hl 1 rfl) ?_
          refine row_get (v := .int (iv_7 0)) E B iX11 rfl 12 (by decide) mw_397 0 rfl rfl dX11_putFour_22 ?_
          refine lv_iload_n E.1.1 E.1.2.1 dX11_putFour_25 rfl (lv_at hl 2 rfl) ?_
          refine lv_iload_n E.1.1 E.1.2.1 dX11_putFour_26 rfl (lv_at hl 0 rfl) ?_
          refine at_pc (n := 27) rfl ?_
          refine lv_iushr E.1.1 E.1.2.1 dX11_putFour_27 rfl (any_i (fun z_11 => ?_))
          refine lv_sipush (v := 255) E.1.1 E.1.2.1 dX11_putFour_28 (by decide) ?_
          refine lv_iand E.1.1 E.1.2.1 dX11_putFour_31 (any_i (fun z_12 => ?_))
          refine row_iast E B 1 rfl (vp_of h_8 (by omega) (by omega)) dX11_putFour_32 (fun H locs B => ?_)
          have B := Hp.eq (sx_ia_1 ct ad iv_7 ia_5 la pt ra R (upd (ia_5 1) (iv_7 0).toNatClampNeg z_12)) B
          generalize va_up ia_5 1 (upd (ia_5 1) (iv_7 0).toNatClampNeg z_12) = ia_13 at B 
          refine lv_aload_n E.1.1 E.1.2.1 dX11_putFour_33 rfl (lv_at hl 1 rfl) ?_
          refine lv_dup E.1.1 E.1.2.1 dX11_putFour_34 rfl ?_
          refine at_pc (n := 35) rfl ?_
          refine row_get (v := .int (iv_7 0)) E B iX11 rfl 12 (by decide) mw_397 0 rfl rfl dX11_putFour_35 ?_
          refine lv_iconst (v := 1) E.1.1 E.1.2.1 dX11_putFour_38 (by decide) ?_
          refine i_add E h_8 tI_1 (by omega) (by omega) dX11_putFour_39 (fun z_14 ez_14 => ?_)
          have ez_14 : z_14.toInt = t + 2 := by omega
          refine row_put E B iX11 rfl tyX11 tyX11_ok nmX11 12 (by decide) mw_397 rfl 0 rfl rfl rfl (Nat.le_of_ble_eq_true rfl) dX11_putFour_40 (fun H locs B => ?_)
          have B := Hp.eq (sx_iv_0 ct ad iv_7 ia_13 la pt ra R z_14) B
          have h_16 : ((va_up iv_7 0 z_14) 0).toInt = t + 2 := ez_14
          generalize va_up iv_7 0 z_14 = iv_15 at B h_16
          refine lv_iinc (v := 8) (lv' := [(2, .int (8 : Int32)), (0, .ref (ad 0)), (1, .int p0)]) E.1.1 E.1.2.1 dX11_putFour_43 hl (k := 0) rfl (by decide) (by decide) rfl (fun ls hl => ?_)
          refine lv_goto (tgt := 3) E.1.1 E.1.2.1 dX11_putFour_46 (by decide) ?_
          refine lv_iload_n E.1.1 E.1.2.1 dX11_putFour_3 rfl (lv_at hl 0 rfl) ?_
          refine at_pc (n := 4) rfl ?_
          refine b_lt (tgt := 49) E tI_8 dX11_putFour_4 (by decide) (fun c_17 => ?_) (fun c_17 => ?_)
          · exfalso; omega
          · skip
            refine lv_aload_n E.1.1 E.1.2.1 dX11_putFour_7 rfl (lv_at hl 1 rfl) ?_
            refine row_get (v := .int (iv_15 0)) E B iX11 rfl 12 (by decide) mw_397 0 rfl rfl dX11_putFour_8 ?_
            refine lv_sipush (v := 200) E.1.1 E.1.2.1 dX11_putFour_11 (by decide) ?_
            refine c_ge (tgt := 43) E h_16 tI_200 dX11_putFour_14 (by decide) (fun c_18 => ?_) (fun c_18 => ?_)
            · exfalso; omega
            · skip
              refine lv_aload_n E.1.1 E.1.2.1 dX11_putFour_17 rfl (lv_at hl 1 rfl) ?_
              refine row_get (v := .ref (ad 1)) E B iX11 rfl 0 (by decide) mw_385 0 rfl rfl dX11_putFour_18 ?_
              refine lv_aload_n E.1.1 E.1.2.1 dX11_putFour_21 rfl (lv_at hl 1 rfl) ?_
              refine row_get (v := .int (iv_15 0)) E B iX11 rfl 12 (by decide) mw_397 0 rfl rfl dX11_putFour_22 ?_
              refine lv_iload_n E.1.1 E.1.2.1 dX11_putFour_25 rfl (lv_at hl 2 rfl) ?_
              refine lv_iload_n E.1.1 E.1.2.1 dX11_putFour_26 rfl (lv_at hl 0 rfl) ?_
              refine at_pc (n := 27) rfl ?_
              refine lv_iushr E.1.1 E.1.2.1 dX11_putFour_27 rfl (any_i (fun z_19 => ?_))
              refine lv_sipush (v := 255) E.1.1 E.1.2.1 dX11_putFour_28 (by decide) ?_
              refine lv_iand E.1.1 E.1.2.1 dX11_putFour_31 (any_i (fun z_20 => ?_))
              refine row_iast E B 1 rfl (vp_of h_16 (by omega) (by omega)) dX11_putFour_32 (fun H locs B => ?_)
              have B := Hp.eq (sx_ia_1 ct ad iv_15 ia_13 la pt ra R (upd (ia_13 1) (iv_15 0).toNatClampNeg z_20)) B
              generalize va_up ia_13 1 (upd (ia_13 1) (iv_15 0).toNatClampNeg z_20) = ia_21 at B 
              refine lv_aload_n E.1.1 E.1.2.1 dX11_putFour_33 rfl (lv_at hl 1 rfl) ?_
              refine lv_dup E.1.1 E.1.2.1 dX11_putFour_34 rfl ?_
              refine at_pc (n := 35) rfl ?_
              refine row_get (v := .int (iv_15 0)) E B iX11 rfl 12 (by decide) mw_397 0 rfl rfl dX11_putFour_35 ?_
              refine lv_iconst (v := 1) E.1.1 E.1.2.1 dX11_putFour_38 (by decide) ?_
              refine i_add E h_16 tI_1 (by omega) (by omega) dX11_putFour_39 (fun z_22 ez_22 => ?_)
              have ez_22 : z_22.toInt = t + 3 := by omega
              refine row_put E B iX11 rfl tyX11 tyX11_ok nmX11 12 (by decide) mw_397 rfl 0 rfl rfl rfl (Nat.le_of_ble_eq_true rfl) dX11_putFour_40 (fun H locs B => ?_)
              have B := Hp.eq (sx_iv_0 ct ad iv_15 ia_21 la pt ra R z_22) B
              have h_24 : ((va_up iv_15 0 z_22) 0).toInt = t + 3 := ez_22
              generalize va_up iv_15 0 z_22 = iv_23 at B h_24
              refine lv_iinc (v := 0) (lv' := [(2, .int (0 : Int32)), (0, .ref (ad 0)), (1, .int p0)]) E.1.1 E.1.2.1 dX11_putFour_43 hl (k := 0) rfl (by decide) (by decide) rfl (fun ls hl => ?_)
              refine lv_goto (tgt := 3) E.1.1 E.1.2.1 dX11_putFour_46 (by decide) ?_
              refine lv_iload_n E.1.1 E.1.2.1 dX11_putFour_3 rfl (lv_at hl 0 rfl) ?_
              refine at_pc (n := 4) rfl ?_
              refine b_lt (tgt := 49) E tI_0 dX11_putFour_4 (by decide) (fun c_25 => ?_) (fun c_25 => ?_)
              · exfalso; omega
              · skip
                refine lv_aload_n E.1.1 E.1.2.1 dX11_putFour_7 rfl (lv_at hl 1 rfl) ?_
                refine row_get (v := .int (iv_23 0)) E B iX11 rfl 12 (by decide) mw_397 0 rfl rfl dX11_putFour_8 ?_
                refine lv_sipush (v := 200) E.1.1 E.1.2.1 dX11_putFour_11 (by decide) ?_
                refine c_ge (tgt := 43) E h_24 tI_200 dX11_putFour_14 (by decide) (fun c_26 => ?_) (fun c_26 => ?_)
                · exfalso; omega
                · skip
                  refine lv_aload_n E.1.1 E.1.2.1 dX11_putFour_17 rfl (lv_at hl 1 rfl) ?_
                  refine row_get (v := .ref (ad 1)) E B iX11 rfl 0 (by decide) mw_385 0 rfl rfl dX11_putFour_18 ?_
                  refine lv_aload_n E.1.1 E.1.2.1 dX11_putFour_21 rfl (lv_at hl 1 rfl) ?_
                  refine row_get (v := .int (iv_23 0)) E B iX11 rfl 12 (by decide) mw_397 0 rfl rfl dX11_putFour_22 ?_
                  refine lv_iload_n E.1.1 E.1.2.1 dX11_putFour_25 rfl (lv_at hl 2 rfl) ?_
                  refine lv_iload_n E.1.1 E.1.2.1 dX11_putFour_26 rfl (lv_at hl 0 rfl) ?_
                  refine at_pc (n := 27) rfl ?_
                  refine lv_iushr E.1.1 E.1.2.1 dX11_putFour_27 rfl (any_i (fun z_27 => ?_))
                  refine lv_sipush (v := 255) E.1.1 E.1.2.1 dX11_putFour_28 (by decide) ?_
                  refine lv_iand E.1.1 E.1.2.1 dX11_putFour_31 (any_i (fun z_28 => ?_))
                  refine row_iast E B 1 rfl (vp_of h_24 (by omega) (by omega)) dX11_putFour_32 (fun H locs B => ?_)
                  have B := Hp.eq (sx_ia_1 ct ad iv_23 ia_21 la pt ra R (upd (ia_21 1) (iv_23 0).toNatClampNeg z_28)) B
                  generalize va_up ia_21 1 (upd (ia_21 1) (iv_23 0).toNatClampNeg z_28) = ia_29 at B 
                  refine lv_aload_n E.1.1 E.1.2.1 dX11_putFour_33 rfl (lv_at hl 1 rfl) ?_
                  refine lv_dup E.1.1 E.1.2.1 dX11_putFour_34 rfl ?_
                  refine at_pc (n := 35) rfl ?_
                  refine row_get (v := .int (iv_23 0)) E B iX11 rfl 12 (by decide) mw_397 0 rfl rfl dX11_putFour_35 ?_
                  refine lv_iconst (v := 1) E.1.1 E.1.2.1 dX11_putFour_38 (by decide) ?_
                  refine i_add E h_24 tI_1 (by omega) (by omega) dX11_putFour_39 (fun z_30 ez_30 => ?_)
                  have ez_30 : z_30.toInt = t + 4 := by omega
                  refine row_put E B iX11 rfl tyX11 tyX11_ok nmX11 12 (by decide) mw_397 rfl 0 rfl rfl rfl (Nat.le_of_ble_eq_true rfl) dX11_putFour_40 (fun H locs B => ?_)
                  have B := Hp.eq (sx_iv_0 ct ad iv_23 ia_29 la pt ra R z_30) B
                  have h_32 : ((va_up iv_23 0 z_30) 0).toInt = t + 4 := ez_30
                  generalize va_up iv_23 0 z_30 = iv_31 at B h_32
                  refine lv_iinc (v := -8) (lv' := [(2, .int (-8 : Int32)), (0, .ref (ad 0)), (1, .int p0)]) E.1.1 E.1.2.1 dX11_putFour_43 hl (k := 0) rfl (by decide) (by decide) rfl (fun ls hl => ?_)
                  refine lv_goto (tgt := 3) E.1.1 E.1.2.1 dX11_putFour_46 (by decide) ?_
                  refine lv_iload_n E.1.1 E.1.2.1 dX11_putFour_3 rfl (lv_at hl 0 rfl) ?_
                  refine at_pc (n := 4) rfl ?_
                  refine b_lt (tgt := 49) E tI_m8 dX11_putFour_4 (by decide) (fun c_33 => ?_) (fun c_33 => ?_)
                  · skip
                    exact ret_V (u := (iv_31, ia_29)) E hr hlk B (by have := h_32; omega) dX11_putFour_49
                  · exfalso; omega
