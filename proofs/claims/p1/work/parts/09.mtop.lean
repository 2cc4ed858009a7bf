theorem dX12_apart_0 : decode cX12_apart 0 = .ok (.iload_n 1, 1) := by decide +kernel
theorem dX12_apart_1 : decode cX12_apart 1 = .ok (.iconst 0, 1) := by decide +kernel
theorem dX12_apart_2 : decode cX12_apart 2 = .ok (.bipush 39, 2) := by decide +kernel
theorem dX12_apart_4 : decode cX12_apart 4 = .ok (.invokestatic 214, 3) := by decide +kernel
theorem dX12_apart_7 : decode cX12_apart 7 = .ok (.ifCond .eq 32, 3) := by decide +kernel
theorem dX12_apart_10 : decode cX12_apart 10 = .ok (.iload_n 2, 1) := by decide +kernel
theorem dX12_apart_11 : decode cX12_apart 11 = .ok (.iconst 0, 1) := by decide +kernel
theorem dX12_apart_12 : decode cX12_apart 12 = .ok (.bipush 39, 2) := by decide +kernel
theorem dX12_apart_14 : decode cX12_apart 14 = .ok (.invokestatic 214, 3) := by decide +kernel
theorem dX12_apart_17 : decode cX12_apart 17 = .ok (.ifCond .eq 22, 3) := by decide +kernel
theorem dX12_apart_20 : decode cX12_apart 20 = .ok (.iload_n 1, 1) := by decide +kernel
theorem dX12_apart_21 : decode cX12_apart 21 = .ok (.iload_n 2, 1) := by decide +kernel
theorem dX12_apart_22 : decode cX12_apart 22 = .ok (.if_icmp .eq 17, 3) := by decide +kernel
theorem dX12_apart_25 : decode cX12_apart 25 = .ok (.aload_n 0, 1) := by decide +kernel
theorem dX12_apart_26 : decode cX12_apart 26 = .ok (.getfield 183, 3) := by decide +kernel
theorem dX12_apart_29 : decode cX12_apart 29 = .ok (.bipush 40, 2) := by decide +kernel
theorem dX12_apart_31 : decode cX12_apart 31 = .ok (.iload_n 1, 1) := by decide +kernel
theorem dX12_apart_32 : decode cX12_apart 32 = .ok (.imul, 1) := by decide +kernel
theorem dX12_apart_33 : decode cX12_apart 33 = .ok (.iload_n 2, 1) := by decide +kernel
theorem dX12_apart_34 : decode cX12_apart 34 = .ok (.iadd, 1) := by decide +kernel
theorem dX12_apart_35 : decode cX12_apart 35 = .ok (.baload, 1) := by decide +kernel
theorem dX12_apart_36 : decode cX12_apart 36 = .ok (.ifCond .eq 5, 3) := by decide +kernel
theorem dX12_apart_39 : decode cX12_apart 39 = .ok (.iconst 0, 1) := by decide +kernel
theorem dX12_apart_40 : decode cX12_apart 40 = .ok (.ireturn, 1) := by decide +kernel
theorem dX12_apart_41 : decode cX12_apart 41 = .ok (.aload_n 0, 1) := by decide +kernel
theorem dX12_apart_42 : decode cX12_apart 42 = .ok (.getfield 183, 3) := by decide +kernel
theorem dX12_apart_45 : decode cX12_apart 45 = .ok (.bipush 40, 2) := by decide +kernel
theorem dX12_apart_47 : decode cX12_apart 47 = .ok (.iload_n 1, 1) := by decide +kernel
theorem dX12_apart_48 : decode cX12_apart 48 = .ok (.imul, 1) := by decide +kernel
theorem dX12_apart_49 : decode cX12_apart 49 = .ok (.iload_n 2, 1) := by decide +kernel
theorem dX12_apart_50 : decode cX12_apart 50 = .ok (.iadd, 1) := by decide +kernel
theorem dX12_apart_51 : decode cX12_apart 51 = .ok (.iconst 1, 1) := by decide +kernel
theorem dX12_apart_52 : decode cX12_apart 52 = .ok (.bastore, 1) := by decide +kernel
theorem dX12_apart_53 : decode cX12_apart 53 = .ok (.aload_n 0, 1) := by decide +kernel
theorem dX12_apart_54 : decode cX12_apart 54 = .ok (.getfield 183, 3) := by decide +kernel
theorem dX12_apart_57 : decode cX12_apart 57 = .ok (.bipush 40, 2) := by decide +kernel
theorem dX12_apart_59 : decode cX12_apart 59 = .ok (.iload_n 2, 1) := by decide +kernel
theorem dX12_apart_60 : decode cX12_apart 60 = .ok (.imul, 1) := by decide +kernel
theorem dX12_apart_61 : decode cX12_apart 61 = .ok (.iload_n 1, 1) := by decide +kernel
theorem dX12_apart_62 : decode cX12_apart 62 = .ok (.iadd, 1) := by decide +kernel
theorem dX12_apart_63 : decode cX12_apart 63 = .ok (.iconst 1, 1) := by decide +kernel
theorem dX12_apart_64 : decode cX12_apart 64 = .ok (.bastore, 1) := by decide +kernel
theorem dX12_apart_65 : decode cX12_apart 65 = .ok (.iconst 1, 1) := by decide +kernel
theorem dX12_apart_66 : decode cX12_apart 66 = .ok (.ireturn, 1) := by decide +kernel
theorem dX12_asks_0 : decode cX12_asks 0 = .ok (.aload_n 0, 1) := by decide +kernel
theorem dX12_asks_1 : decode cX12_asks 1 = .ok (.iload_n 1, 1) := by decide +kernel
theorem dX12_asks_2 : decode cX12_asks 2 = .ok (.invokevirtual 231, 3) := by decide +kernel
theorem dX12_asks_5 : decode cX12_asks 5 = .ok (.ifCond .eq 11, 3) := by decide +kernel
theorem dX12_asks_16 : decode cX12_asks 16 = .ok (.iconst (-1), 1) := by decide +kernel
theorem dX12_asks_17 : decode cX12_asks 17 = .ok (.ireturn, 1) := by decide +kernel
theorem dX12_breach_0 : decode cX12_breach 0 = .ok (.aload_n 0, 1) := by decide +kernel
theorem dX12_breach_1 : decode cX12_breach 1 = .ok (.iload_n 1, 1) := by decide +kernel
theorem dX12_breach_2 : decode cX12_breach 2 = .ok (.invokevirtual 424, 3) := by decide +kernel
theorem dX12_breach_5 : decode cX12_breach 5 = .ok (.ifCond .eq 17, 3) := by decide +kernel
theorem dX12_breach_22 : decode cX12_breach 22 = .ok (.iconst (-1), 1) := by decide +kernel
theorem dX12_breach_23 : decode cX12_breach 23 = .ok (.ireturn, 1) := by decide +kernel
theorem dX12_breaches_0 : decode cX12_breaches 0 = .ok (.aload_n 0, 1) := by decide +kernel
theorem dX12_breaches_1 : decode cX12_breaches 1 = .ok (.iload_n 1, 1) := by decide +kernel
theorem dX12_breaches_2 : decode cX12_breaches 2 = .ok (.invokevirtual 424, 3) := by decide +kernel
theorem dX12_breaches_5 : decode cX12_breaches 5 = .ok (.ifCond .eq 12, 3) := by decide +kernel
theorem dX12_breaches_17 : decode cX12_breaches 17 = .ok (.iconst (-1), 1) := by decide +kernel
theorem dX12_breaches_18 : decode cX12_breaches 18 = .ok (.ireturn, 1) := by decide +kernel
theorem dX12_centre_0 : decode cX12_centre 0 = .ok (.iload_n 1, 1) := by decide +kernel
theorem dX12_centre_1 : decode cX12_centre 1 = .ok (.iconst 0, 1) := by decide +kernel
theorem dX12_centre_2 : decode cX12_centre 2 = .ok (.bipush 99, 2) := by decide +kernel
theorem dX12_centre_4 : decode cX12_centre 4 = .ok (.invokestatic 214, 3) := by decide +kernel
theorem dX12_centre_7 : decode cX12_centre 7 = .ok (.ifCond .ne 5, 3) := by decide +kernel
theorem dX12_centre_10 : decode cX12_centre 10 = .ok (.iconst 0, 1) := by decide +kernel
theorem dX12_centre_11 : decode cX12_centre 11 = .ok (.ireturn, 1) := by decide +kernel
theorem dX12_centre_12 : decode cX12_centre 12 = .ok (.aload_n 0, 1) := by decide +kernel
theorem dX12_centre_13 : decode cX12_centre 13 = .ok (.iload_n 1, 1) := by decide +kernel
theorem dX12_centre_14 : decode cX12_centre 14 = .ok (.putfield 259, 3) := by decide +kernel
theorem dX12_centre_17 : decode cX12_centre 17 = .ok (.iconst 1, 1) := by decide +kernel
theorem dX12_centre_18 : decode cX12_centre 18 = .ok (.ireturn, 1) := by decide +kernel
theorem dX12_changes_0 : decode cX12_changes 0 = .ok (.aload_n 0, 1) := by decide +kernel
theorem dX12_changes_1 : decode cX12_changes 1 = .ok (.iload_n 1, 1) := by decide +kernel
theorem dX12_changes_2 : decode cX12_changes 2 = .ok (.invokevirtual 231, 3) := by decide +kernel
theorem dX12_changes_5 : decode cX12_changes 5 = .ok (.ifCond .eq 27, 3) := by decide +kernel
theorem dX12_changes_32 : decode cX12_changes 32 = .ok (.iconst (-1), 1) := by decide +kernel
theorem dX12_changes_33 : decode cX12_changes 33 = .ok (.ireturn, 1) := by decide +kernel
theorem dX12_check_0 : decode cX12_check 0 = .ok (.iload_n 1, 1) := by decide +kernel
theorem dX12_check_1 : decode cX12_check 1 = .ok (.iconst 0, 1) := by decide +kernel
theorem dX12_check_2 : decode cX12_check 2 = .ok (.bipush 60, 2) := by decide +kernel
theorem dX12_check_4 : decode cX12_check 4 = .ok (.invokestatic 214, 3) := by decide +kernel
theorem dX12_check_7 : decode cX12_check 7 = .ok (.ifCond .eq 13, 3) := by decide +kernel
theorem dX12_check_10 : decode cX12_check 10 = .ok (.iconst 2, 1) := by decide +kernel
theorem dX12_check_11 : decode cX12_check 11 = .ok (.iload_n 1, 1) := by decide +kernel
theorem dX12_check_12 : decode cX12_check 12 = .ok (.imul, 1) := by decide +kernel
theorem dX12_check_13 : decode cX12_check 13 = .ok (.aload_n 0, 1) := by decide +kernel
theorem dX12_check_14 : decode cX12_check 14 = .ok (.getfield 224, 3) := by decide +kernel
theorem dX12_check_17 : decode cX12_check 17 = .ok (.if_icmp .le 6, 3) := by decide +kernel
theorem dX12_check_20 : decode cX12_check 20 = .ok (.bipush (-2), 2) := by decide +kernel
theorem dX12_check_22 : decode cX12_check 22 = .ok (.ireturn, 1) := by decide +kernel
theorem dX12_check_23 : decode cX12_check 23 = .ok (.aload_n 0, 1) := by decide +kernel
theorem dX12_check_24 : decode cX12_check 24 = .ok (.iconst 0, 1) := by decide +kernel
theorem dX12_check_25 : decode cX12_check 25 = .ok (.putfield 224, 3) := by decide +kernel
theorem dX12_check_28 : decode cX12_check 28 = .ok (.iconst 0, 1) := by decide +kernel
theorem dX12_check_29 : decode cX12_check 29 = .ok (.istore_n 2, 1) := by decide +kernel
theorem dX12_check_30 : decode cX12_check 30 = .ok (.iload_n 2, 1) := by decide +kernel
theorem dX12_check_31 : decode cX12_check 31 = .ok (.iload_n 1, 1) := by decide +kernel
theorem dX12_check_32 : decode cX12_check 32 = .ok (.if_icmp .ge 68, 3) := by decide +kernel
theorem dX12_check_100 : decode cX12_check 100 = .ok (.aload_n 0, 1) := by decide +kernel
theorem dX12_check_101 : decode cX12_check 101 = .ok (.iload_n 1, 1) := by decide +kernel
theorem dX12_check_102 : decode cX12_check 102 = .ok (.invokevirtual 566, 3) := by decide +kernel
theorem dX12_check_105 : decode cX12_check 105 = .ok (.iconst (-1), 1) := by decide +kernel
theorem dX12_check_106 : decode cX12_check 106 = .ok (.if_icmp .ne 7, 3) := by decide +kernel
theorem dX12_check_109 : decode cX12_check 109 = .ok (.iconst (-1), 1) := by decide +kernel
theorem dX12_check_110 : decode cX12_check 110 = .ok (.goto 6, 3) := by decide +kernel
theorem dX12_check_116 : decode cX12_check 116 = .ok (.ireturn, 1) := by decide +kernel
theorem dX12_close_0 : decode cX12_close 0 = .ok (.aload_n 0, 1) := by decide +kernel
theorem dX12_close_1 : decode cX12_close 1 = .ok (.iload_n 1, 1) := by decide +kernel
theorem dX12_close_2 : decode cX12_close 2 = .ok (.invokevirtual 427, 3) := by decide +kernel
theorem dX12_close_5 : decode cX12_close 5 = .ok (.ifCond .ne 5, 3) := by decide +kernel
theorem dX12_close_8 : decode cX12_close 8 = .ok (.iconst (-1), 1) := by decide +kernel
theorem dX12_close_9 : decode cX12_close 9 = .ok (.ireturn, 1) := by decide +kernel
theorem dX12_company_0 : decode cX12_company 0 = .ok (.aload_n 0, 1) := by decide +kernel
theorem dX12_company_1 : decode cX12_company 1 = .ok (.getfield 256, 3) := by decide +kernel
theorem dX12_company_4 : decode cX12_company 4 = .ok (.bipush 6, 2) := by decide +kernel
theorem dX12_company_6 : decode cX12_company 6 = .ok (.if_icmp .eq 24, 3) := by decide +kernel
theorem dX12_company_9 : decode cX12_company 9 = .ok (.iload_n 1, 1) := by decide +kernel
theorem dX12_company_10 : decode cX12_company 10 = .ok (.iconst 0, 1) := by decide +kernel
theorem dX12_company_11 : decode cX12_company 11 = .ok (.sipush 255, 3) := by decide +kernel
theorem dX12_company_14 : decode cX12_company 14 = .ok (.invokestatic 214, 3) := by decide +kernel
theorem dX12_company_17 : decode cX12_company 17 = .ok (.ifCond .eq 13, 3) := by decide +kernel
theorem dX12_company_20 : decode cX12_company 20 = .ok (.iload_n 2, 1) := by decide +kernel
theorem dX12_company_21 : decode cX12_company 21 = .ok (.iconst 0, 1) := by decide +kernel
theorem dX12_company_22 : decode cX12_company 22 = .ok (.bipush 99, 2) := by decide +kernel
theorem dX12_company_24 : decode cX12_company 24 = .ok (.invokestatic 214, 3) := by decide +kernel
theorem dX12_company_27 : decode cX12_company 27 = .ok (.ifCond .ne 5, 3) := by decide +kernel
theorem dX12_company_30 : decode cX12_company 30 = .ok (.iconst (-1), 1) := by decide +kernel
theorem dX12_company_31 : decode cX12_company 31 = .ok (.ireturn, 1) := by decide +kernel
theorem dX12_company_32 : decode cX12_company 32 = .ok (.aload_n 0, 1) := by decide +kernel
theorem dX12_company_33 : decode cX12_company 33 = .ok (.getfield 32, 3) := by decide +kernel
theorem dX12_company_36 : decode cX12_company 36 = .ok (.aload_n 0, 1) := by decide +kernel
theorem dX12_company_37 : decode cX12_company 37 = .ok (.getfield 256, 3) := by decide +kernel
theorem dX12_company_40 : decode cX12_company 40 = .ok (.iload_n 1, 1) := by decide +kernel
theorem dX12_company_41 : decode cX12_company 41 = .ok (.iastore, 1) := by decide +kernel
theorem dX12_company_42 : decode cX12_company 42 = .ok (.aload_n 0, 1) := by decide +kernel
theorem dX12_company_43 : decode cX12_company 43 = .ok (.getfield 35, 3) := by decide +kernel
theorem dX12_company_46 : decode cX12_company 46 = .ok (.aload_n 0, 1) := by decide +kernel
theorem dX12_company_47 : decode cX12_company 47 = .ok (.getfield 256, 3) := by decide +kernel
theorem dX12_company_50 : decode cX12_company 50 = .ok (.iload_n 2, 1) := by decide +kernel
theorem dX12_company_51 : decode cX12_company 51 = .ok (.iastore, 1) := by decide +kernel
theorem dX12_company_52 : decode cX12_company 52 = .ok (.aload_n 0, 1) := by decide +kernel
theorem dX12_company_53 : decode cX12_company 53 = .ok (.dup, 1) := by decide +kernel
theorem dX12_company_54 : decode cX12_company 54 = .ok (.getfield 256, 3) := by decide +kernel
theorem dX12_company_57 : decode cX12_company 57 = .ok (.iconst 1, 1) := by decide +kernel
theorem dX12_company_58 : decode cX12_company 58 = .ok (.iadd, 1) := by decide +kernel
theorem dX12_company_59 : decode cX12_company 59 = .ok (.putfield 256, 3) := by decide +kernel
theorem dX12_company_62 : decode cX12_company 62 = .ok (.aload_n 0, 1) := by decide +kernel
theorem dX12_company_63 : decode cX12_company 63 = .ok (.getfield 256, 3) := by decide +kernel
theorem dX12_company_66 : decode cX12_company 66 = .ok (.iconst 1, 1) := by decide +kernel
theorem dX12_company_67 : decode cX12_company 67 = .ok (.isub, 1) := by decide +kernel
theorem dX12_company_68 : decode cX12_company 68 = .ok (.ireturn, 1) := by decide +kernel
theorem dX12_cost_0 : decode cX12_cost 0 = .ok (.aload_n 0, 1) := by decide +kernel
theorem dX12_cost_1 : decode cX12_cost 1 = .ok (.iload_n 1, 1) := by decide +kernel
theorem dX12_cost_2 : decode cX12_cost 2 = .ok (.invokevirtual 518, 3) := by decide +kernel
theorem dX12_cost_5 : decode cX12_cost 5 = .ok (.ifCond .ne 5, 3) := by decide +kernel
theorem dX12_cost_8 : decode cX12_cost 8 = .ok (.iconst (-1), 1) := by decide +kernel
theorem dX12_cost_9 : decode cX12_cost 9 = .ok (.ireturn, 1) := by decide +kernel
theorem dX12_cost_10 : decode cX12_cost 10 = .ok (.aload_n 0, 1) := by decide +kernel
theorem dX12_cost_11 : decode cX12_cost 11 = .ok (.invokevirtual 521, 3) := by decide +kernel
theorem dX12_cost_14 : decode cX12_cost 14 = .ok (.aload_n 0, 1) := by decide +kernel
theorem dX12_cost_15 : decode cX12_cost 15 = .ok (.iload_n 1, 1) := by decide +kernel
theorem dX12_cost_16 : decode cX12_cost 16 = .ok (.invokevirtual 524, 3) := by decide +kernel
theorem dX12_cost_19 : decode cX12_cost 19 = .ok (.ifCond .eq 11, 3) := by decide +kernel
theorem dX12_cost_22 : decode cX12_cost 22 = .ok (.aload_n 0, 1) := by decide +kernel
theorem dX12_cost_23 : decode cX12_cost 23 = .ok (.iload_n 1, 1) := by decide +kernel
theorem dX12_cost_24 : decode cX12_cost 24 = .ok (.invokevirtual 527, 3) := by decide +kernel
theorem dX12_cost_27 : decode cX12_cost 27 = .ok (.goto 5, 3) := by decide +kernel
theorem dX12_cost_32 : decode cX12_cost 32 = .ok (.ireturn, 1) := by decide +kernel
theorem dX12_count_0 : decode cX12_count 0 = .ok (.iconst 0, 1) := by decide +kernel
theorem dX12_count_1 : decode cX12_count 1 = .ok (.istore_n 2, 1) := by decide +kernel
theorem dX12_count_2 : decode cX12_count 2 = .ok (.iload_n 1, 1) := by decide +kernel
theorem dX12_count_3 : decode cX12_count 3 = .ok (.bipush 20, 2) := by decide +kernel
theorem dX12_count_5 : decode cX12_count 5 = .ok (.bipush 24, 2) := by decide +kernel
theorem dX12_count_7 : decode cX12_count 7 = .ok (.invokestatic 214, 3) := by decide +kernel
theorem dX12_count_10 : decode cX12_count 10 = .ok (.ifCond .eq 42, 3) := by decide +kernel
theorem dX12_count_13 : decode cX12_count 13 = .ok (.iconst 0, 1) := by decide +kernel
theorem dX12_count_14 : decode cX12_count 14 = .ok (.istore_n 3, 1) := by decide +kernel
theorem dX12_count_15 : decode cX12_count 15 = .ok (.iload_n 3, 1) := by decide +kernel
theorem dX12_count_16 : decode cX12_count 16 = .ok (.aload_n 0, 1) := by decide +kernel
theorem dX12_count_17 : decode cX12_count 17 = .ok (.getfield 421, 3) := by decide +kernel
theorem dX12_count_20 : decode cX12_count 20 = .ok (.if_icmp .ge 30, 3) := by decide +kernel
theorem dX12_count_50 : decode cX12_count 50 = .ok (.iload_n 2, 1) := by decide +kernel
theorem dX12_count_51 : decode cX12_count 51 = .ok (.ireturn, 1) := by decide +kernel
theorem dX12_count_52 : decode cX12_count 52 = .ok (.iload_n 1, 1) := by decide +kernel
theorem dX12_count_53 : decode cX12_count 53 = .ok (.tableswitch 145 0 10 #[59, 64, 69, 74, 79, 84, 89, 94, 99, 104, 139], 59) := by decide +kernel
theorem dX12_count_112 : decode cX12_count 112 = .ok (.aload_n 0, 1) := by decide +kernel
theorem dX12_count_113 : decode cX12_count 113 = .ok (.getfield 221, 3) := by decide +kernel
theorem dX12_count_116 : decode cX12_count 116 = .ok (.ireturn, 1) := by decide +kernel
theorem dX12_count_117 : decode cX12_count 117 = .ok (.aload_n 0, 1) := by decide +kernel
theorem dX12_count_118 : decode cX12_count 118 = .ok (.getfield 210, 3) := by decide +kernel
theorem dX12_count_121 : decode cX12_count 121 = .ok (.ireturn, 1) := by decide +kernel
theorem dX12_count_122 : decode cX12_count 122 = .ok (.aload_n 0, 1) := by decide +kernel
theorem dX12_count_123 : decode cX12_count 123 = .ok (.getfield 218, 3) := by decide +kernel
theorem dX12_count_126 : decode cX12_count 126 = .ok (.ireturn, 1) := by decide +kernel
theorem dX12_count_127 : decode cX12_count 127 = .ok (.aload_n 0, 1) := by decide +kernel
theorem dX12_count_128 : decode cX12_count 128 = .ok (.getfield 256, 3) := by decide +kernel
theorem dX12_count_131 : decode cX12_count 131 = .ok (.ireturn, 1) := by decide +kernel
theorem dX12_count_132 : decode cX12_count 132 = .ok (.aload_n 0, 1) := by decide +kernel
theorem dX12_count_133 : decode cX12_count 133 = .ok (.getfield 262, 3) := by decide +kernel
theorem dX12_count_136 : decode cX12_count 136 = .ok (.ireturn, 1) := by decide +kernel
theorem dX12_count_137 : decode cX12_count 137 = .ok (.aload_n 0, 1) := by decide +kernel
theorem dX12_count_138 : decode cX12_count 138 = .ok (.getfield 281, 3) := by decide +kernel
theorem dX12_count_141 : decode cX12_count 141 = .ok (.ireturn, 1) := by decide +kernel
theorem dX12_count_142 : decode cX12_count 142 = .ok (.aload_n 0, 1) := by decide +kernel
theorem dX12_count_143 : decode cX12_count 143 = .ok (.getfield 421, 3) := by decide +kernel
theorem dX12_count_146 : decode cX12_count 146 = .ok (.ireturn, 1) := by decide +kernel
theorem dX12_count_147 : decode cX12_count 147 = .ok (.aload_n 0, 1) := by decide +kernel
theorem dX12_count_148 : decode cX12_count 148 = .ok (.getfield 224, 3) := by decide +kernel
theorem dX12_count_151 : decode cX12_count 151 = .ok (.ireturn, 1) := by decide +kernel
theorem dX12_count_152 : decode cX12_count 152 = .ok (.aload_n 0, 1) := by decide +kernel
theorem dX12_count_153 : decode cX12_count 153 = .ok (.getfield 506, 3) := by decide +kernel
theorem dX12_count_156 : decode cX12_count 156 = .ok (.ireturn, 1) := by decide +kernel
theorem dX12_count_157 : decode cX12_count 157 = .ok (.iconst 0, 1) := by decide +kernel
theorem dX12_count_158 : decode cX12_count 158 = .ok (.istore_n 3, 1) := by decide +kernel
theorem dX12_count_159 : decode cX12_count 159 = .ok (.iload_n 3, 1) := by decide +kernel
theorem dX12_count_160 : decode cX12_count 160 = .ok (.aload_n 0, 1) := by decide +kernel
theorem dX12_count_161 : decode cX12_count 161 = .ok (.getfield 210, 3) := by decide +kernel
theorem dX12_count_164 : decode cX12_count 164 = .ok (.if_icmp .ge 26, 3) := by decide +kernel
theorem dX12_count_190 : decode cX12_count 190 = .ok (.iload_n 2, 1) := by decide +kernel
theorem dX12_count_191 : decode cX12_count 191 = .ok (.ireturn, 1) := by decide +kernel
theorem dX12_count_192 : decode cX12_count 192 = .ok (.aload_n 0, 1) := by decide +kernel
theorem dX12_count_193 : decode cX12_count 193 = .ok (.iconst (-1), 1) := by decide +kernel
theorem dX12_count_194 : decode cX12_count 194 = .ok (.invokevirtual 503, 3) := by decide +kernel
theorem dX12_count_197 : decode cX12_count 197 = .ok (.ireturn, 1) := by decide +kernel
theorem dX12_count_198 : decode cX12_count 198 = .ok (.iconst (-1), 1) := by decide +kernel
theorem dX12_count_199 : decode cX12_count 199 = .ok (.ireturn, 1) := by decide +kernel
theorem dX12_differ_0 : decode cX12_differ 0 = .ok (.aload_n 0, 1) := by decide +kernel
theorem dX12_differ_1 : decode cX12_differ 1 = .ok (.iload_n 1, 1) := by decide +kernel
theorem dX12_differ_2 : decode cX12_differ 2 = .ok (.invokevirtual 231, 3) := by decide +kernel
theorem dX12_differ_5 : decode cX12_differ 5 = .ok (.ifCond .eq 21, 3) := by decide +kernel
theorem dX12_differ_26 : decode cX12_differ 26 = .ok (.iconst (-1), 1) := by decide +kernel
theorem dX12_differ_27 : decode cX12_differ 27 = .ok (.ireturn, 1) := by decide +kernel
theorem dX12_feed_0 : decode cX12_feed 0 = .ok (.aload_n 0, 1) := by decide +kernel
theorem dX12_feed_1 : decode cX12_feed 1 = .ok (.getfield 224, 3) := by decide +kernel
theorem dX12_feed_4 : decode cX12_feed 4 = .ok (.bipush 20, 2) := by decide +kernel
theorem dX12_feed_6 : decode cX12_feed 6 = .ok (.iadd, 1) := by decide +kernel
theorem dX12_feed_7 : decode cX12_feed 7 = .ok (.sipush 200, 3) := by decide +kernel
theorem dX12_feed_10 : decode cX12_feed 10 = .ok (.if_icmp .le 5, 3) := by decide +kernel
theorem dX12_feed_15 : decode cX12_feed 15 = .ok (.aload_n 0, 1) := by decide +kernel
theorem dX12_feed_16 : decode cX12_feed 16 = .ok (.iload_n 1, 1) := by decide +kernel
theorem dX12_feed_17 : decode cX12_feed 17 = .ok (.invokevirtual 227, 3) := by decide +kernel
theorem dX12_feed_20 : decode cX12_feed 20 = .ok (.aload_n 0, 1) := by decide +kernel
theorem dX12_feed_21 : decode cX12_feed 21 = .ok (.iload_n 2, 1) := by decide +kernel
theorem dX12_feed_22 : decode cX12_feed 22 = .ok (.invokevirtual 227, 3) := by decide +kernel
theorem dX12_feed_25 : decode cX12_feed 25 = .ok (.aload_n 0, 1) := by decide +kernel
theorem dX12_feed_26 : decode cX12_feed 26 = .ok (.iload_n 3, 1) := by decide +kernel
theorem dX12_feed_27 : decode cX12_feed 27 = .ok (.invokevirtual 227, 3) := by decide +kernel
theorem dX12_feed_30 : decode cX12_feed 30 = .ok (.aload_n 0, 1) := by decide +kernel
theorem dX12_feed_31 : decode cX12_feed 31 = .ok (.iload 4, 2) := by decide +kernel
theorem dX12_feed_33 : decode cX12_feed 33 = .ok (.invokevirtual 227, 3) := by decide +kernel
theorem dX12_feed_36 : decode cX12_feed 36 = .ok (.aload_n 0, 1) := by decide +kernel
theorem dX12_feed_37 : decode cX12_feed 37 = .ok (.iload 5, 2) := by decide +kernel
theorem dX12_feed_39 : decode cX12_feed 39 = .ok (.invokevirtual 227, 3) := by decide +kernel
theorem dX12_feed_42 : decode cX12_feed 42 = .ok (.aload_n 0, 1) := by decide +kernel
theorem dX12_feed_43 : decode cX12_feed 43 = .ok (.getfield 224, 3) := by decide +kernel
theorem dX12_feed_46 : decode cX12_feed 46 = .ok (.ireturn, 1) := by decide +kernel
theorem dX12_fixed_0 : decode cX12_fixed 0 = .ok (.aload_n 0, 1) := by decide +kernel
theorem dX12_fixed_1 : decode cX12_fixed 1 = .ok (.iload_n 1, 1) := by decide +kernel
theorem dX12_fixed_2 : decode cX12_fixed 2 = .ok (.invokevirtual 231, 3) := by decide +kernel
theorem dX12_fixed_5 : decode cX12_fixed 5 = .ok (.ifCond .eq 11, 3) := by decide +kernel
theorem dX12_fixed_16 : decode cX12_fixed 16 = .ok (.iconst (-1), 1) := by decide +kernel
theorem dX12_fixed_17 : decode cX12_fixed 17 = .ok (.ireturn, 1) := by decide +kernel
theorem dX12_fixedOn_0 : decode cX12_fixedOn 0 = .ok (.aload_n 0, 1) := by decide +kernel
theorem dX12_fixedOn_1 : decode cX12_fixedOn 1 = .ok (.iload_n 1, 1) := by decide +kernel
theorem dX12_fixedOn_2 : decode cX12_fixedOn 2 = .ok (.invokevirtual 231, 3) := by decide +kernel
theorem dX12_fixedOn_5 : decode cX12_fixedOn 5 = .ok (.ifCond .eq 24, 3) := by decide +kernel
theorem dX12_fixedOn_29 : decode cX12_fixedOn 29 = .ok (.iconst (-1), 1) := by decide +kernel
theorem dX12_fixedOn_30 : decode cX12_fixedOn 30 = .ok (.ireturn, 1) := by decide +kernel
theorem dX12_holds_0 : decode cX12_holds 0 = .ok (.iload_n 1, 1) := by decide +kernel
theorem dX12_holds_1 : decode cX12_holds 1 = .ok (.iconst 0, 1) := by decide +kernel
theorem dX12_holds_2 : decode cX12_holds 2 = .ok (.aload_n 0, 1) := by decide +kernel
theorem dX12_holds_3 : decode cX12_holds 3 = .ok (.getfield 281, 3) := by decide +kernel
theorem dX12_holds_6 : decode cX12_holds 6 = .ok (.iconst 1, 1) := by decide +kernel
theorem dX12_holds_7 : decode cX12_holds 7 = .ok (.isub, 1) := by decide +kernel
theorem dX12_holds_8 : decode cX12_holds 8 = .ok (.invokestatic 214, 3) := by decide +kernel
theorem dX12_holds_11 : decode cX12_holds 11 = .ok (.ifCond .eq 52, 3) := by decide +kernel
theorem dX12_holds_63 : decode cX12_holds 63 = .ok (.iconst (-1), 1) := by decide +kernel
theorem dX12_holds_64 : decode cX12_holds 64 = .ok (.ireturn, 1) := by decide +kernel
theorem dX12_judge_0 : decode cX12_judge 0 = .ok (.iload_n 1, 1) := by decide +kernel
theorem dX12_judge_1 : decode cX12_judge 1 = .ok (.ifCond .ge 5, 3) := by decide +kernel
theorem dX12_judge_4 : decode cX12_judge 4 = .ok (.iconst (-1), 1) := by decide +kernel
theorem dX12_judge_5 : decode cX12_judge 5 = .ok (.ireturn, 1) := by decide +kernel
theorem dX12_judge_6 : decode cX12_judge 6 = .ok (.aload_n 0, 1) := by decide +kernel
theorem dX12_judge_7 : decode cX12_judge 7 = .ok (.invokevirtual 560, 3) := by decide +kernel
theorem dX12_judge_10 : decode cX12_judge 10 = .ok (.aload_n 0, 1) := by decide +kernel
theorem dX12_judge_11 : decode cX12_judge 11 = .ok (.iload_n 1, 1) := by decide +kernel
theorem dX12_judge_12 : decode cX12_judge 12 = .ok (.invokevirtual 557, 3) := by decide +kernel
theorem dX12_judge_15 : decode cX12_judge 15 = .ok (.ireturn, 1) := by decide +kernel
theorem dX12_line_0 : decode cX12_line 0 = .ok (.iload_n 1, 1) := by decide +kernel
theorem dX12_line_1 : decode cX12_line 1 = .ok (.ifCond .ge 5, 3) := by decide +kernel
theorem dX12_line_4 : decode cX12_line 4 = .ok (.iconst (-1), 1) := by decide +kernel
theorem dX12_line_5 : decode cX12_line 5 = .ok (.ireturn, 1) := by decide +kernel
theorem dX12_line_6 : decode cX12_line 6 = .ok (.iconst 0, 1) := by decide +kernel
theorem dX12_line_7 : decode cX12_line 7 = .ok (.istore_n 2, 1) := by decide +kernel
theorem dX12_line_8 : decode cX12_line 8 = .ok (.iconst 0, 1) := by decide +kernel
theorem dX12_line_9 : decode cX12_line 9 = .ok (.istore_n 3, 1) := by decide +kernel
theorem dX12_line_10 : decode cX12_line 10 = .ok (.iload_n 3, 1) := by decide +kernel
theorem dX12_line_11 : decode cX12_line 11 = .ok (.aload_n 0, 1) := by decide +kernel
theorem dX12_line_12 : decode cX12_line 12 = .ok (.getfield 210, 3) := by decide +kernel
theorem dX12_line_15 : decode cX12_line 15 = .ok (.if_icmp .ge 30, 3) := by decide +kernel
theorem dX12_line_45 : decode cX12_line 45 = .ok (.iconst (-1), 1) := by decide +kernel
theorem dX12_line_46 : decode cX12_line 46 = .ok (.ireturn, 1) := by decide +kernel
theorem dX12_look_0 : decode cX12_look 0 = .ok (.aload_n 0, 1) := by decide +kernel
theorem dX12_look_1 : decode cX12_look 1 = .ok (.iload_n 1, 1) := by decide +kernel
theorem dX12_look_2 : decode cX12_look 2 = .ok (.invokevirtual 424, 3) := by decide +kernel
theorem dX12_look_5 : decode cX12_look 5 = .ok (.ifCond .ne 5, 3) := by decide +kernel
theorem dX12_look_8 : decode cX12_look 8 = .ok (.iconst (-1), 1) := by decide +kernel
theorem dX12_look_9 : decode cX12_look 9 = .ok (.ireturn, 1) := by decide +kernel
theorem dX12_missed_0 : decode cX12_missed 0 = .ok (.aload_n 0, 1) := by decide +kernel
theorem dX12_missed_1 : decode cX12_missed 1 = .ok (.iload_n 1, 1) := by decide +kernel
theorem dX12_missed_2 : decode cX12_missed 2 = .ok (.invokevirtual 231, 3) := by decide +kernel
theorem dX12_missed_5 : decode cX12_missed 5 = .ok (.ifCond .ne 5, 3) := by decide +kernel
theorem dX12_missed_8 : decode cX12_missed 8 = .ok (.iconst (-1), 1) := by decide +kernel
theorem dX12_missed_9 : decode cX12_missed 9 = .ok (.ireturn, 1) := by decide +kernel
theorem dX12_now_0 : decode cX12_now 0 = .ok (.iload_n 1, 1) := by decide +kernel
theorem dX12_now_1 : decode cX12_now 1 = .ok (.aload_n 0, 1) := by decide +kernel
theorem dX12_now_2 : decode cX12_now 2 = .ok (.getfield 221, 3) := by decide +kernel
theorem dX12_now_5 : decode cX12_now 5 = .ok (.sipush 3999, 3) := by decide +kernel
theorem dX12_now_8 : decode cX12_now 8 = .ok (.invokestatic 214, 3) := by decide +kernel
theorem dX12_now_11 : decode cX12_now 11 = .ok (.ifCond .ne 5, 3) := by decide +kernel
theorem dX12_now_14 : decode cX12_now 14 = .ok (.iconst 0, 1) := by decide +kernel
theorem dX12_now_15 : decode cX12_now 15 = .ok (.ireturn, 1) := by decide +kernel
theorem dX12_now_16 : decode cX12_now 16 = .ok (.aload_n 0, 1) := by decide +kernel
theorem dX12_now_17 : decode cX12_now 17 = .ok (.iload_n 1, 1) := by decide +kernel
theorem dX12_now_18 : decode cX12_now 18 = .ok (.putfield 221, 3) := by decide +kernel
theorem dX12_now_21 : decode cX12_now 21 = .ok (.iconst 1, 1) := by decide +kernel
theorem dX12_now_22 : decode cX12_now 22 = .ok (.ireturn, 1) := by decide +kernel
theorem dX12_one_0 : decode cX12_one 0 = .ok (.aload_n 0, 1) := by decide +kernel
theorem dX12_one_1 : decode cX12_one 1 = .ok (.invokevirtual 521, 3) := by decide +kernel
theorem dX12_one_4 : decode cX12_one 4 = .ok (.iconst (-1), 1) := by decide +kernel
theorem dX12_one_5 : decode cX12_one 5 = .ok (.istore_n 1, 1) := by decide +kernel
theorem dX12_one_6 : decode cX12_one 6 = .ok (.iconst 0, 1) := by decide +kernel
theorem dX12_one_7 : decode cX12_one 7 = .ok (.istore_n 2, 1) := by decide +kernel
theorem dX12_one_8 : decode cX12_one 8 = .ok (.iload_n 2, 1) := by decide +kernel
theorem dX12_one_9 : decode cX12_one 9 = .ok (.iconst 1, 1) := by decide +kernel
theorem dX12_one_10 : decode cX12_one 10 = .ok (.iconst 2, 1) := by decide +kernel
theorem dX12_one_11 : decode cX12_one 11 = .ok (.aload_n 0, 1) := by decide +kernel
theorem dX12_one_12 : decode cX12_one 12 = .ok (.getfield 506, 3) := by decide +kernel
theorem dX12_one_15 : decode cX12_one 15 = .ok (.imul, 1) := by decide +kernel
theorem dX12_one_16 : decode cX12_one 16 = .ok (.ishl, 1) := by decide +kernel
theorem dX12_one_17 : decode cX12_one 17 = .ok (.if_icmp .ge 75, 3) := by decide +kernel
theorem dX12_one_20 : decode cX12_one 20 = .ok (.aload_n 0, 1) := by decide +kernel
theorem dX12_one_21 : decode cX12_one 21 = .ok (.iload_n 2, 1) := by decide +kernel
theorem dX12_one_22 : decode cX12_one 22 = .ok (.invokevirtual 518, 3) := by decide +kernel
theorem dX12_one_25 : decode cX12_one 25 = .ok (.ifCond .eq 61, 3) := by decide +kernel
theorem dX12_one_28 : decode cX12_one 28 = .ok (.aload_n 0, 1) := by decide +kernel
theorem dX12_one_29 : decode cX12_one 29 = .ok (.iload_n 2, 1) := by decide +kernel
theorem dX12_one_30 : decode cX12_one 30 = .ok (.invokevirtual 524, 3) := by decide +kernel
theorem dX12_one_33 : decode cX12_one 33 = .ok (.ifCond .ne 6, 3) := by decide +kernel
theorem dX12_one_39 : decode cX12_one 39 = .ok (.iload_n 1, 1) := by decide +kernel
theorem dX12_one_40 : decode cX12_one 40 = .ok (.iconst (-1), 1) := by decide +kernel
theorem dX12_one_41 : decode cX12_one 41 = .ok (.if_icmp .eq 43, 3) := by decide +kernel
theorem dX12_one_84 : decode cX12_one 84 = .ok (.iload_n 2, 1) := by decide +kernel
theorem dX12_one_85 : decode cX12_one 85 = .ok (.istore_n 1, 1) := by decide +kernel
theorem dX12_one_86 : decode cX12_one 86 = .ok (.iinc 2 1, 3) := by decide +kernel
theorem dX12_one_89 : decode cX12_one 89 = .ok (.goto (-81), 3) := by decide +kernel
theorem dX12_one_92 : decode cX12_one 92 = .ok (.iload_n 1, 1) := by decide +kernel
theorem dX12_one_93 : decode cX12_one 93 = .ok (.ireturn, 1) := by decide +kernel
theorem dX12_option_0 : decode cX12_option 0 = .ok (.iload_n 1, 1) := by decide +kernel
theorem dX12_option_1 : decode cX12_option 1 = .ok (.iconst 0, 1) := by decide +kernel
theorem dX12_option_2 : decode cX12_option 2 = .ok (.bipush 39, 2) := by decide +kernel
theorem dX12_option_4 : decode cX12_option 4 = .ok (.invokestatic 214, 3) := by decide +kernel
theorem dX12_option_7 : decode cX12_option 7 = .ok (.ifCond .eq 11, 3) := by decide +kernel
theorem dX12_option_10 : decode cX12_option 10 = .ok (.aload_n 0, 1) := by decide +kernel
theorem dX12_option_11 : decode cX12_option 11 = .ok (.iload_n 2, 1) := by decide +kernel
theorem dX12_option_12 : decode cX12_option 12 = .ok (.invokevirtual 246, 3) := by decide +kernel
theorem dX12_option_15 : decode cX12_option 15 = .ok (.ifCond .ne 5, 3) := by decide +kernel
theorem dX12_option_18 : decode cX12_option 18 = .ok (.iconst 0, 1) := by decide +kernel
theorem dX12_option_19 : decode cX12_option 19 = .ok (.ireturn, 1) := by decide +kernel
theorem dX12_plan_0 : decode cX12_plan 0 = .ok (.aload_n 0, 1) := by decide +kernel
theorem dX12_plan_1 : decode cX12_plan 1 = .ok (.invokevirtual 560, 3) := by decide +kernel
theorem dX12_plan_4 : decode cX12_plan 4 = .ok (.aload_n 0, 1) := by decide +kernel
theorem dX12_plan_5 : decode cX12_plan 5 = .ok (.invokevirtual 563, 3) := by decide +kernel
theorem dX12_plan_8 : decode cX12_plan 8 = .ok (.istore_n 2, 1) := by decide +kernel
theorem dX12_plan_9 : decode cX12_plan 9 = .ok (.iload_n 2, 1) := by decide +kernel
theorem dX12_plan_10 : decode cX12_plan 10 = .ok (.iconst (-1), 1) := by decide +kernel
theorem dX12_plan_11 : decode cX12_plan 11 = .ok (.if_icmp .ne 5, 3) := by decide +kernel
theorem dX12_plan_16 : decode cX12_plan 16 = .ok (.iload_n 1, 1) := by decide +kernel
theorem dX12_plan_17 : decode cX12_plan 17 = .ok (.iconst (-1), 1) := by decide +kernel
theorem dX12_plan_18 : decode cX12_plan 18 = .ok (.if_icmp .ne 9, 3) := by decide +kernel
theorem dX12_plan_21 : decode cX12_plan 21 = .ok (.aload_n 0, 1) := by decide +kernel
theorem dX12_plan_22 : decode cX12_plan 22 = .ok (.iload_n 2, 1) := by decide +kernel
theorem dX12_plan_23 : decode cX12_plan 23 = .ok (.invokevirtual 557, 3) := by decide +kernel
theorem dX12_plan_26 : decode cX12_plan 26 = .ok (.ireturn, 1) := by decide +kernel
theorem dX12_plan_27 : decode cX12_plan 27 = .ok (.iload_n 1, 1) := by decide +kernel
theorem dX12_plan_28 : decode cX12_plan 28 = .ok (.iconst 0, 1) := by decide +kernel
theorem dX12_plan_29 : decode cX12_plan 29 = .ok (.aload_n 0, 1) := by decide +kernel
theorem dX12_plan_30 : decode cX12_plan 30 = .ok (.getfield 545, 3) := by decide +kernel
theorem dX12_plan_33 : decode cX12_plan 33 = .ok (.iconst 1, 1) := by decide +kernel
theorem dX12_plan_34 : decode cX12_plan 34 = .ok (.isub, 1) := by decide +kernel
theorem dX12_plan_35 : decode cX12_plan 35 = .ok (.invokestatic 214, 3) := by decide +kernel
theorem dX12_plan_38 : decode cX12_plan 38 = .ok (.ifCond .eq 13, 3) := by decide +kernel
theorem dX12_plan_51 : decode cX12_plan 51 = .ok (.iconst (-1), 1) := by decide +kernel
theorem dX12_plan_52 : decode cX12_plan 52 = .ok (.ireturn, 1) := by decide +kernel
theorem dX12_printed_0 : decode cX12_printed 0 = .ok (.iload_n 1, 1) := by decide +kernel
theorem dX12_printed_1 : decode cX12_printed 1 = .ok (.iconst 0, 1) := by decide +kernel
theorem dX12_printed_2 : decode cX12_printed 2 = .ok (.iconst 3, 1) := by decide +kernel
theorem dX12_printed_3 : decode cX12_printed 3 = .ok (.invokestatic 214, 3) := by decide +kernel
theorem dX12_printed_6 : decode cX12_printed 6 = .ok (.ifCond .eq 19, 3) := by decide +kernel
theorem dX12_printed_9 : decode cX12_printed 9 = .ok (.aload_n 0, 1) := by decide +kernel
theorem dX12_printed_10 : decode cX12_printed 10 = .ok (.iload_n 2, 1) := by decide +kernel
theorem dX12_printed_11 : decode cX12_printed 11 = .ok (.invokevirtual 231, 3) := by decide +kernel
theorem dX12_printed_14 : decode cX12_printed 14 = .ok (.ifCond .eq 11, 3) := by decide +kernel
theorem dX12_printed_25 : decode cX12_printed 25 = .ok (.iconst (-1), 1) := by decide +kernel
theorem dX12_printed_26 : decode cX12_printed 26 = .ok (.istore 4, 2) := by decide +kernel
theorem dX12_printed_28 : decode cX12_printed 28 = .ok (.iload 4, 2) := by decide +kernel
theorem dX12_printed_30 : decode cX12_printed 30 = .ok (.iconst (-1), 1) := by decide +kernel
theorem dX12_printed_31 : decode cX12_printed 31 = .ok (.if_icmp .ne 5, 3) := by decide +kernel
theorem dX12_printed_34 : decode cX12_printed 34 = .ok (.iconst (-1), 1) := by decide +kernel
theorem dX12_printed_35 : decode cX12_printed 35 = .ok (.ireturn, 1) := by decide +kernel
theorem dX12_quarrel_0 : decode cX12_quarrel 0 = .ok (.aload_n 0, 1) := by decide +kernel
theorem dX12_quarrel_1 : decode cX12_quarrel 1 = .ok (.iload_n 1, 1) := by decide +kernel
theorem dX12_quarrel_2 : decode cX12_quarrel 2 = .ok (.invokevirtual 231, 3) := by decide +kernel
theorem dX12_quarrel_5 : decode cX12_quarrel 5 = .ok (.ifCond .eq 17, 3) := by decide +kernel
theorem dX12_quarrel_22 : decode cX12_quarrel 22 = .ok (.iconst (-1), 1) := by decide +kernel
theorem dX12_quarrel_23 : decode cX12_quarrel 23 = .ok (.ireturn, 1) := by decide +kernel
theorem dX12_reads_0 : decode cX12_reads 0 = .ok (.iload_n 1, 1) := by decide +kernel
theorem dX12_reads_1 : decode cX12_reads 1 = .ok (.iconst 0, 1) := by decide +kernel
theorem dX12_reads_2 : decode cX12_reads 2 = .ok (.bipush 9, 2) := by decide +kernel
theorem dX12_reads_4 : decode cX12_reads 4 = .ok (.invokestatic 214, 3) := by decide +kernel
theorem dX12_reads_7 : decode cX12_reads 7 = .ok (.ifCond .eq 21, 3) := by decide +kernel
theorem dX12_reads_10 : decode cX12_reads 10 = .ok (.aload_n 0, 1) := by decide +kernel
theorem dX12_reads_11 : decode cX12_reads 11 = .ok (.iload_n 2, 1) := by decide +kernel
theorem dX12_reads_12 : decode cX12_reads 12 = .ok (.invokevirtual 231, 3) := by decide +kernel
theorem dX12_reads_15 : decode cX12_reads 15 = .ok (.ifCond .eq 13, 3) := by decide +kernel
theorem dX12_reads_28 : decode cX12_reads 28 = .ok (.iconst 0, 1) := by decide +kernel
theorem dX12_reads_29 : decode cX12_reads 29 = .ok (.ireturn, 1) := by decide +kernel
theorem dX12_render_0 : decode cX12_render 0 = .ok (.aload_n 0, 1) := by decide +kernel
theorem dX12_render_1 : decode cX12_render 1 = .ok (.getfield 421, 3) := by decide +kernel
theorem dX12_render_4 : decode cX12_render 4 = .ok (.sipush 200, 3) := by decide +kernel
theorem dX12_render_7 : decode cX12_render 7 = .ok (.if_icmp .eq 54, 3) := by decide +kernel
theorem dX12_render_10 : decode cX12_render 10 = .ok (.iload_n 1, 1) := by decide +kernel
theorem dX12_render_11 : decode cX12_render 11 = .ok (.iconst 0, 1) := by decide +kernel
theorem dX12_render_12 : decode cX12_render 12 = .ok (.aload_n 0, 1) := by decide +kernel
theorem dX12_render_13 : decode cX12_render 13 = .ok (.getfield 262, 3) := by decide +kernel
theorem dX12_render_16 : decode cX12_render 16 = .ok (.iconst 1, 1) := by decide +kernel
theorem dX12_render_17 : decode cX12_render 17 = .ok (.isub, 1) := by decide +kernel
theorem dX12_render_18 : decode cX12_render 18 = .ok (.invokestatic 214, 3) := by decide +kernel
theorem dX12_render_21 : decode cX12_render 21 = .ok (.ifCond .eq 40, 3) := by decide +kernel
theorem dX12_render_61 : decode cX12_render 61 = .ok (.iconst (-1), 1) := by decide +kernel
theorem dX12_render_62 : decode cX12_render 62 = .ok (.ireturn, 1) := by decide +kernel
theorem dX12_rules_0 : decode cX12_rules 0 = .ok (.aload_n 0, 1) := by decide +kernel
theorem dX12_rules_1 : decode cX12_rules 1 = .ok (.getfield 281, 3) := by decide +kernel
theorem dX12_rules_4 : decode cX12_rules 4 = .ok (.bipush 20, 2) := by decide +kernel
theorem dX12_rules_6 : decode cX12_rules 6 = .ok (.if_icmp .eq 59, 3) := by decide +kernel
theorem dX12_rules_9 : decode cX12_rules 9 = .ok (.iload_n 1, 1) := by decide +kernel
theorem dX12_rules_10 : decode cX12_rules 10 = .ok (.iconst (-1), 1) := by decide +kernel
theorem dX12_rules_11 : decode cX12_rules 11 = .ok (.aload_n 0, 1) := by decide +kernel
theorem dX12_rules_12 : decode cX12_rules 12 = .ok (.getfield 256, 3) := by decide +kernel
theorem dX12_rules_15 : decode cX12_rules 15 = .ok (.iconst 1, 1) := by decide +kernel
theorem dX12_rules_16 : decode cX12_rules 16 = .ok (.isub, 1) := by decide +kernel
theorem dX12_rules_17 : decode cX12_rules 17 = .ok (.invokestatic 214, 3) := by decide +kernel
theorem dX12_rules_20 : decode cX12_rules 20 = .ok (.ifCond .eq 45, 3) := by decide +kernel
theorem dX12_rules_23 : decode cX12_rules 23 = .ok (.aload_n 0, 1) := by decide +kernel
theorem dX12_rules_24 : decode cX12_rules 24 = .ok (.iload_n 2, 1) := by decide +kernel
theorem dX12_rules_25 : decode cX12_rules 25 = .ok (.invokevirtual 376, 3) := by decide +kernel
theorem dX12_rules_28 : decode cX12_rules 28 = .ok (.ifCond .eq 37, 3) := by decide +kernel
theorem dX12_rules_31 : decode cX12_rules 31 = .ok (.aload_n 0, 1) := by decide +kernel
theorem dX12_rules_32 : decode cX12_rules 32 = .ok (.iload_n 3, 1) := by decide +kernel
theorem dX12_rules_33 : decode cX12_rules 33 = .ok (.invokevirtual 376, 3) := by decide +kernel
theorem dX12_rules_36 : decode cX12_rules 36 = .ok (.ifCond .eq 29, 3) := by decide +kernel
theorem dX12_rules_39 : decode cX12_rules 39 = .ok (.iload_n 3, 1) := by decide +kernel
theorem dX12_rules_40 : decode cX12_rules 40 = .ok (.iload_n 2, 1) := by decide +kernel
theorem dX12_rules_41 : decode cX12_rules 41 = .ok (.if_icmp .lt 24, 3) := by decide +kernel
theorem dX12_rules_44 : decode cX12_rules 44 = .ok (.iload 4, 2) := by decide +kernel
theorem dX12_rules_46 : decode cX12_rules 46 = .ok (.iconst 1, 1) := by decide +kernel
theorem dX12_rules_47 : decode cX12_rules 47 = .ok (.sipush 160, 3) := by decide +kernel
theorem dX12_rules_50 : decode cX12_rules 50 = .ok (.invokestatic 214, 3) := by decide +kernel
theorem dX12_rules_53 : decode cX12_rules 53 = .ok (.ifCond .eq 12, 3) := by decide +kernel
theorem dX12_rules_56 : decode cX12_rules 56 = .ok (.iload 4, 2) := by decide +kernel
theorem dX12_rules_58 : decode cX12_rules 58 = .ok (.aload_n 0, 1) := by decide +kernel
theorem dX12_rules_59 : decode cX12_rules 59 = .ok (.getfield 224, 3) := by decide +kernel
theorem dX12_rules_62 : decode cX12_rules 62 = .ok (.if_icmp .le 5, 3) := by decide +kernel
theorem dX12_rules_65 : decode cX12_rules 65 = .ok (.iconst (-1), 1) := by decide +kernel
theorem dX12_rules_66 : decode cX12_rules 66 = .ok (.ireturn, 1) := by decide +kernel
theorem dX12_scholar_0 : decode cX12_scholar 0 = .ok (.aload_n 0, 1) := by decide +kernel
theorem dX12_scholar_1 : decode cX12_scholar 1 = .ok (.getfield 262, 3) := by decide +kernel
theorem dX12_scholar_4 : decode cX12_scholar 4 = .ok (.bipush 24, 2) := by decide +kernel
theorem dX12_scholar_6 : decode cX12_scholar 6 = .ok (.if_icmp .eq 17, 3) := by decide +kernel
theorem dX12_scholar_9 : decode cX12_scholar 9 = .ok (.iload_n 1, 1) := by decide +kernel
theorem dX12_scholar_10 : decode cX12_scholar 10 = .ok (.iconst 0, 1) := by decide +kernel
theorem dX12_scholar_11 : decode cX12_scholar 11 = .ok (.aload_n 0, 1) := by decide +kernel
theorem dX12_scholar_12 : decode cX12_scholar 12 = .ok (.getfield 256, 3) := by decide +kernel
theorem dX12_scholar_15 : decode cX12_scholar 15 = .ok (.iconst 1, 1) := by decide +kernel
theorem dX12_scholar_16 : decode cX12_scholar 16 = .ok (.isub, 1) := by decide +kernel
theorem dX12_scholar_17 : decode cX12_scholar 17 = .ok (.invokestatic 214, 3) := by decide +kernel
theorem dX12_scholar_20 : decode cX12_scholar 20 = .ok (.ifCond .ne 5, 3) := by decide +kernel
theorem dX12_scholar_23 : decode cX12_scholar 23 = .ok (.iconst (-1), 1) := by decide +kernel
theorem dX12_scholar_24 : decode cX12_scholar 24 = .ok (.ireturn, 1) := by decide +kernel
theorem dX12_source_0 : decode cX12_source 0 = .ok (.aload_n 0, 1) := by decide +kernel
theorem dX12_source_1 : decode cX12_source 1 = .ok (.iload_n 1, 1) := by decide +kernel
theorem dX12_source_2 : decode cX12_source 2 = .ok (.invokevirtual 231, 3) := by decide +kernel
theorem dX12_source_5 : decode cX12_source 5 = .ok (.ifCond .eq 30, 3) := by decide +kernel
theorem dX12_source_35 : decode cX12_source 35 = .ok (.iconst 0, 1) := by decide +kernel
theorem dX12_source_36 : decode cX12_source 36 = .ok (.ireturn, 1) := by decide +kernel
theorem dX12_spell_0 : decode cX12_spell 0 = .ok (.iload_n 1, 1) := by decide +kernel
theorem dX12_spell_1 : decode cX12_spell 1 = .ok (.iconst 0, 1) := by decide +kernel
theorem dX12_spell_2 : decode cX12_spell 2 = .ok (.iconst 3, 1) := by decide +kernel
theorem dX12_spell_3 : decode cX12_spell 3 = .ok (.invokestatic 214, 3) := by decide +kernel
theorem dX12_spell_6 : decode cX12_spell 6 = .ok (.ifCond .eq 37, 3) := by decide +kernel
theorem dX12_spell_9 : decode cX12_spell 9 = .ok (.aload_n 0, 1) := by decide +kernel
theorem dX12_spell_10 : decode cX12_spell 10 = .ok (.iload_n 2, 1) := by decide +kernel
theorem dX12_spell_11 : decode cX12_spell 11 = .ok (.invokevirtual 246, 3) := by decide +kernel
theorem dX12_spell_14 : decode cX12_spell 14 = .ok (.ifCond .eq 29, 3) := by decide +kernel
theorem dX12_spell_43 : decode cX12_spell 43 = .ok (.iconst 0, 1) := by decide +kernel
theorem dX12_spell_44 : decode cX12_spell 44 = .ok (.ireturn, 1) := by decide +kernel
theorem dX12_syllables_0 : decode cX12_syllables 0 = .ok (.aload_n 0, 1) := by decide +kernel
theorem dX12_syllables_1 : decode cX12_syllables 1 = .ok (.iload_n 1, 1) := by decide +kernel
theorem dX12_syllables_2 : decode cX12_syllables 2 = .ok (.invokevirtual 246, 3) := by decide +kernel
theorem dX12_syllables_5 : decode cX12_syllables 5 = .ok (.ifCond .eq 11, 3) := by decide +kernel
theorem dX12_syllables_16 : decode cX12_syllables 16 = .ok (.iconst (-1), 1) := by decide +kernel
theorem dX12_syllables_17 : decode cX12_syllables 17 = .ok (.ireturn, 1) := by decide +kernel
theorem dX12_token_0 : decode cX12_token 0 = .ok (.aload_n 0, 1) := by decide +kernel
theorem dX12_token_1 : decode cX12_token 1 = .ok (.iload_n 1, 1) := by decide +kernel
theorem dX12_token_2 : decode cX12_token 2 = .ok (.invokevirtual 231, 3) := by decide +kernel
theorem dX12_token_5 : decode cX12_token 5 = .ok (.ifCond .eq 50, 3) := by decide +kernel
theorem dX12_token_55 : decode cX12_token 55 = .ok (.iconst (-1), 1) := by decide +kernel
theorem dX12_token_56 : decode cX12_token 56 = .ok (.ireturn, 1) := by decide +kernel
theorem dX12_unlike_0 : decode cX12_unlike 0 = .ok (.iload_n 1, 1) := by decide +kernel
theorem dX12_unlike_1 : decode cX12_unlike 1 = .ok (.ifCond .lt 12, 3) := by decide +kernel
theorem dX12_unlike_4 : decode cX12_unlike 4 = .ok (.aload_n 0, 1) := by decide +kernel
theorem dX12_unlike_5 : decode cX12_unlike 5 = .ok (.iload_n 1, 1) := by decide +kernel
theorem dX12_unlike_6 : decode cX12_unlike 6 = .ok (.invokevirtual 503, 3) := by decide +kernel
theorem dX12_unlike_9 : decode cX12_unlike 9 = .ok (.iload_n 1, 1) := by decide +kernel
theorem dX12_unlike_10 : decode cX12_unlike 10 = .ok (.if_icmp .gt 5, 3) := by decide +kernel
theorem dX12_unlike_13 : decode cX12_unlike 13 = .ok (.iconst (-1), 1) := by decide +kernel
theorem dX12_unlike_14 : decode cX12_unlike 14 = .ok (.ireturn, 1) := by decide +kernel
theorem dX12_verse_0 : decode cX12_verse 0 = .ok (.aload_n 0, 1) := by decide +kernel
theorem dX12_verse_1 : decode cX12_verse 1 = .ok (.getfield 210, 3) := by decide +kernel
theorem dX12_verse_4 : decode cX12_verse 4 = .ok (.bipush 60, 2) := by decide +kernel
theorem dX12_verse_6 : decode cX12_verse 6 = .ok (.if_icmp .eq 23, 3) := by decide +kernel
theorem dX12_verse_9 : decode cX12_verse 9 = .ok (.iload_n 1, 1) := by decide +kernel
theorem dX12_verse_10 : decode cX12_verse 10 = .ok (.iconst 0, 1) := by decide +kernel
theorem dX12_verse_11 : decode cX12_verse 11 = .ok (.bipush 7, 2) := by decide +kernel
theorem dX12_verse_13 : decode cX12_verse 13 = .ok (.invokestatic 214, 3) := by decide +kernel
theorem dX12_verse_16 : decode cX12_verse 16 = .ok (.ifCond .eq 13, 3) := by decide +kernel
theorem dX12_verse_19 : decode cX12_verse 19 = .ok (.iload_n 2, 1) := by decide +kernel
theorem dX12_verse_20 : decode cX12_verse 20 = .ok (.iconst 0, 1) := by decide +kernel
theorem dX12_verse_21 : decode cX12_verse 21 = .ok (.bipush 40, 2) := by decide +kernel
theorem dX12_verse_23 : decode cX12_verse 23 = .ok (.invokestatic 214, 3) := by decide +kernel
theorem dX12_verse_26 : decode cX12_verse 26 = .ok (.ifCond .ne 5, 3) := by decide +kernel
theorem dX12_verse_29 : decode cX12_verse 29 = .ok (.iconst (-1), 1) := by decide +kernel
theorem dX12_verse_30 : decode cX12_verse 30 = .ok (.ireturn, 1) := by decide +kernel
theorem dX12_verse_31 : decode cX12_verse 31 = .ok (.aload_n 0, 1) := by decide +kernel
theorem dX12_verse_32 : decode cX12_verse 32 = .ok (.getfield 13, 3) := by decide +kernel
theorem dX12_verse_35 : decode cX12_verse 35 = .ok (.aload_n 0, 1) := by decide +kernel
theorem dX12_verse_36 : decode cX12_verse 36 = .ok (.getfield 210, 3) := by decide +kernel
theorem dX12_verse_39 : decode cX12_verse 39 = .ok (.iload_n 1, 1) := by decide +kernel
theorem dX12_verse_40 : decode cX12_verse 40 = .ok (.iastore, 1) := by decide +kernel
theorem dX12_verse_41 : decode cX12_verse 41 = .ok (.aload_n 0, 1) := by decide +kernel
theorem dX12_verse_42 : decode cX12_verse 42 = .ok (.getfield 17, 3) := by decide +kernel
theorem dX12_verse_45 : decode cX12_verse 45 = .ok (.aload_n 0, 1) := by decide +kernel
theorem dX12_verse_46 : decode cX12_verse 46 = .ok (.getfield 210, 3) := by decide +kernel
theorem dX12_verse_49 : decode cX12_verse 49 = .ok (.iload_n 2, 1) := by decide +kernel
theorem dX12_verse_50 : decode cX12_verse 50 = .ok (.iastore, 1) := by decide +kernel
theorem dX12_verse_51 : decode cX12_verse 51 = .ok (.aload_n 0, 1) := by decide +kernel
theorem dX12_verse_52 : decode cX12_verse 52 = .ok (.dup, 1) := by decide +kernel
theorem dX12_verse_53 : decode cX12_verse 53 = .ok (.getfield 210, 3) := by decide +kernel
theorem dX12_verse_56 : decode cX12_verse 56 = .ok (.iconst 1, 1) := by decide +kernel
theorem dX12_verse_57 : decode cX12_verse 57 = .ok (.iadd, 1) := by decide +kernel
theorem dX12_verse_58 : decode cX12_verse 58 = .ok (.putfield 210, 3) := by decide +kernel
theorem dX12_verse_61 : decode cX12_verse 61 = .ok (.aload_n 0, 1) := by decide +kernel
theorem dX12_verse_62 : decode cX12_verse 62 = .ok (.getfield 210, 3) := by decide +kernel
theorem dX12_verse_65 : decode cX12_verse 65 = .ok (.iconst 1, 1) := by decide +kernel
theorem dX12_verse_66 : decode cX12_verse 66 = .ok (.isub, 1) := by decide +kernel
theorem dX12_verse_67 : decode cX12_verse 67 = .ok (.ireturn, 1) := by decide +kernel
theorem dX12_voids_0 : decode cX12_voids 0 = .ok (.iload_n 1, 1) := by decide +kernel
theorem dX12_voids_1 : decode cX12_voids 1 = .ok (.iconst 0, 1) := by decide +kernel
theorem dX12_voids_2 : decode cX12_voids 2 = .ok (.aload_n 0, 1) := by decide +kernel
theorem dX12_voids_3 : decode cX12_voids 3 = .ok (.getfield 262, 3) := by decide +kernel
theorem dX12_voids_6 : decode cX12_voids 6 = .ok (.iconst 1, 1) := by decide +kernel
theorem dX12_voids_7 : decode cX12_voids 7 = .ok (.isub, 1) := by decide +kernel
theorem dX12_voids_8 : decode cX12_voids 8 = .ok (.invokestatic 214, 3) := by decide +kernel
theorem dX12_voids_11 : decode cX12_voids 11 = .ok (.ifCond .eq 12, 3) := by decide +kernel
theorem dX12_voids_23 : decode cX12_voids 23 = .ok (.iconst (-1), 1) := by decide +kernel
theorem dX12_voids_24 : decode cX12_voids 24 = .ok (.ireturn, 1) := by decide +kernel
theorem dX12_vote_0 : decode cX12_vote 0 = .ok (.iload_n 1, 1) := by decide +kernel
theorem dX12_vote_1 : decode cX12_vote 1 = .ok (.iconst 0, 1) := by decide +kernel
theorem dX12_vote_2 : decode cX12_vote 2 = .ok (.aload_n 0, 1) := by decide +kernel
theorem dX12_vote_3 : decode cX12_vote 3 = .ok (.getfield 262, 3) := by decide +kernel
theorem dX12_vote_6 : decode cX12_vote 6 = .ok (.iconst 1, 1) := by decide +kernel
theorem dX12_vote_7 : decode cX12_vote 7 = .ok (.isub, 1) := by decide +kernel
theorem dX12_vote_8 : decode cX12_vote 8 = .ok (.invokestatic 214, 3) := by decide +kernel
theorem dX12_vote_11 : decode cX12_vote 11 = .ok (.ifCond .eq 31, 3) := by decide +kernel
theorem dX12_vote_42 : decode cX12_vote 42 = .ok (.iconst 0, 1) := by decide +kernel
theorem dX12_vote_43 : decode cX12_vote 43 = .ok (.ireturn, 1) := by decide +kernel
theorem dX12_word_0 : decode cX12_word 0 = .ok (.aload_n 0, 1) := by decide +kernel
theorem dX12_word_1 : decode cX12_word 1 = .ok (.getfield 218, 3) := by decide +kernel
theorem dX12_word_4 : decode cX12_word 4 = .ok (.bipush 80, 2) := by decide +kernel
theorem dX12_word_6 : decode cX12_word 6 = .ok (.if_icmp .eq 29, 3) := by decide +kernel
theorem dX12_word_9 : decode cX12_word 9 = .ok (.iload_n 1, 1) := by decide +kernel
theorem dX12_word_10 : decode cX12_word 10 = .ok (.iconst 1, 1) := by decide +kernel
theorem dX12_word_11 : decode cX12_word 11 = .ok (.bipush 12, 2) := by decide +kernel
theorem dX12_word_13 : decode cX12_word 13 = .ok (.invokestatic 214, 3) := by decide +kernel
theorem dX12_word_16 : decode cX12_word 16 = .ok (.ifCond .eq 19, 3) := by decide +kernel
theorem dX12_word_19 : decode cX12_word 19 = .ok (.iload_n 1, 1) := by decide +kernel
theorem dX12_word_20 : decode cX12_word 20 = .ok (.aload_n 0, 1) := by decide +kernel
theorem dX12_word_21 : decode cX12_word 21 = .ok (.getfield 224, 3) := by decide +kernel
theorem dX12_word_24 : decode cX12_word 24 = .ok (.if_icmp .gt 11, 3) := by decide +kernel
theorem dX12_word_35 : decode cX12_word 35 = .ok (.iconst (-1), 1) := by decide +kernel
theorem dX12_word_36 : decode cX12_word 36 = .ok (.ireturn, 1) := by decide +kernel
set_option maxHeartbeats 4000000 in
set_option maxRecDepth 100000 in
theorem m_12_now (l : Launch) (D : va_G) (ct : Nat → ClassId) (tN : Nat) (ad : Nat → Nat) (iv : Nat → Int32) (ia : Nat → Nat → Int32) (R : va_W) (p0 : Int32) (h1 : (iv 1).toInt = 0) : MI l D (TY ct) tN yX12_now cX12_now 2 (some .boolean) ({ frames := 1, cells := 0, slots := 0, locals := 22 } : Room) [.ref (ad 0), .int p0] (MW ct ad iv ia R) (fun (v : Int32) (u : va_W) => (0 ≤ p0.toInt ∧ p0.toInt ≤ 3999 ∧ v.toInt = 1) ∨ ((p0.toInt < 0 ∨ 3999 < p0.toInt) ∧ v.toInt = 0)) (fun u => u) 0 0 := by
  intro sz
  refine Met.ofE (Qc := fun A => va_Qi (fun (v : Int32) (u : va_W) => (0 ≤ p0.toInt ∧ p0.toInt ≤ 3999 ∧ v.toInt = 1) ∨ ((p0.toInt < 0 ∨ 3999 < p0.toInt) ∧ v.toInt = 0)) (BW D A (fun u => u)) A) (by decide) (Nat.le_of_ble_eq_true rfl) ?_
  intro p e s m args below meth c A ls hsz E hr hlk hnm B hl
  have hl : lv_has ls 2 [(0, .ref (ad 0)), (1, .int p0)] := hl
  refine lv_iload_n E.1.1 E.1.2.1 dX12_now_0 rfl (lv_at hl 1 rfl) ?_
  refine lv_aload_n E.1.1 E.1.2.1 dX12_now_1 rfl (lv_at hl 0 rfl) ?_
  refine row_get (v := .int (iv 1)) E B iX12 rfl 2 (by decide) mw_1478 0 rfl rfl dX12_now_2 ?_
  refine lv_sipush (v := 3999) E.1.1 E.1.2.1 dX12_now_5 (by decide) ?_
  refine call_SI (kn := 3) E B (m_12_lies l D ct tN ad iv ia R  p0 ((iv 1)) ((3999 : Int32)) ) (good_S mw_1769 mw_1770 mw_12 mw_1771) (by decide +kernel) rfl rfl rfl ⟨by decide, by decide⟩ rfl hl (Nat.le_of_ble_eq_true rfl) dX12_now_8 ⟨Nat.le_of_ble_eq_true rfl, Nat.le_of_ble_eq_true rfl⟩ (fun v_1 u_2 H locs w_3 B => ?_)
  have w_3 : (0 ≤ p0.toInt ∧ p0.toInt ≤ 3999 ∧ v_1.toInt = 1) ∨ ((p0.toInt < 0 ∨ 3999 < p0.toInt) ∧ v_1.toInt = 0) := by have h0 := w_3; have a1 := h1; have a2 := tI_3999; omega
  have B : Hp D A s.heap (MW ct ad iv ia R) H locs := B
  refine at_n (n := 11) (k1 := 0) (k2 := 0) rfl rfl rfl ?_
  refine b_ne (tgt := 16) E rfl dX12_now_11 (by decide) (fun c_4 => ?_) (fun c_4 => ?_)
  · skip
    refine lv_aload_n E.1.1 E.1.2.1 dX12_now_16 rfl (lv_at hl 0 rfl) ?_
    refine lv_iload_n E.1.1 E.1.2.1 dX12_now_17 rfl (lv_at hl 1 rfl) ?_
    refine row_put E B iX12 rfl tyX12 tyX12_ok nmX12 2 (by decide) mw_1478 rfl 0 rfl rfl rfl (Nat.le_of_ble_eq_true rfl) dX12_now_18 (fun H locs B => ?_)
    have B := Hp.eq (sm_iv_1 ct ad iv ia R p0) B
    have h_6 : ((va_up iv 1 p0) 1).toInt = p0.toInt := rfl
    generalize va_up iv 1 p0 = iv_5 at B h_6
    refine lv_iconst (v := 1) E.1.1 E.1.2.1 dX12_now_21 (by decide) ?_
    have r_7 : (1 : Int32).toInt = 1 := tI_1
    exact ret_I (u := _) E hr hlk (narrow_z (by omega)) B (by omega) dX12_now_22
  · skip
    refine lv_iconst (v := 0) E.1.1 E.1.2.1 dX12_now_14 (by decide) ?_
    have r_8 : (0 : Int32).toInt = 0 := tI_0
    exact ret_I (u := _) E hr hlk (narrow_z (by omega)) B (by omega) dX12_now_15
set_option maxHeartbeats 4000000 in
set_option maxRecDepth 100000 in
theorem m_12_feed (l : Launch) (D : va_G) (ct : Nat → ClassId) (tN : Nat) (ad : Nat → Nat) (iv : Nat → Int32) (ia : Nat → Nat → Int32) (R : va_W) (p0 : Int32) (p1 : Int32) (p2 : Int32) (p3 : Int32) (p4 : Int32) (h0 : (iv 0).toInt = 0) : MI l D (TY ct) tN yX12_feed cX12_feed 6 (some .int) ({ frames := 1, cells := 0, slots := 0, locals := 22 } : Room) [.ref (ad 0), .int p0, .int p1, .int p2, .int p3, .int p4] (MW ct ad iv ia R) (fun (v : Int32) (u : va_W) => v.toInt = 20) (fun u => u) 0 0 := by
  intro sz
  refine Met.ofE (Qc := fun A => va_Qi (fun (v : Int32) (u : va_W) => v.toInt = 20) (BW D A (fun u => u)) A) (by decide) (Nat.le_of_ble_eq_true rfl) ?_
  intro p e s m args below meth c A ls hsz E hr hlk hnm B hl
  have hl : lv_has ls 6 [(0, .ref (ad 0)), (1, .int p0), (2, .int p1), (3, .int p2), (4, .int p3), (5, .int p4)] := hl
  refine lv_aload_n E.1.1 E.1.2.1 dX12_feed_0 rfl (lv_at hl 0 rfl) ?_
  refine row_get (v := .int (iv 0)) E B iX12 rfl 1 (by decide) mw_1477 0 rfl rfl dX12_feed_1 ?_
  refine lv_bipush (v := 20) E.1.1 E.1.2.1 dX12_feed_4 (by decide) ?_
  refine i_add E h0 tI_20 (by omega) (by omega) dX12_feed_6 (fun z_1 ez_1 => ?_)
  have ez_1 : z_1.toInt = 20 := by omega
  refine lv_sipush (v := 200) E.1.1 E.1.2.1 dX12_feed_7 (by decide) ?_
  refine c_le (tgt := 15) E ez_1 tI_200 dX12_feed_10 (by decide) (fun c_2 => ?_) (fun c_2 => ?_)
  · skip
    refine lv_aload_n E.1.1 E.1.2.1 dX12_feed_15 rfl (lv_at hl 0 rfl) ?_
    refine lv_iload_n E.1.1 E.1.2.1 dX12_feed_16 rfl (lv_at hl 1 rfl) ?_
    refine call_VV (kn := 1) E B (m_12_push l D ct tN ad iv ia R 0 p0 h0 (by omega)) (good_V mw_1776 mw_1778 ms_74 mw_12 mw_1779) 0 rfl rfl ⟨rfl, by decide +kernel⟩ rfl rfl rfl ⟨by decide, by decide⟩ rfl hl (Nat.le_of_ble_eq_true rfl) dX12_feed_17 ⟨Nat.le_of_ble_eq_true rfl, Nat.le_of_ble_eq_true rfl⟩ (fun u_4 H locs w_5 B => ?_)
    obtain ⟨iv_6, ia_7⟩ := u_4
    have h_8 := w_5
    have h_8 : (iv_6 0).toInt = 4 := by have h0 := h_8; (try dsimp only at h0); omega
    have B : Hp D A s.heap (MW ct ad iv_6 ia_7 R) H locs := B
    refine at_n (n := 20) (k1 := 0) (k2 := 0) rfl rfl rfl ?_
    refine lv_aload_n E.1.1 E.1.2.1 dX12_feed_20 rfl (lv_at hl 0 rfl) ?_
    refine lv_iload_n E.1.1 E.1.2.1 dX12_feed_21 rfl (lv_at hl 2 rfl) ?_
    refine call_VV (kn := 1) E B (m_12_push l D ct tN ad iv_6 ia_7 R 4 p1 h_8 (by omega)) (good_V mw_1776 mw_1778 ms_74 mw_12 mw_1779) 0 rfl rfl ⟨rfl, by decide +kernel⟩ rfl rfl rfl ⟨by decide, by decide⟩ rfl hl (Nat.le_of_ble_eq_true rfl) dX12_feed_22 ⟨Nat.le_of_ble_eq_true rfl, Nat.le_of_ble_eq_true rfl⟩ (fun u_10 H locs w_11 B => ?_)
    obtain ⟨iv_12, ia_13⟩ := u_10
    have h_14 := w_11
    have h_14 : (iv_12 0).toInt = 8 := by have h0 := h_14; (try dsimp only at h0); omega
    have B : Hp D A s.heap (MW ct ad iv_12 ia_13 R) H locs := B
    refine at_n (n := 25) (k1 := 0) (k2 := 0) rfl rfl rfl ?_
    refine lv_aload_n E.1.1 E.1.2.1 dX12_feed_25 rfl (lv_at hl 0 rfl) ?_
    refine lv_iload_n E.1.1 E.1.2.1 dX12_feed_26 rfl (lv_at hl 3 rfl) ?_
    refine call_VV (kn := 1) E B (m_12_push l D ct tN ad iv_12 ia_13 R 8 p2 h_14 (by omega)) (good_V mw_1776 mw_1778 ms_74 mw_12 mw_1779) 0 rfl rfl ⟨rfl, by decide +kernel⟩ rfl rfl rfl ⟨by decide, by decide⟩ rfl hl (Nat.le_of_ble_eq_true rfl) dX12_feed_27 ⟨Nat.le_of_ble_eq_true rfl, Nat.le_of_ble_eq_true rfl⟩ (fun u_16 H locs w_17 B => ?_)
    obtain ⟨iv_18, ia_19⟩ := u_16
    have h_20 := w_17
    have h_20 : (iv_18 0).toInt = 12 := by have h0 := h_20; (try dsimp only at h0); omega
    have B : Hp D A s.heap (MW ct ad iv_18 ia_19 R) H locs := B
    refine at_n (n := 30) (k1 := 0) (k2 := 0) rfl rfl rfl ?_
    refine lv_aload_n E.1.1 E.1.2.1 dX12_feed_30 rfl (lv_at hl 0 rfl) ?_
    refine lv_iload E.1.1 E.1.2.1 dX12_feed_31 (lv_at hl 4 rfl) ?_
    refine call_VV (kn := 1) E B (m_12_push l D ct tN ad iv_18 ia_19 R 12 p3 h_20 (by omega)) (good_V mw_1776 mw_1778 ms_74 mw_12 mw_1779) 0 rfl rfl ⟨rfl, by decide +kernel⟩ rfl rfl rfl ⟨by decide, by decide⟩ rfl hl (Nat.le_of_ble_eq_true rfl) dX12_feed_33 ⟨Nat.le_of_ble_eq_true rfl, Nat.le_of_ble_eq_true rfl⟩ (fun u_22 H locs w_23 B => ?_)
    obtain ⟨iv_24, ia_25⟩ := u_22
    have h_26 := w_23
    have h_26 : (iv_24 0).toInt = 16 := by have h0 := h_26; (try dsimp only at h0); omega
    have B : Hp D A s.heap (MW ct ad iv_24 ia_25 R) H locs := B
    refine at_n (n := 36) (k1 := 0) (k2 := 0) rfl rfl rfl ?_
    refine lv_aload_n E.1.1 E.1.2.1 dX12_feed_36 rfl (lv_at hl 0 rfl) ?_
    refine lv_iload E.1.1 E.1.2.1 dX12_feed_37 (lv_at hl 5 rfl) ?_
    refine call_VV (kn := 1) E B (m_12_push l D ct tN ad iv_24 ia_25 R 16 p4 h_26 (by omega)) (good_V mw_1776 mw_1778 ms_74 mw_12 mw_1779) 0 rfl rfl ⟨rfl, by decide +kernel⟩ rfl rfl rfl ⟨by decide, by decide⟩ rfl hl (Nat.le_of_ble_eq_true rfl) dX12_feed_39 ⟨Nat.le_of_ble_eq_true rfl, Nat.le_of_ble_eq_true rfl⟩ (fun u_28 H locs w_29 B => ?_)
    obtain ⟨iv_30, ia_31⟩ := u_28
    have h_32 := w_29
    have h_32 : (iv_30 0).toInt = 20 := by have h0 := h_32; (try dsimp only at h0); omega
    have B : Hp D A s.heap (MW ct ad iv_30 ia_31 R) H locs := B
    refine at_n (n := 42) (k1 := 0) (k2 := 0) rfl rfl rfl ?_
    refine lv_aload_n E.1.1 E.1.2.1 dX12_feed_42 rfl (lv_at hl 0 rfl) ?_
    refine row_get (v := .int (iv_30 0)) E B iX12 rfl 1 (by decide) mw_1477 0 rfl rfl dX12_feed_43 ?_
    have r_33 : (iv_30 0).toInt = 20 := h_32
    exact ret_I (u := _) E hr hlk rfl B (by omega) dX12_feed_46
  · exfalso; omega
set_option maxHeartbeats 4000000 in
set_option maxRecDepth 100000 in
theorem m_12_verse (l : Launch) (D : va_G) (ct : Nat → ClassId) (tN : Nat) (ad : Nat → Nat) (iv : Nat → Int32) (ia : Nat → Nat → Int32) (R : va_W) (p0 : Int32) (p1 : Int32) (h2 : (iv 2).toInt = 0) : MI l D (TY ct) tN yX12_verse cX12_verse 3 (some .int) ({ frames := 1, cells := 0, slots := 0, locals := 22 } : Room) [.ref (ad 0), .int p0, .int p1] (MW ct ad iv ia R) (fun (v : Int32) (u : va_W) => (0 ≤ p0.toInt ∧ p0.toInt ≤ 7 ∧ 0 ≤ p1.toInt ∧ p1.toInt ≤ 40 ∧ v.toInt = 0) ∨ ((p0.toInt < 0 ∨ 7 < p0.toInt ∨ p1.toInt < 0 ∨ 40 < p1.toInt) ∧ v.toInt = -1)) (fun u => u) 0 0 := by
  intro sz
  refine Met.ofE (Qc := fun A => va_Qi (fun (v : Int32) (u : va_W) => (0 ≤ p0.toInt ∧ p0.toInt ≤ 7 ∧ 0 ≤ p1.toInt ∧ p1.toInt ≤ 40 ∧ v.toInt = 0) ∨ ((p0.toInt < 0 ∨ 7 < p0.toInt ∨ p1.toInt < 0 ∨ 40 < p1.toInt) ∧ v.toInt = -1)) (BW D A (fun u => u)) A) (by decide) (Nat.le_of_ble_eq_true rfl) ?_
  intro p e s m args below meth c A ls hsz E hr hlk hnm B hl
  have hl : lv_has ls 3 [(0, .ref (ad 0)), (1, .int p0), (2, .int p1)] := hl
  refine lv_aload_n E.1.1 E.1.2.1 dX12_verse_0 rfl (lv_at hl 0 rfl) ?_
  refine row_get (v := .int (iv 2)) E B iX12 rfl 3 (by decide) mw_1479 0 rfl rfl dX12_verse_1 ?_
  refine lv_bipush (v := 60) E.1.1 E.1.2.1 dX12_verse_4 (by decide) ?_
  refine c_eq (tgt := 29) E h2 tI_60 dX12_verse_6 (by decide) (fun c_1 => ?_) (fun c_1 => ?_)
  · exfalso; omega
  · skip
    refine lv_iload_n E.1.1 E.1.2.1 dX12_verse_9 rfl (lv_at hl 1 rfl) ?_
    refine lv_iconst (v := 0) E.1.1 E.1.2.1 dX12_verse_10 (by decide) ?_
    refine lv_bipush (v := 7) E.1.1 E.1.2.1 dX12_verse_11 (by decide) ?_
    refine call_SI (kn := 3) E B (m_12_lies l D ct tN ad iv ia R  p0 ((0 : Int32)) ((7 : Int32)) ) (good_S mw_1769 mw_1770 mw_12 mw_1771) (by decide +kernel) rfl rfl rfl ⟨by decide, by decide⟩ rfl hl (Nat.le_of_ble_eq_true rfl) dX12_verse_13 ⟨Nat.le_of_ble_eq_true rfl, Nat.le_of_ble_eq_true rfl⟩ (fun v_2 u_3 H locs w_4 B => ?_)
    have w_4 : (0 ≤ p0.toInt ∧ p0.toInt ≤ 7 ∧ v_2.toInt = 1) ∨ ((p0.toInt < 0 ∨ 7 < p0.toInt) ∧ v_2.toInt = 0) := by have h0 := w_4; have a1 := tI_0; have a2 := tI_7; omega
    have B : Hp D A s.heap (MW ct ad iv ia R) H locs := B
    refine at_n (n := 16) (k1 := 0) (k2 := 0) rfl rfl rfl ?_
    refine b_eq (tgt := 29) E rfl dX12_verse_16 (by decide) (fun c_5 => ?_) (fun c_5 => ?_)
    · skip
      refine lv_iconst (v := -1) E.1.1 E.1.2.1 dX12_verse_29 (by decide) ?_
      have r_6 : (-1 : Int32).toInt = -1 := tI_m1
      exact ret_I (u := _) E hr hlk rfl B (by omega) dX12_verse_30
    · skip
      refine lv_iload_n E.1.1 E.1.2.1 dX12_verse_19 rfl (lv_at hl 2 rfl) ?_
      refine lv_iconst (v := 0) E.1.1 E.1.2.1 dX12_verse_20 (by decide) ?_
      refine lv_bipush (v := 40) E.1.1 E.1.2.1 dX12_verse_21 (by decide) ?_
      refine call_SI (kn := 3) E B (m_12_lies l D ct tN ad iv ia R  p1 ((0 : Int32)) ((40 : Int32)) ) (good_S mw_1769 mw_1770 mw_12 mw_1771) (by decide +kernel) rfl rfl rfl ⟨by decide, by decide⟩ rfl hl (Nat.le_of_ble_eq_true rfl) dX12_verse_23 ⟨Nat.le_of_ble_eq_true rfl, Nat.le_of_ble_eq_true rfl⟩ (fun v_7 u_8 H locs w_9 B => ?_)
      have w_9 : (0 ≤ p1.toInt ∧ p1.toInt ≤ 40 ∧ v_7.toInt = 1) ∨ ((p1.toInt < 0 ∨ 40 < p1.toInt) ∧ v_7.toInt = 0) := by have h0 := w_9; have a1 := tI_0; have a2 := tI_40; omega
      have B : Hp D A s.heap (MW ct ad iv ia R) H locs := B
      refine at_n (n := 26) (k1 := 0) (k2 := 0) rfl rfl rfl ?_
      refine b_ne (tgt := 31) E rfl dX12_verse_26 (by decide) (fun c_10 => ?_) (fun c_10 => ?_)
      · skip
        refine lv_aload_n E.1.1 E.1.2.1 dX12_verse_31 rfl (lv_at hl 0 rfl) ?_
        refine row_get (v := .ref (ad 2)) E B iX12 rfl 10 (by decide) mw_1486 0 rfl rfl dX12_verse_32 ?_
        refine lv_aload_n E.1.1 E.1.2.1 dX12_verse_35 rfl (lv_at hl 0 rfl) ?_
        refine row_get (v := .int (iv 2)) E B iX12 rfl 3 (by decide) mw_1479 0 rfl rfl dX12_verse_36 ?_
        refine lv_iload_n E.1.1 E.1.2.1 dX12_verse_39 rfl (lv_at hl 1 rfl) ?_
        refine row_iast E B 2 rfl (vp_of h2 (by omega) (by omega)) dX12_verse_40 (fun H locs B => ?_)
        have B := Hp.eq (sm_ia_2 ct ad iv ia R (upd (ia 2) (iv 2).toNatClampNeg p0)) B
        generalize va_up ia 2 (upd (ia 2) (iv 2).toNatClampNeg p0) = ia_11 at B 
        refine at_pc (n := 41) rfl ?_
        refine lv_aload_n E.1.1 E.1.2.1 dX12_verse_41 rfl (lv_at hl 0 rfl) ?_
        refine row_get (v := .ref (ad 3)) E B iX12 rfl 11 (by decide) mw_1487 0 rfl rfl dX12_verse_42 ?_
        refine lv_aload_n E.1.1 E.1.2.1 dX12_verse_45 rfl (lv_at hl 0 rfl) ?_
        refine row_get (v := .int (iv 2)) E B iX12 rfl 3 (by decide) mw_1479 0 rfl rfl dX12_verse_46 ?_
        refine lv_iload_n E.1.1 E.1.2.1 dX12_verse_49 rfl (lv_at hl 2 rfl) ?_
        refine row_iast E B 3 rfl (vp_of h2 (by omega) (by omega)) dX12_verse_50 (fun H locs B => ?_)
        have B := Hp.eq (sm_ia_3 ct ad iv ia_11 R (upd (ia_11 3) (iv 2).toNatClampNeg p1)) B
        generalize va_up ia_11 3 (upd (ia_11 3) (iv 2).toNatClampNeg p1) = ia_12 at B 
        refine at_pc (n := 51) rfl ?_
        refine lv_aload_n E.1.1 E.1.2.1 dX12_verse_51 rfl (lv_at hl 0 rfl) ?_
        refine lv_dup E.1.1 E.1.2.1 dX12_verse_52 rfl ?_
        refine row_get (v := .int (iv 2)) E B iX12 rfl 3 (by decide) mw_1479 0 rfl rfl dX12_verse_53 ?_
        refine lv_iconst (v := 1) E.1.1 E.1.2.1 dX12_verse_56 (by decide) ?_
        refine i_add E h2 tI_1 (by omega) (by omega) dX12_verse_57 (fun z_13 ez_13 => ?_)
        have ez_13 : z_13.toInt = 1 := by omega
        refine row_put E B iX12 rfl tyX12 tyX12_ok nmX12 3 (by decide) mw_1479 rfl 0 rfl rfl rfl (Nat.le_of_ble_eq_true rfl) dX12_verse_58 (fun H locs B => ?_)
        have B := Hp.eq (sm_iv_2 ct ad iv ia_12 R z_13) B
        have h_15 : ((va_up iv 2 z_13) 2).toInt = 1 := ez_13
        generalize va_up iv 2 z_13 = iv_14 at B h_15
        refine at_pc (n := 61) rfl ?_
        refine lv_aload_n E.1.1 E.1.2.1 dX12_verse_61 rfl (lv_at hl 0 rfl) ?_
        refine row_get (v := .int (iv_14 2)) E B iX12 rfl 3 (by decide) mw_1479 0 rfl rfl dX12_verse_62 ?_
        refine lv_iconst (v := 1) E.1.1 E.1.2.1 dX12_verse_65 (by decide) ?_
        refine i_sub E h_15 tI_1 (by omega) (by omega) dX12_verse_66 (fun z_16 ez_16 => ?_)
        have ez_16 : z_16.toInt = 0 := by omega
        have r_17 : z_16.toInt = 0 := ez_16
        exact ret_I (u := _) E hr hlk rfl B (by omega) dX12_verse_67
      · skip
        refine lv_iconst (v := -1) E.1.1 E.1.2.1 dX12_verse_29 (by decide) ?_
        have r_18 : (-1 : Int32).toInt = -1 := tI_m1
        exact ret_I (u := _) E hr hlk rfl B (by omega) dX12_verse_30
set_option maxHeartbeats 4000000 in
set_option maxRecDepth 100000 in
theorem m_12_source (l : Launch) (D : va_G) (ct : Nat → ClassId) (tN : Nat) (ad : Nat → Nat) (iv : Nat → Int32) (ia : Nat → Nat → Int32) (R : va_W) (p0 : Int32) (p1 : Int32) (p2 : Int32) (h2 : (iv 2).toInt = 0) : MI l D (TY ct) tN yX12_source cX12_source 6 (some .boolean) ({ frames := 2, cells := 0, slots := 0, locals := 43 } : Room) [.ref (ad 0), .int p0, .int p1, .int p2] (MW ct ad iv ia R) (fun (v : Int32) (u : va_W) => v.toInt = 0) (fun u => u) 0 0 := by
  intro sz
  refine Met.ofE (Qc := fun A => va_Qi (fun (v : Int32) (u : va_W) => v.toInt = 0) (BW D A (fun u => u)) A) (by decide) (Nat.le_of_ble_eq_true rfl) ?_
  intro p e s m args below meth c A ls hsz E hr hlk hnm B hl
  have hl : lv_has ls 6 [(0, .ref (ad 0)), (1, .int p0), (2, .int p1), (3, .int p2)] := hl
  refine lv_aload_n E.1.1 E.1.2.1 dX12_source_0 rfl (lv_at hl 0 rfl) ?_
  refine lv_iload_n E.1.1 E.1.2.1 dX12_source_1 rfl (lv_at hl 1 rfl) ?_
  refine call_VI (kn := 1) E B (m_12_isVerse l D ct tN ad iv ia R  p0 h2) (good_V mw_1788 mw_1790 ms_75 mw_12 mw_1791) 0 rfl rfl ⟨rfl, by decide +kernel⟩ rfl rfl rfl ⟨by decide, by decide⟩ rfl hl (Nat.le_of_ble_eq_true rfl) dX12_source_2 ⟨Nat.le_of_ble_eq_true rfl, Nat.le_of_ble_eq_true rfl⟩ (fun v_1 u_2 H locs w_3 B => ?_)
  have w_3 : v_1.toInt = 0 := w_3
  have B : Hp D A s.heap (MW ct ad iv ia R) H locs := B
  refine at_n (n := 5) (k1 := 0) (k2 := 0) rfl rfl rfl ?_
  refine b_eq (tgt := 35) E w_3 dX12_source_5 (by decide) (fun c_4 => ?_) (fun c_4 => ?_)
  · skip
    refine lv_iconst (v := 0) E.1.1 E.1.2.1 dX12_source_35 (by decide) ?_
    have r_5 : (0 : Int32).toInt = 0 := tI_0
    exact ret_I (u := _) E hr hlk (narrow_z (by omega)) B (by omega) dX12_source_36
  · exfalso; omega
set_option maxHeartbeats 4000000 in
set_option maxRecDepth 100000 in
theorem m_12_word (l : Launch) (D : va_G) (ct : Nat → ClassId) (tN : Nat) (ad : Nat → Nat) (iv : Nat → Int32) (ia : Nat → Nat → Int32) (R : va_W) (p0 : Int32) (h0 : (iv 0).toInt = 0) (h3 : (iv 3).toInt = 0) : MI l D (TY ct) tN yX12_word cX12_word 3 (some .int) ({ frames := 1, cells := 0, slots := 0, locals := 22 } : Room) [.ref (ad 0), .int p0] (MW ct ad iv ia R) (fun (v : Int32) (u : va_W) => v.toInt = -1) (fun u => u) 0 0 := by
  intro sz
  refine Met.ofE (Qc := fun A => va_Qi (fun (v : Int32) (u : va_W) => v.toInt = -1) (BW D A (fun u => u)) A) (by decide) (Nat.le_of_ble_eq_true rfl) ?_
  intro p e s m args below meth c A ls hsz E hr hlk hnm B hl
  have hl : lv_has ls 3 [(0, .ref (ad 0)), (1, .int p0)] := hl
  refine lv_aload_n E.1.1 E.1.2.1 dX12_word_0 rfl (lv_at hl 0 rfl) ?_
  refine row_get (v := .int (iv 3)) E B iX12 rfl 4 (by decide) mw_1480 0 rfl rfl dX12_word_1 ?_
  refine lv_bipush (v := 80) E.1.1 E.1.2.1 dX12_word_4 (by decide) ?_
  refine c_eq (tgt := 35) E h3 tI_80 dX12_word_6 (by decide) (fun c_1 => ?_) (fun c_1 => ?_)
  · exfalso; omega
  · skip
    refine lv_iload_n E.1.1 E.1.2.1 dX12_word_9 rfl (lv_at hl 1 rfl) ?_
    refine lv_iconst (v := 1) E.1.1 E.1.2.1 dX12_word_10 (by decide) ?_
    refine lv_bipush (v := 12) E.1.1 E.1.2.1 dX12_word_11 (by decide) ?_
    refine call_SI (kn := 3) E B (m_12_lies l D ct tN ad iv ia R  p0 ((1 : Int32)) ((12 : Int32)) ) (good_S mw_1769 mw_1770 mw_12 mw_1771) (by decide +kernel) rfl rfl rfl ⟨by decide, by decide⟩ rfl hl (Nat.le_of_ble_eq_true rfl) dX12_word_13 ⟨Nat.le_of_ble_eq_true rfl, Nat.le_of_ble_eq_true rfl⟩ (fun v_2 u_3 H locs w_4 B => ?_)
    have w_4 : (1 ≤ p0.toInt ∧ p0.toInt ≤ 12 ∧ v_2.toInt = 1) ∨ ((p0.toInt < 1 ∨ 12 < p0.toInt) ∧ v_2.toInt = 0) := by have h0 := w_4; have a1 := tI_1; have a2 := tI_12; omega
    have B : Hp D A s.heap (MW ct ad iv ia R) H locs := B
    refine at_n (n := 16) (k1 := 0) (k2 := 0) rfl rfl rfl ?_
    refine b_eq (tgt := 35) E rfl dX12_word_16 (by decide) (fun c_5 => ?_) (fun c_5 => ?_)
    · skip
      refine lv_iconst (v := -1) E.1.1 E.1.2.1 dX12_word_35 (by decide) ?_
      have r_6 : (-1 : Int32).toInt = -1 := tI_m1
      exact ret_I (u := _) E hr hlk rfl B (by omega) dX12_word_36
    · skip
      refine lv_iload_n E.1.1 E.1.2.1 dX12_word_19 rfl (lv_at hl 1 rfl) ?_
      refine lv_aload_n E.1.1 E.1.2.1 dX12_word_20 rfl (lv_at hl 0 rfl) ?_
      refine row_get (v := .int (iv 0)) E B iX12 rfl 1 (by decide) mw_1477 0 rfl rfl dX12_word_21 ?_
      refine c_gt (tgt := 35) E rfl h0 dX12_word_24 (by decide) (fun c_7 => ?_) (fun c_7 => ?_)
      · skip
        refine lv_iconst (v := -1) E.1.1 E.1.2.1 dX12_word_35 (by decide) ?_
        have r_8 : (-1 : Int32).toInt = -1 := tI_m1
        exact ret_I (u := _) E hr hlk rfl B (by omega) dX12_word_36
      · exfalso; omega
set_option maxHeartbeats 4000000 in
set_option maxRecDepth 100000 in
theorem m_12_spell (l : Launch) (D : va_G) (ct : Nat → ClassId) (tN : Nat) (ad : Nat → Nat) (iv : Nat → Int32) (ia : Nat → Nat → Int32) (R : va_W) (p0 : Int32) (p1 : Int32) (p2 : Int32) (h3 : (iv 3).toInt = 0) : MI l D (TY ct) tN yX12_spell cX12_spell 4 (some .boolean) ({ frames := 2, cells := 0, slots := 0, locals := 43 } : Room) [.ref (ad 0), .int p0, .int p1, .int p2] (MW ct ad iv ia R) (fun (v : Int32) (u : va_W) => v.toInt = 0) (fun u => u) 0 0 := by
  intro sz
  refine Met.ofE (Qc := fun A => va_Qi (fun (v : Int32) (u : va_W) => v.toInt = 0) (BW D A (fun u => u)) A) (by decide) (Nat.le_of_ble_eq_true rfl) ?_
  intro p e s m args below meth c A ls hsz E hr hlk hnm B hl
  have hl : lv_has ls 4 [(0, .ref (ad 0)), (1, .int p0), (2, .int p1), (3, .int p2)] := hl
  refine lv_iload_n E.1.1 E.1.2.1 dX12_spell_0 rfl (lv_at hl 1 rfl) ?_
  refine lv_iconst (v := 0) E.1.1 E.1.2.1 dX12_spell_1 (by decide) ?_
  refine lv_iconst (v := 3) E.1.1 E.1.2.1 dX12_spell_2 (by decide) ?_
  refine call_SI (kn := 3) E B (m_12_lies l D ct tN ad iv ia R  p0 ((0 : Int32)) ((3 : Int32)) ) (good_S mw_1769 mw_1770 mw_12 mw_1771) (by decide +kernel) rfl rfl rfl ⟨by decide, by decide⟩ rfl hl (Nat.le_of_ble_eq_true rfl) dX12_spell_3 ⟨Nat.le_of_ble_eq_true rfl, Nat.le_of_ble_eq_true rfl⟩ (fun v_1 u_2 H locs w_3 B => ?_)
  have w_3 : (0 ≤ p0.toInt ∧ p0.toInt ≤ 3 ∧ v_1.toInt = 1) ∨ ((p0.toInt < 0 ∨ 3 < p0.toInt) ∧ v_1.toInt = 0) := by have h0 := w_3; have a1 := tI_0; have a2 := tI_3; omega
  have B : Hp D A s.heap (MW ct ad iv ia R) H locs := B
  refine at_n (n := 6) (k1 := 0) (k2 := 0) rfl rfl rfl ?_
  refine b_eq (tgt := 43) E rfl dX12_spell_6 (by decide) (fun c_4 => ?_) (fun c_4 => ?_)
  · skip
    refine lv_iconst (v := 0) E.1.1 E.1.2.1 dX12_spell_43 (by decide) ?_
    have r_5 : (0 : Int32).toInt = 0 := tI_0
    exact ret_I (u := _) E hr hlk (narrow_z (by omega)) B (by omega) dX12_spell_44
  · skip
    refine lv_aload_n E.1.1 E.1.2.1 dX12_spell_9 rfl (lv_at hl 0 rfl) ?_
    refine lv_iload_n E.1.1 E.1.2.1 dX12_spell_10 rfl (lv_at hl 2 rfl) ?_
    refine call_VI (kn := 1) E B (m_12_isWord l D ct tN ad iv ia R  p1 h3) (good_V mw_1816 mw_1818 ms_79 mw_12 mw_1819) 0 rfl rfl ⟨rfl, by decide +kernel⟩ rfl rfl rfl ⟨by decide, by decide⟩ rfl hl (Nat.le_of_ble_eq_true rfl) dX12_spell_11 ⟨Nat.le_of_ble_eq_true rfl, Nat.le_of_ble_eq_true rfl⟩ (fun v_6 u_7 H locs w_8 B => ?_)
    have w_8 : v_6.toInt = 0 := w_8
    have B : Hp D A s.heap (MW ct ad iv ia R) H locs := B
    refine at_n (n := 14) (k1 := 0) (k2 := 0) rfl rfl rfl ?_
    refine b_eq (tgt := 43) E w_8 dX12_spell_14 (by decide) (fun c_9 => ?_) (fun c_9 => ?_)
    · skip
      refine lv_iconst (v := 0) E.1.1 E.1.2.1 dX12_spell_43 (by decide) ?_
      have r_10 : (0 : Int32).toInt = 0 := tI_0
      exact ret_I (u := _) E hr hlk (narrow_z (by omega)) B (by omega) dX12_spell_44
    · exfalso; omega
set_option maxHeartbeats 4000000 in
set_option maxRecDepth 100000 in
theorem m_12_syllables (l : Launch) (D : va_G) (ct : Nat → ClassId) (tN : Nat) (ad : Nat → Nat) (iv : Nat → Int32) (ia : Nat → Nat → Int32) (R : va_W) (p0 : Int32) (h3 : (iv 3).toInt = 0) : MI l D (TY ct) tN yX12_syllables cX12_syllables 2 (some .int) ({ frames := 2, cells := 0, slots := 0, locals := 43 } : Room) [.ref (ad 0), .int p0] (MW ct ad iv ia R) (fun (v : Int32) (u : va_W) => v.toInt = -1) (fun u => u) 0 0 := by
  intro sz
  refine Met.ofE (Qc := fun A => va_Qi (fun (v : Int32) (u : va_W) => v.toInt = -1) (BW D A (fun u => u)) A) (by decide) (Nat.le_of_ble_eq_true rfl) ?_
  intro p e s m args below meth c A ls hsz E hr hlk hnm B hl
  have hl : lv_has ls 2 [(0, .ref (ad 0)), (1, .int p0)] := hl
  refine lv_aload_n E.1.1 E.1.2.1 dX12_syllables_0 rfl (lv_at hl 0 rfl) ?_
  refine lv_iload_n E.1.1 E.1.2.1 dX12_syllables_1 rfl (lv_at hl 1 rfl) ?_
  refine call_VI (kn := 1) E B (m_12_isWord l D ct tN ad iv ia R  p0 h3) (good_V mw_1816 mw_1818 ms_79 mw_12 mw_1819) 0 rfl rfl ⟨rfl, by decide +kernel⟩ rfl rfl rfl ⟨by decide, by decide⟩ rfl hl (Nat.le_of_ble_eq_true rfl) dX12_syllables_2 ⟨Nat.le_of_ble_eq_true rfl, Nat.le_of_ble_eq_true rfl⟩ (fun v_1 u_2 H locs w_3 B => ?_)
  have w_3 : v_1.toInt = 0 := w_3
  have B : Hp D A s.heap (MW ct ad iv ia R) H locs := B
  refine at_n (n := 5) (k1 := 0) (k2 := 0) rfl rfl rfl ?_
  refine b_eq (tgt := 16) E w_3 dX12_syllables_5 (by decide) (fun c_4 => ?_) (fun c_4 => ?_)
  · skip
    refine lv_iconst (v := -1) E.1.1 E.1.2.1 dX12_syllables_16 (by decide) ?_
    have r_5 : (-1 : Int32).toInt = -1 := tI_m1
    exact ret_I (u := _) E hr hlk rfl B (by omega) dX12_syllables_17
  · exfalso; omega
set_option maxHeartbeats 4000000 in
set_option maxRecDepth 100000 in
theorem m_12_company (l : Launch) (D : va_G) (ct : Nat → ClassId) (tN : Nat) (ad : Nat → Nat) (iv : Nat → Int32) (ia : Nat → Nat → Int32) (R : va_W) (p0 : Int32) (p1 : Int32) (h4 : (iv 4).toInt = 0) : MI l D (TY ct) tN yX12_company cX12_company 3 (some .int) ({ frames := 1, cells := 0, slots := 0, locals := 22 } : Room) [.ref (ad 0), .int p0, .int p1] (MW ct ad iv ia R) (fun (v : Int32) (u : va_W) => (0 ≤ p0.toInt ∧ p0.toInt ≤ 255 ∧ 0 ≤ p1.toInt ∧ p1.toInt ≤ 99 ∧ v.toInt = 0) ∨ ((p0.toInt < 0 ∨ 255 < p0.toInt ∨ p1.toInt < 0 ∨ 99 < p1.toInt) ∧ v.toInt = -1)) (fun u => u) 0 0 := by
  intro sz
  refine Met.ofE (Qc := fun A => va_Qi (fun (v : Int32) (u : va_W) => (0 ≤ p0.toInt ∧ p0.toInt ≤ 255 ∧ 0 ≤ p1.toInt ∧ p1.toInt ≤ 99 ∧ v.toInt = 0) ∨ ((p0.toInt < 0 ∨ 255 < p0.toInt ∨ p1.toInt < 0 ∨ 99 < p1.toInt) ∧ v.toInt = -1)) (BW D A (fun u => u)) A) (by decide) (Nat.le_of_ble_eq_true rfl) ?_
  intro p e s m args below meth c A ls hsz E hr hlk hnm B hl
  have hl : lv_has ls 3 [(0, .ref (ad 0)), (1, .int p0), (2, .int p1)] := hl
  refine lv_aload_n E.1.1 E.1.2.1 dX12_company_0 rfl (lv_at hl 0 rfl) ?_
  refine row_get (v := .int (iv 4)) E B iX12 rfl 5 (by decide) mw_1481 0 rfl rfl dX12_company_1 ?_
  refine lv_bipush (v := 6) E.1.1 E.1.2.1 dX12_company_4 (by decide) ?_
  refine c_eq (tgt := 30) E h4 tI_6 dX12_company_6 (by decide) (fun c_1 => ?_) (fun c_1 => ?_)
  · exfalso; omega
  · skip
    refine lv_iload_n E.1.1 E.1.2.1 dX12_company_9 rfl (lv_at hl 1 rfl) ?_
    refine lv_iconst (v := 0) E.1.1 E.1.2.1 dX12_company_10 (by decide) ?_
    refine lv_sipush (v := 255) E.1.1 E.1.2.1 dX12_company_11 (by decide) ?_
    refine call_SI (kn := 3) E B (m_12_lies l D ct tN ad iv ia R  p0 ((0 : Int32)) ((255 : Int32)) ) (good_S mw_1769 mw_1770 mw_12 mw_1771) (by decide +kernel) rfl rfl rfl ⟨by decide, by decide⟩ rfl hl (Nat.le_of_ble_eq_true rfl) dX12_company_14 ⟨Nat.le_of_ble_eq_true rfl, Nat.le_of_ble_eq_true rfl⟩ (fun v_2 u_3 H locs w_4 B => ?_)
    have w_4 : (0 ≤ p0.toInt ∧ p0.toInt ≤ 255 ∧ v_2.toInt = 1) ∨ ((p0.toInt < 0 ∨ 255 < p0.toInt) ∧ v_2.toInt = 0) := by have h0 := w_4; have a1 := tI_0; have a2 := tI_255; omega
    have B : Hp D A s.heap (MW ct ad iv ia R) H locs := B
    refine at_n (n := 17) (k1 := 0) (k2 := 0) rfl rfl rfl ?_
    refine b_eq (tgt := 30) E rfl dX12_company_17 (by decide) (fun c_5 => ?_) (fun c_5 => ?_)
    · skip
      refine lv_iconst (v := -1) E.1.1 E.1.2.1 dX12_company_30 (by decide) ?_
      have r_6 : (-1 : Int32).toInt = -1 := tI_m1
      exact ret_I (u := _) E hr hlk rfl B (by omega) dX12_company_31
    · skip
      refine lv_iload_n E.1.1 E.1.2.1 dX12_company_20 rfl (lv_at hl 2 rfl) ?_
      refine lv_iconst (v := 0) E.1.1 E.1.2.1 dX12_company_21 (by decide) ?_
      refine lv_bipush (v := 99) E.1.1 E.1.2.1 dX12_company_22 (by decide) ?_
      refine call_SI (kn := 3) E B (m_12_lies l D ct tN ad iv ia R  p1 ((0 : Int32)) ((99 : Int32)) ) (good_S mw_1769 mw_1770 mw_12 mw_1771) (by decide +kernel) rfl rfl rfl ⟨by decide, by decide⟩ rfl hl (Nat.le_of_ble_eq_true rfl) dX12_company_24 ⟨Nat.le_of_ble_eq_true rfl, Nat.le_of_ble_eq_true rfl⟩ (fun v_7 u_8 H locs w_9 B => ?_)
      have w_9 : (0 ≤ p1.toInt ∧ p1.toInt ≤ 99 ∧ v_7.toInt = 1) ∨ ((p1.toInt < 0 ∨ 99 < p1.toInt) ∧ v_7.toInt = 0) := by have h0 := w_9; have a1 := tI_0; have a2 := tI_99; omega
      have B : Hp D A s.heap (MW ct ad iv ia R) H locs := B
      refine at_n (n := 27) (k1 := 0) (k2 := 0) rfl rfl rfl ?_
      refine b_ne (tgt := 32) E rfl dX12_company_27 (by decide) (fun c_10 => ?_) (fun c_10 => ?_)
      · skip
        refine lv_aload_n E.1.1 E.1.2.1 dX12_company_32 rfl (lv_at hl 0 rfl) ?_
        refine row_get (v := .ref (ad 8)) E B iX12 rfl 16 (by decide) mw_1492 0 rfl rfl dX12_company_33 ?_
        refine lv_aload_n E.1.1 E.1.2.1 dX12_company_36 rfl (lv_at hl 0 rfl) ?_
        refine row_get (v := .int (iv 4)) E B iX12 rfl 5 (by decide) mw_1481 0 rfl rfl dX12_company_37 ?_
        refine lv_iload_n E.1.1 E.1.2.1 dX12_company_40 rfl (lv_at hl 1 rfl) ?_
        refine row_iast E B 8 rfl (vp_of h4 (by omega) (by omega)) dX12_company_41 (fun H locs B => ?_)
        have B := Hp.eq (sm_ia_8 ct ad iv ia R (upd (ia 8) (iv 4).toNatClampNeg p0)) B
        generalize va_up ia 8 (upd (ia 8) (iv 4).toNatClampNeg p0) = ia_11 at B 
        refine at_pc (n := 42) rfl ?_
        refine lv_aload_n E.1.1 E.1.2.1 dX12_company_42 rfl (lv_at hl 0 rfl) ?_
        refine row_get (v := .ref (ad 9)) E B iX12 rfl 17 (by decide) mw_1493 0 rfl rfl dX12_company_43 ?_
        refine lv_aload_n E.1.1 E.1.2.1 dX12_company_46 rfl (lv_at hl 0 rfl) ?_
        refine row_get (v := .int (iv 4)) E B iX12 rfl 5 (by decide) mw_1481 0 rfl rfl dX12_company_47 ?_
        refine lv_iload_n E.1.1 E.1.2.1 dX12_company_50 rfl (lv_at hl 2 rfl) ?_
        refine row_iast E B 9 rfl (vp_of h4 (by omega) (by omega)) dX12_company_51 (fun H locs B => ?_)
        have B := Hp.eq (sm_ia_9 ct ad iv ia_11 R (upd (ia_11 9) (iv 4).toNatClampNeg p1)) B
        generalize va_up ia_11 9 (upd (ia_11 9) (iv 4).toNatClampNeg p1) = ia_12 at B 
        refine at_pc (n := 52) rfl ?_
        refine lv_aload_n E.1.1 E.1.2.1 dX12_company_52 rfl (lv_at hl 0 rfl) ?_
        refine lv_dup E.1.1 E.1.2.1 dX12_company_53 rfl ?_
        refine row_get (v := .int (iv 4)) E B iX12 rfl 5 (by decide) mw_1481 0 rfl rfl dX12_company_54 ?_
        refine lv_iconst (v := 1) E.1.1 E.1.2.1 dX12_company_57 (by decide) ?_
        refine i_add E h4 tI_1 (by omega) (by omega) dX12_company_58 (fun z_13 ez_13 => ?_)
        have ez_13 : z_13.toInt = 1 := by omega
        refine row_put E B iX12 rfl tyX12 tyX12_ok nmX12 5 (by decide) mw_1481 rfl 0 rfl rfl rfl (Nat.le_of_ble_eq_true rfl) dX12_company_59 (fun H locs B => ?_)
        have B := Hp.eq (sm_iv_4 ct ad iv ia_12 R z_13) B
        have h_15 : ((va_up iv 4 z_13) 4).toInt = 1 := ez_13
        generalize va_up iv 4 z_13 = iv_14 at B h_15
        refine at_pc (n := 62) rfl ?_
        refine lv_aload_n E.1.1 E.1.2.1 dX12_company_62 rfl (lv_at hl 0 rfl) ?_
        refine row_get (v := .int (iv_14 4)) E B iX12 rfl 5 (by decide) mw_1481 0 rfl rfl dX12_company_63 ?_
        refine lv_iconst (v := 1) E.1.1 E.1.2.1 dX12_company_66 (by decide) ?_
        refine i_sub E h_15 tI_1 (by omega) (by omega) dX12_company_67 (fun z_16 ez_16 => ?_)
        have ez_16 : z_16.toInt = 0 := by omega
        have r_17 : z_16.toInt = 0 := ez_16
        exact ret_I (u := _) E hr hlk rfl B (by omega) dX12_company_68
      · skip
        refine lv_iconst (v := -1) E.1.1 E.1.2.1 dX12_company_30 (by decide) ?_
        have r_18 : (-1 : Int32).toInt = -1 := tI_m1
        exact ret_I (u := _) E hr hlk rfl B (by omega) dX12_company_31
set_option maxHeartbeats 4000000 in
set_option maxRecDepth 100000 in
theorem m_12_centre (l : Launch) (D : va_G) (ct : Nat → ClassId) (tN : Nat) (ad : Nat → Nat) (iv : Nat → Int32) (ia : Nat → Nat → Int32) (R : va_W) (p0 : Int32)  : MI l D (TY ct) tN yX12_centre cX12_centre 2 (some .boolean) ({ frames := 1, cells := 0, slots := 0, locals := 22 } : Room) [.ref (ad 0), .int p0] (MW ct ad iv ia R) (fun (v : Int32) (u : va_W) => (0 ≤ p0.toInt ∧ p0.toInt ≤ 99 ∧ v.toInt = 1) ∨ ((p0.toInt < 0 ∨ 99 < p0.toInt) ∧ v.toInt = 0)) (fun u => u) 0 0 := by
  intro sz
  refine Met.ofE (Qc := fun A => va_Qi (fun (v : Int32) (u : va_W) => (0 ≤ p0.toInt ∧ p0.toInt ≤ 99 ∧ v.toInt = 1) ∨ ((p0.toInt < 0 ∨ 99 < p0.toInt) ∧ v.toInt = 0)) (BW D A (fun u => u)) A) (by decide) (Nat.le_of_ble_eq_true rfl) ?_
  intro p e s m args below meth c A ls hsz E hr hlk hnm B hl
  have hl : lv_has ls 2 [(0, .ref (ad 0)), (1, .int p0)] := hl
  refine lv_iload_n E.1.1 E.1.2.1 dX12_centre_0 rfl (lv_at hl 1 rfl) ?_
  refine lv_iconst (v := 0) E.1.1 E.1.2.1 dX12_centre_1 (by decide) ?_
  refine lv_bipush (v := 99) E.1.1 E.1.2.1 dX12_centre_2 (by decide) ?_
  refine call_SI (kn := 3) E B (m_12_lies l D ct tN ad iv ia R  p0 ((0 : Int32)) ((99 : Int32)) ) (good_S mw_1769 mw_1770 mw_12 mw_1771) (by decide +kernel) rfl rfl rfl ⟨by decide, by decide⟩ rfl hl (Nat.le_of_ble_eq_true rfl) dX12_centre_4 ⟨Nat.le_of_ble_eq_true rfl, Nat.le_of_ble_eq_true rfl⟩ (fun v_1 u_2 H locs w_3 B => ?_)
  have w_3 : (0 ≤ p0.toInt ∧ p0.toInt ≤ 99 ∧ v_1.toInt = 1) ∨ ((p0.toInt < 0 ∨ 99 < p0.toInt) ∧ v_1.toInt = 0) := by have h0 := w_3; have a1 := tI_0; have a2 := tI_99; omega
  have B : Hp D A s.heap (MW ct ad iv ia R) H locs := B
  refine at_n (n := 7) (k1 := 0) (k2 := 0) rfl rfl rfl ?_
  refine b_ne (tgt := 12) E rfl dX12_centre_7 (by decide) (fun c_4 => ?_) (fun c_4 => ?_)
  · skip
    refine lv_aload_n E.1.1 E.1.2.1 dX12_centre_12 rfl (lv_at hl 0 rfl) ?_
    refine lv_iload_n E.1.1 E.1.2.1 dX12_centre_13 rfl (lv_at hl 1 rfl) ?_
    refine row_put E B iX12 rfl tyX12 tyX12_ok nmX12 9 (by decide) mw_1485 rfl 0 rfl rfl rfl (Nat.le_of_ble_eq_true rfl) dX12_centre_14 (fun H locs B => ?_)
    have B := Hp.eq (sm_iv_8 ct ad iv ia R p0) B
    have h_6 : ((va_up iv 8 p0) 8).toInt = p0.toInt := rfl
    generalize va_up iv 8 p0 = iv_5 at B h_6
    refine lv_iconst (v := 1) E.1.1 E.1.2.1 dX12_centre_17 (by decide) ?_
    have r_7 : (1 : Int32).toInt = 1 := tI_1
    exact ret_I (u := _) E hr hlk (narrow_z (by omega)) B (by omega) dX12_centre_18
  · skip
    refine lv_iconst (v := 0) E.1.1 E.1.2.1 dX12_centre_10 (by decide) ?_
    have r_8 : (0 : Int32).toInt = 0 := tI_0
    exact ret_I (u := _) E hr hlk (narrow_z (by omega)) B (by omega) dX12_centre_11
set_option maxHeartbeats 4000000 in
set_option maxRecDepth 100000 in
theorem m_12_scholar (l : Launch) (D : va_G) (ct : Nat → ClassId) (tN : Nat) (ad : Nat → Nat) (iv : Nat → Int32) (ia : Nat → Nat → Int32) (R : va_W) (p0 : Int32) (p1 : Int32) (h4 : (iv 4).toInt = 0) (h5 : (iv 5).toInt = 0) : MI l D (TY ct) tN yX12_scholar cX12_scholar 3 (some .int) ({ frames := 1, cells := 0, slots := 0, locals := 22 } : Room) [.ref (ad 0), .int p0, .int p1] (MW ct ad iv ia R) (fun (v : Int32) (u : va_W) => v.toInt = -1) (fun u => u) 0 0 := by
  intro sz
  refine Met.ofE (Qc := fun A => va_Qi (fun (v : Int32) (u : va_W) => v.toInt = -1) (BW D A (fun u => u)) A) (by decide) (Nat.le_of_ble_eq_true rfl) ?_
  intro p e s m args below meth c A ls hsz E hr hlk hnm B hl
  have hl : lv_has ls 3 [(0, .ref (ad 0)), (1, .int p0), (2, .int p1)] := hl
  refine lv_aload_n E.1.1 E.1.2.1 dX12_scholar_0 rfl (lv_at hl 0 rfl) ?_
  refine row_get (v := .int (iv 5)) E B iX12 rfl 6 (by decide) mw_1482 0 rfl rfl dX12_scholar_1 ?_
  refine lv_bipush (v := 24) E.1.1 E.1.2.1 dX12_scholar_4 (by decide) ?_
  refine c_eq (tgt := 23) E h5 tI_24 dX12_scholar_6 (by decide) (fun c_1 => ?_) (fun c_1 => ?_)
  · exfalso; omega
  · skip
    refine lv_iload_n E.1.1 E.1.2.1 dX12_scholar_9 rfl (lv_at hl 1 rfl) ?_
    refine lv_iconst (v := 0) E.1.1 E.1.2.1 dX12_scholar_10 (by decide) ?_
    refine lv_aload_n E.1.1 E.1.2.1 dX12_scholar_11 rfl (lv_at hl 0 rfl) ?_
    refine row_get (v := .int (iv 4)) E B iX12 rfl 5 (by decide) mw_1481 0 rfl rfl dX12_scholar_12 ?_
    refine lv_iconst (v := 1) E.1.1 E.1.2.1 dX12_scholar_15 (by decide) ?_
    refine i_sub E h4 tI_1 (by omega) (by omega) dX12_scholar_16 (fun z_2 ez_2 => ?_)
    have ez_2 : z_2.toInt = -1 := by omega
    refine at_pc (n := 17) rfl ?_
    refine call_SI (kn := 3) E B (m_12_lies l D ct tN ad iv ia R  p0 ((0 : Int32)) z_2 ) (good_S mw_1769 mw_1770 mw_12 mw_1771) (by decide +kernel) rfl rfl rfl ⟨by decide, by decide⟩ rfl hl (Nat.le_of_ble_eq_true rfl) dX12_scholar_17 ⟨Nat.le_of_ble_eq_true rfl, Nat.le_of_ble_eq_true rfl⟩ (fun v_3 u_4 H locs w_5 B => ?_)
    have w_5 : (0 ≤ p0.toInt ∧ p0.toInt ≤ (-1) ∧ v_3.toInt = 1) ∨ ((p0.toInt < 0 ∨ (-1) < p0.toInt) ∧ v_3.toInt = 0) := by have h0 := w_5; have a1 := tI_0; have a2 := ez_2; omega
    have w_6 : v_3.toInt = 0 := by omega
    have B : Hp D A s.heap (MW ct ad iv ia R) H locs := B
    refine at_n (n := 20) (k1 := 0) (k2 := 0) rfl rfl rfl ?_
    refine b_ne (tgt := 25) E w_6 dX12_scholar_20 (by decide) (fun c_7 => ?_) (fun c_7 => ?_)
    · exfalso; omega
    · skip
      refine lv_iconst (v := -1) E.1.1 E.1.2.1 dX12_scholar_23 (by decide) ?_
      have r_8 : (-1 : Int32).toInt = -1 := tI_m1
      exact ret_I (u := _) E hr hlk rfl B (by omega) dX12_scholar_24
set_option maxHeartbeats 4000000 in
set_option maxRecDepth 100000 in
theorem m_12_rules (l : Launch) (D : va_G) (ct : Nat → ClassId) (tN : Nat) (ad : Nat → Nat) (iv : Nat → Int32) (ia : Nat → Nat → Int32) (R : va_W) (p0 : Int32) (p1 : Int32) (p2 : Int32) (p3 : Int32) (h0 : (iv 0).toInt = 0) (h4 : (iv 4).toInt = 0) (h6 : (iv 6).toInt = 0) : MI l D (TY ct) tN yX12_rules cX12_rules 6 (some .int) ({ frames := 2, cells := 0, slots := 0, locals := 43 } : Room) [.ref (ad 0), .int p0, .int p1, .int p2, .int p3] (MW ct ad iv ia R) (fun (v : Int32) (u : va_W) => v.toInt = -1) (fun u => u) 0 0 := by
  intro sz
  refine Met.ofE (Qc := fun A => va_Qi (fun (v : Int32) (u : va_W) => v.toInt = -1) (BW D A (fun u => u)) A) (by decide) (Nat.le_of_ble_eq_true rfl) ?_
  intro p e s m args below meth c A ls hsz E hr hlk hnm B hl
  have hl : lv_has ls 6 [(0, .ref (ad 0)), (1, .int p0), (2, .int p1), (3, .int p2), (4, .int p3)] := hl
  refine lv_aload_n E.1.1 E.1.2.1 dX12_rules_0 rfl (lv_at hl 0 rfl) ?_
  refine row_get (v := .int (iv 6)) E B iX12 rfl 7 (by decide) mw_1483 0 rfl rfl dX12_rules_1 ?_
  refine lv_bipush (v := 20) E.1.1 E.1.2.1 dX12_rules_4 (by decide) ?_
  refine c_eq (tgt := 65) E h6 tI_20 dX12_rules_6 (by decide) (fun c_1 => ?_) (fun c_1 => ?_)
  · exfalso; omega
  · skip
    refine lv_iload_n E.1.1 E.1.2.1 dX12_rules_9 rfl (lv_at hl 1 rfl) ?_
    refine lv_iconst (v := -1) E.1.1 E.1.2.1 dX12_rules_10 (by decide) ?_
    refine lv_aload_n E.1.1 E.1.2.1 dX12_rules_11 rfl (lv_at hl 0 rfl) ?_
    refine row_get (v := .int (iv 4)) E B iX12 rfl 5 (by decide) mw_1481 0 rfl rfl dX12_rules_12 ?_
    refine lv_iconst (v := 1) E.1.1 E.1.2.1 dX12_rules_15 (by decide) ?_
    refine i_sub E h4 tI_1 (by omega) (by omega) dX12_rules_16 (fun z_2 ez_2 => ?_)
    have ez_2 : z_2.toInt = -1 := by omega
    refine at_pc (n := 17) rfl ?_
    refine call_SI (kn := 3) E B (m_12_lies l D ct tN ad iv ia R  p0 ((-1 : Int32)) z_2 ) (good_S mw_1769 mw_1770 mw_12 mw_1771) (by decide +kernel) rfl rfl rfl ⟨by decide, by decide⟩ rfl hl (Nat.le_of_ble_eq_true rfl) dX12_rules_17 ⟨Nat.le_of_ble_eq_true rfl, Nat.le_of_ble_eq_true rfl⟩ (fun v_3 u_4 H locs w_5 B => ?_)
    have w_5 : ((-1) ≤ p0.toInt ∧ p0.toInt ≤ (-1) ∧ v_3.toInt = 1) ∨ ((p0.toInt < (-1) ∨ (-1) < p0.toInt) ∧ v_3.toInt = 0) := by have h0 := w_5; have a1 := tI_m1; have a2 := ez_2; omega
    have B : Hp D A s.heap (MW ct ad iv ia R) H locs := B
    refine at_n (n := 20) (k1 := 0) (k2 := 0) rfl rfl rfl ?_
    refine b_eq (tgt := 65) E rfl dX12_rules_20 (by decide) (fun c_6 => ?_) (fun c_6 => ?_)
    · skip
      refine lv_iconst (v := -1) E.1.1 E.1.2.1 dX12_rules_65 (by decide) ?_
      have r_7 : (-1 : Int32).toInt = -1 := tI_m1
      exact ret_I (u := _) E hr hlk rfl B (by omega) dX12_rules_66
    · skip
      refine lv_aload_n E.1.1 E.1.2.1 dX12_rules_23 rfl (lv_at hl 0 rfl) ?_
      refine lv_iload_n E.1.1 E.1.2.1 dX12_rules_24 rfl (lv_at hl 2 rfl) ?_
      refine call_VI (kn := 1) E B (m_12_isDay l D ct tN ad iv ia R  p1 ) (good_V mw_1847 mw_1849 ms_81 mw_12 mw_1850) 0 rfl rfl ⟨rfl, by decide +kernel⟩ rfl rfl rfl ⟨by decide, by decide⟩ rfl hl (Nat.le_of_ble_eq_true rfl) dX12_rules_25 ⟨Nat.le_of_ble_eq_true rfl, Nat.le_of_ble_eq_true rfl⟩ (fun v_8 u_9 H locs w_10 B => ?_)
      have w_10 : (0 ≤ p1.toInt ∧ p1.toInt ≤ 3999 ∧ v_8.toInt = 1) ∨ ((p1.toInt < 0 ∨ 3999 < p1.toInt) ∧ v_8.toInt = 0) := w_10
      have B : Hp D A s.heap (MW ct ad iv ia R) H locs := B
      refine at_n (n := 28) (k1 := 0) (k2 := 0) rfl rfl rfl ?_
      refine b_eq (tgt := 65) E rfl dX12_rules_28 (by decide) (fun c_11 => ?_) (fun c_11 => ?_)
      · skip
        refine lv_iconst (v := -1) E.1.1 E.1.2.1 dX12_rules_65 (by decide) ?_
        have r_12 : (-1 : Int32).toInt = -1 := tI_m1
        exact ret_I (u := _) E hr hlk rfl B (by omega) dX12_rules_66
      · skip
        refine lv_aload_n E.1.1 E.1.2.1 dX12_rules_31 rfl (lv_at hl 0 rfl) ?_
        refine lv_iload_n E.1.1 E.1.2.1 dX12_rules_32 rfl (lv_at hl 3 rfl) ?_
        refine call_VI (kn := 1) E B (m_12_isDay l D ct tN ad iv ia R  p2 ) (good_V mw_1847 mw_1849 ms_81 mw_12 mw_1850) 0 rfl rfl ⟨rfl, by decide +kernel⟩ rfl rfl rfl ⟨by decide, by decide⟩ rfl hl (Nat.le_of_ble_eq_true rfl) dX12_rules_33 ⟨Nat.le_of_ble_eq_true rfl, Nat.le_of_ble_eq_true rfl⟩ (fun v_13 u_14 H locs w_15 B => ?_)
        have w_15 : (0 ≤ p2.toInt ∧ p2.toInt ≤ 3999 ∧ v_13.toInt = 1) ∨ ((p2.toInt < 0 ∨ 3999 < p2.toInt) ∧ v_13.toInt = 0) := w_15
        have B : Hp D A s.heap (MW ct ad iv ia R) H locs := B
        refine at_n (n := 36) (k1 := 0) (k2 := 0) rfl rfl rfl ?_
        refine b_eq (tgt := 65) E rfl dX12_rules_36 (by decide) (fun c_16 => ?_) (fun c_16 => ?_)
        · skip
          refine lv_iconst (v := -1) E.1.1 E.1.2.1 dX12_rules_65 (by decide) ?_
          have r_17 : (-1 : Int32).toInt = -1 := tI_m1
          exact ret_I (u := _) E hr hlk rfl B (by omega) dX12_rules_66
        · skip
          refine lv_iload_n E.1.1 E.1.2.1 dX12_rules_39 rfl (lv_at hl 3 rfl) ?_
          refine lv_iload_n E.1.1 E.1.2.1 dX12_rules_40 rfl (lv_at hl 2 rfl) ?_
          refine c_lt (tgt := 65) E rfl rfl dX12_rules_41 (by decide) (fun c_18 => ?_) (fun c_18 => ?_)
          · skip
            refine lv_iconst (v := -1) E.1.1 E.1.2.1 dX12_rules_65 (by decide) ?_
            have r_19 : (-1 : Int32).toInt = -1 := tI_m1
            exact ret_I (u := _) E hr hlk rfl B (by omega) dX12_rules_66
          · skip
            refine lv_iload E.1.1 E.1.2.1 dX12_rules_44 (lv_at hl 4 rfl) ?_
            refine lv_iconst (v := 1) E.1.1 E.1.2.1 dX12_rules_46 (by decide) ?_
            refine lv_sipush (v := 160) E.1.1 E.1.2.1 dX12_rules_47 (by decide) ?_
            refine call_SI (kn := 3) E B (m_12_lies l D ct tN ad iv ia R  p3 ((1 : Int32)) ((160 : Int32)) ) (good_S mw_1769 mw_1770 mw_12 mw_1771) (by decide +kernel) rfl rfl rfl ⟨by decide, by decide⟩ rfl hl (Nat.le_of_ble_eq_true rfl) dX12_rules_50 ⟨Nat.le_of_ble_eq_true rfl, Nat.le_of_ble_eq_true rfl⟩ (fun v_20 u_21 H locs w_22 B => ?_)
            have w_22 : (1 ≤ p3.toInt ∧ p3.toInt ≤ 160 ∧ v_20.toInt = 1) ∨ ((p3.toInt < 1 ∨ 160 < p3.toInt) ∧ v_20.toInt = 0) := by have h0 := w_22; have a1 := tI_1; have a2 := tI_160; omega
            have B : Hp D A s.heap (MW ct ad iv ia R) H locs := B
            refine at_n (n := 53) (k1 := 0) (k2 := 0) rfl rfl rfl ?_
            refine b_eq (tgt := 65) E rfl dX12_rules_53 (by decide) (fun c_23 => ?_) (fun c_23 => ?_)
            · skip
              refine lv_iconst (v := -1) E.1.1 E.1.2.1 dX12_rules_65 (by decide) ?_
              have r_24 : (-1 : Int32).toInt = -1 := tI_m1
              exact ret_I (u := _) E hr hlk rfl B (by omega) dX12_rules_66
            · skip
              refine lv_iload E.1.1 E.1.2.1 dX12_rules_56 (lv_at hl 4 rfl) ?_
              refine lv_aload_n E.1.1 E.1.2.1 dX12_rules_58 rfl (lv_at hl 0 rfl) ?_
              refine row_get (v := .int (iv 0)) E B iX12 rfl 1 (by decide) mw_1477 0 rfl rfl dX12_rules_59 ?_
              refine c_le (tgt := 67) E rfl h0 dX12_rules_62 (by decide) (fun c_25 => ?_) (fun c_25 => ?_)
              · exfalso; omega
              · skip
                refine lv_iconst (v := -1) E.1.1 E.1.2.1 dX12_rules_65 (by decide) ?_
                have r_26 : (-1 : Int32).toInt = -1 := tI_m1
                exact ret_I (u := _) E hr hlk rfl B (by omega) dX12_rules_66
set_option maxHeartbeats 4000000 in
set_option maxRecDepth 100000 in
theorem m_12_holds (l : Launch) (D : va_G) (ct : Nat → ClassId) (tN : Nat) (ad : Nat → Nat) (iv : Nat → Int32) (ia : Nat → Nat → Int32) (R : va_W) (p0 : Int32) (p1 : Int32) (p2 : Int32) (p3 : Int32) (h6 : (iv 6).toInt = 0) : MI l D (TY ct) tN yX12_holds cX12_holds 5 (some .int) ({ frames := 1, cells := 0, slots := 0, locals := 22 } : Room) [.ref (ad 0), .int p0, .int p1, .int p2, .int p3] (MW ct ad iv ia R) (fun (v : Int32) (u : va_W) => v.toInt = -1) (fun u => u) 0 0 := by
  intro sz
  refine Met.ofE (Qc := fun A => va_Qi (fun (v : Int32) (u : va_W) => v.toInt = -1) (BW D A (fun u => u)) A) (by decide) (Nat.le_of_ble_eq_true rfl) ?_
  intro p e s m args below meth c A ls hsz E hr hlk hnm B hl
  have hl : lv_has ls 5 [(0, .ref (ad 0)), (1, .int p0), (2, .int p1), (3, .int p2), (4, .int p3)] := hl
  refine lv_iload_n E.1.1 E.1.2.1 dX12_holds_0 rfl (lv_at hl 1 rfl) ?_
  refine lv_iconst (v := 0) E.1.1 E.1.2.1 dX12_holds_1 (by decide) ?_
  refine lv_aload_n E.1.1 E.1.2.1 dX12_holds_2 rfl (lv_at hl 0 rfl) ?_
  refine row_get (v := .int (iv 6)) E B iX12 rfl 7 (by decide) mw_1483 0 rfl rfl dX12_holds_3 ?_
  refine lv_iconst (v := 1) E.1.1 E.1.2.1 dX12_holds_6 (by decide) ?_
  refine i_sub E h6 tI_1 (by omega) (by omega) dX12_holds_7 (fun z_1 ez_1 => ?_)
  have ez_1 : z_1.toInt = -1 := by omega
  refine at_pc (n := 8) rfl ?_
  refine call_SI (kn := 3) E B (m_12_lies l D ct tN ad iv ia R  p0 ((0 : Int32)) z_1 ) (good_S mw_1769 mw_1770 mw_12 mw_1771) (by decide +kernel) rfl rfl rfl ⟨by decide, by decide⟩ rfl hl (Nat.le_of_ble_eq_true rfl) dX12_holds_8 ⟨Nat.le_of_ble_eq_true rfl, Nat.le_of_ble_eq_true rfl⟩ (fun v_2 u_3 H locs w_4 B => ?_)
  have w_4 : (0 ≤ p0.toInt ∧ p0.toInt ≤ (-1) ∧ v_2.toInt = 1) ∨ ((p0.toInt < 0 ∨ (-1) < p0.toInt) ∧ v_2.toInt = 0) := by have h0 := w_4; have a1 := tI_0; have a2 := ez_1; omega
  have w_5 : v_2.toInt = 0 := by omega
  have B : Hp D A s.heap (MW ct ad iv ia R) H locs := B
  refine at_n (n := 11) (k1 := 0) (k2 := 0) rfl rfl rfl ?_
  refine b_eq (tgt := 63) E w_5 dX12_holds_11 (by decide) (fun c_6 => ?_) (fun c_6 => ?_)
  · skip
    refine lv_iconst (v := -1) E.1.1 E.1.2.1 dX12_holds_63 (by decide) ?_
    have r_7 : (-1 : Int32).toInt = -1 := tI_m1
    exact ret_I (u := _) E hr hlk rfl B (by omega) dX12_holds_64
  · exfalso; omega
set_option maxHeartbeats 4000000 in
set_option maxRecDepth 100000 in
theorem m_12_asks (l : Launch) (D : va_G) (ct : Nat → ClassId) (tN : Nat) (ad : Nat → Nat) (iv : Nat → Int32) (ia : Nat → Nat → Int32) (R : va_W) (p0 : Int32) (p1 : Int32) (p2 : Int32) (h2 : (iv 2).toInt = 0) : MI l D (TY ct) tN yX12_asks cX12_asks 4 (some .int) ({ frames := 2, cells := 0, slots := 0, locals := 43 } : Room) [.ref (ad 0), .int p0, .int p1, .int p2] (MW ct ad iv ia R) (fun (v : Int32) (u : va_W) => v.toInt = -1) (fun u => u) 0 0 := by
  intro sz
  refine Met.ofE (Qc := fun A => va_Qi (fun (v : Int32) (u : va_W) => v.toInt = -1) (BW D A (fun u => u)) A) (by decide) (Nat.le_of_ble_eq_true rfl) ?_
  intro p e s m args below meth c A ls hsz E hr hlk hnm B hl
  have hl : lv_has ls 4 [(0, .ref (ad 0)), (1, .int p0), (2, .int p1), (3, .int p2)] := hl
  refine lv_aload_n E.1.1 E.1.2.1 dX12_asks_0 rfl (lv_at hl 0 rfl) ?_
  refine lv_iload_n E.1.1 E.1.2.1 dX12_asks_1 rfl (lv_at hl 1 rfl) ?_
  refine call_VI (kn := 1) E B (m_12_isVerse l D ct tN ad iv ia R  p0 h2) (good_V mw_1788 mw_1790 ms_75 mw_12 mw_1791) 0 rfl rfl ⟨rfl, by decide +kernel⟩ rfl rfl rfl ⟨by decide, by decide⟩ rfl hl (Nat.le_of_ble_eq_true rfl) dX12_asks_2 ⟨Nat.le_of_ble_eq_true rfl, Nat.le_of_ble_eq_true rfl⟩ (fun v_1 u_2 H locs w_3 B => ?_)
  have w_3 : v_1.toInt = 0 := w_3
  have B : Hp D A s.heap (MW ct ad iv ia R) H locs := B
  refine at_n (n := 5) (k1 := 0) (k2 := 0) rfl rfl rfl ?_
  refine b_eq (tgt := 16) E w_3 dX12_asks_5 (by decide) (fun c_4 => ?_) (fun c_4 => ?_)
  · skip
    refine lv_iconst (v := -1) E.1.1 E.1.2.1 dX12_asks_16 (by decide) ?_
    have r_5 : (-1 : Int32).toInt = -1 := tI_m1
    exact ret_I (u := _) E hr hlk rfl B (by omega) dX12_asks_17
  · exfalso; omega
set_option maxHeartbeats 4000000 in
set_option maxRecDepth 100000 in
theorem m_12_token (l : Launch) (D : va_G) (ct : Nat → ClassId) (tN : Nat) (ad : Nat → Nat) (iv : Nat → Int32) (ia : Nat → Nat → Int32) (R : va_W) (p0 : Int32) (p1 : Int32) (p2 : Int32) (h2 : (iv 2).toInt = 0) : MI l D (TY ct) tN yX12_token cX12_token 4 (some .int) ({ frames := 2, cells := 0, slots := 0, locals := 43 } : Room) [.ref (ad 0), .int p0, .int p1, .int p2] (MW ct ad iv ia R) (fun (v : Int32) (u : va_W) => v.toInt = -1) (fun u => u) 0 0 := by
  intro sz
  refine Met.ofE (Qc := fun A => va_Qi (fun (v : Int32) (u : va_W) => v.toInt = -1) (BW D A (fun u => u)) A) (by decide) (Nat.le_of_ble_eq_true rfl) ?_
  intro p e s m args below meth c A ls hsz E hr hlk hnm B hl
  have hl : lv_has ls 4 [(0, .ref (ad 0)), (1, .int p0), (2, .int p1), (3, .int p2)] := hl
  refine lv_aload_n E.1.1 E.1.2.1 dX12_token_0 rfl (lv_at hl 0 rfl) ?_
  refine lv_iload_n E.1.1 E.1.2.1 dX12_token_1 rfl (lv_at hl 1 rfl) ?_
  refine call_VI (kn := 1) E B (m_12_isVerse l D ct tN ad iv ia R  p0 h2) (good_V mw_1788 mw_1790 ms_75 mw_12 mw_1791) 0 rfl rfl ⟨rfl, by decide +kernel⟩ rfl rfl rfl ⟨by decide, by decide⟩ rfl hl (Nat.le_of_ble_eq_true rfl) dX12_token_2 ⟨Nat.le_of_ble_eq_true rfl, Nat.le_of_ble_eq_true rfl⟩ (fun v_1 u_2 H locs w_3 B => ?_)
  have w_3 : v_1.toInt = 0 := w_3
  have B : Hp D A s.heap (MW ct ad iv ia R) H locs := B
  refine at_n (n := 5) (k1 := 0) (k2 := 0) rfl rfl rfl ?_
  refine b_eq (tgt := 55) E w_3 dX12_token_5 (by decide) (fun c_4 => ?_) (fun c_4 => ?_)
  · skip
    refine lv_iconst (v := -1) E.1.1 E.1.2.1 dX12_token_55 (by decide) ?_
    have r_5 : (-1 : Int32).toInt = -1 := tI_m1
    exact ret_I (u := _) E hr hlk rfl B (by omega) dX12_token_56
  · exfalso; omega
set_option maxHeartbeats 4000000 in
set_option maxRecDepth 100000 in
theorem m_12_differ (l : Launch) (D : va_G) (ct : Nat → ClassId) (tN : Nat) (ad : Nat → Nat) (iv : Nat → Int32) (ia : Nat → Nat → Int32) (R : va_W) (p0 : Int32) (p1 : Int32) (p2 : Int32) (h2 : (iv 2).toInt = 0) : MI l D (TY ct) tN yX12_differ cX12_differ 7 (some .int) ({ frames := 2, cells := 0, slots := 0, locals := 43 } : Room) [.ref (ad 0), .int p0, .int p1, .int p2] (MW ct ad iv ia R) (fun (v : Int32) (u : va_W) => v.toInt = -1) (fun u => u) 0 0 := by
  intro sz
  refine Met.ofE (Qc := fun A => va_Qi (fun (v : Int32) (u : va_W) => v.toInt = -1) (BW D A (fun u => u)) A) (by decide) (Nat.le_of_ble_eq_true rfl) ?_
  intro p e s m args below meth c A ls hsz E hr hlk hnm B hl
  have hl : lv_has ls 7 [(0, .ref (ad 0)), (1, .int p0), (2, .int p1), (3, .int p2)] := hl
  refine lv_aload_n E.1.1 E.1.2.1 dX12_differ_0 rfl (lv_at hl 0 rfl) ?_
  refine lv_iload_n E.1.1 E.1.2.1 dX12_differ_1 rfl (lv_at hl 1 rfl) ?_
  refine call_VI (kn := 1) E B (m_12_isVerse l D ct tN ad iv ia R  p0 h2) (good_V mw_1788 mw_1790 ms_75 mw_12 mw_1791) 0 rfl rfl ⟨rfl, by decide +kernel⟩ rfl rfl rfl ⟨by decide, by decide⟩ rfl hl (Nat.le_of_ble_eq_true rfl) dX12_differ_2 ⟨Nat.le_of_ble_eq_true rfl, Nat.le_of_ble_eq_true rfl⟩ (fun v_1 u_2 H locs w_3 B => ?_)
  have w_3 : v_1.toInt = 0 := w_3
  have B : Hp D A s.heap (MW ct ad iv ia R) H locs := B
  refine at_n (n := 5) (k1 := 0) (k2 := 0) rfl rfl rfl ?_
  refine b_eq (tgt := 26) E w_3 dX12_differ_5 (by decide) (fun c_4 => ?_) (fun c_4 => ?_)
  · skip
    refine lv_iconst (v := -1) E.1.1 E.1.2.1 dX12_differ_26 (by decide) ?_
    have r_5 : (-1 : Int32).toInt = -1 := tI_m1
    exact ret_I (u := _) E hr hlk rfl B (by omega) dX12_differ_27
  · exfalso; omega
set_option maxHeartbeats 4000000 in
set_option maxRecDepth 100000 in
theorem m_12_render (l : Launch) (D : va_G) (ct : Nat → ClassId) (tN : Nat) (ad : Nat → Nat) (iv : Nat → Int32) (ia : Nat → Nat → Int32) (R : va_W) (p0 : Int32) (p1 : Int32) (p2 : Int32) (h5 : (iv 5).toInt = 0) (h7 : (iv 7).toInt = 0) : MI l D (TY ct) tN yX12_render cX12_render 8 (some .int) ({ frames := 1, cells := 0, slots := 0, locals := 22 } : Room) [.ref (ad 0), .int p0, .int p1, .int p2] (MW ct ad iv ia R) (fun (v : Int32) (u : va_W) => v.toInt = -1) (fun u => u) 0 0 := by
  intro sz
  refine Met.ofE (Qc := fun A => va_Qi (fun (v : Int32) (u : va_W) => v.toInt = -1) (BW D A (fun u => u)) A) (by decide) (Nat.le_of_ble_eq_true rfl) ?_
  intro p e s m args below meth c A ls hsz E hr hlk hnm B hl
  have hl : lv_has ls 8 [(0, .ref (ad 0)), (1, .int p0), (2, .int p1), (3, .int p2)] := hl
  refine lv_aload_n E.1.1 E.1.2.1 dX12_render_0 rfl (lv_at hl 0 rfl) ?_
  refine row_get (v := .int (iv 7)) E B iX12 rfl 8 (by decide) mw_1484 0 rfl rfl dX12_render_1 ?_
  refine lv_sipush (v := 200) E.1.1 E.1.2.1 dX12_render_4 (by decide) ?_
  refine c_eq (tgt := 61) E h7 tI_200 dX12_render_7 (by decide) (fun c_1 => ?_) (fun c_1 => ?_)
  · exfalso; omega
  · skip
    refine lv_iload_n E.1.1 E.1.2.1 dX12_render_10 rfl (lv_at hl 1 rfl) ?_
    refine lv_iconst (v := 0) E.1.1 E.1.2.1 dX12_render_11 (by decide) ?_
    refine lv_aload_n E.1.1 E.1.2.1 dX12_render_12 rfl (lv_at hl 0 rfl) ?_
    refine row_get (v := .int (iv 5)) E B iX12 rfl 6 (by decide) mw_1482 0 rfl rfl dX12_render_13 ?_
    refine lv_iconst (v := 1) E.1.1 E.1.2.1 dX12_render_16 (by decide) ?_
    refine i_sub E h5 tI_1 (by omega) (by omega) dX12_render_17 (fun z_2 ez_2 => ?_)
    have ez_2 : z_2.toInt = -1 := by omega
    refine at_pc (n := 18) rfl ?_
    refine call_SI (kn := 3) E B (m_12_lies l D ct tN ad iv ia R  p0 ((0 : Int32)) z_2 ) (good_S mw_1769 mw_1770 mw_12 mw_1771) (by decide +kernel) rfl rfl rfl ⟨by decide, by decide⟩ rfl hl (Nat.le_of_ble_eq_true rfl) dX12_render_18 ⟨Nat.le_of_ble_eq_true rfl, Nat.le_of_ble_eq_true rfl⟩ (fun v_3 u_4 H locs w_5 B => ?_)
    have w_5 : (0 ≤ p0.toInt ∧ p0.toInt ≤ (-1) ∧ v_3.toInt = 1) ∨ ((p0.toInt < 0 ∨ (-1) < p0.toInt) ∧ v_3.toInt = 0) := by have h0 := w_5; have a1 := tI_0; have a2 := ez_2; omega
    have w_6 : v_3.toInt = 0 := by omega
    have B : Hp D A s.heap (MW ct ad iv ia R) H locs := B
    refine at_n (n := 21) (k1 := 0) (k2 := 0) rfl rfl rfl ?_
    refine b_eq (tgt := 61) E w_6 dX12_render_21 (by decide) (fun c_7 => ?_) (fun c_7 => ?_)
    · skip
      refine lv_iconst (v := -1) E.1.1 E.1.2.1 dX12_render_61 (by decide) ?_
      have r_8 : (-1 : Int32).toInt = -1 := tI_m1
      exact ret_I (u := _) E hr hlk rfl B (by omega) dX12_render_62
    · exfalso; omega
set_option maxHeartbeats 4000000 in
set_option maxRecDepth 100000 in
theorem m_12_vote (l : Launch) (D : va_G) (ct : Nat → ClassId) (tN : Nat) (ad : Nat → Nat) (iv : Nat → Int32) (ia : Nat → Nat → Int32) (R : va_W) (p0 : Int32) (p1 : Int32) (p2 : Int32) (h5 : (iv 5).toInt = 0) : MI l D (TY ct) tN yX12_vote cX12_vote 5 (some .boolean) ({ frames := 1, cells := 0, slots := 0, locals := 22 } : Room) [.ref (ad 0), .int p0, .int p1, .int p2] (MW ct ad iv ia R) (fun (v : Int32) (u : va_W) => v.toInt = 0) (fun u => u) 0 0 := by
  intro sz
  refine Met.ofE (Qc := fun A => va_Qi (fun (v : Int32) (u : va_W) => v.toInt = 0) (BW D A (fun u => u)) A) (by decide) (Nat.le_of_ble_eq_true rfl) ?_
  intro p e s m args below meth c A ls hsz E hr hlk hnm B hl
  have hl : lv_has ls 5 [(0, .ref (ad 0)), (1, .int p0), (2, .int p1), (3, .int p2)] := hl
  refine lv_iload_n E.1.1 E.1.2.1 dX12_vote_0 rfl (lv_at hl 1 rfl) ?_
  refine lv_iconst (v := 0) E.1.1 E.1.2.1 dX12_vote_1 (by decide) ?_
  refine lv_aload_n E.1.1 E.1.2.1 dX12_vote_2 rfl (lv_at hl 0 rfl) ?_
  refine row_get (v := .int (iv 5)) E B iX12 rfl 6 (by decide) mw_1482 0 rfl rfl dX12_vote_3 ?_
  refine lv_iconst (v := 1) E.1.1 E.1.2.1 dX12_vote_6 (by decide) ?_
  refine i_sub E h5 tI_1 (by omega) (by omega) dX12_vote_7 (fun z_1 ez_1 => ?_)
  have ez_1 : z_1.toInt = -1 := by omega
  refine at_pc (n := 8) rfl ?_
  refine call_SI (kn := 3) E B (m_12_lies l D ct tN ad iv ia R  p0 ((0 : Int32)) z_1 ) (good_S mw_1769 mw_1770 mw_12 mw_1771) (by decide +kernel) rfl rfl rfl ⟨by decide, by decide⟩ rfl hl (Nat.le_of_ble_eq_true rfl) dX12_vote_8 ⟨Nat.le_of_ble_eq_true rfl, Nat.le_of_ble_eq_true rfl⟩ (fun v_2 u_3 H locs w_4 B => ?_)
  have w_4 : (0 ≤ p0.toInt ∧ p0.toInt ≤ (-1) ∧ v_2.toInt = 1) ∨ ((p0.toInt < 0 ∨ (-1) < p0.toInt) ∧ v_2.toInt = 0) := by have h0 := w_4; have a1 := tI_0; have a2 := ez_1; omega
  have w_5 : v_2.toInt = 0 := by omega
  have B : Hp D A s.heap (MW ct ad iv ia R) H locs := B
  refine at_n (n := 11) (k1 := 0) (k2 := 0) rfl rfl rfl ?_
  refine b_eq (tgt := 42) E w_5 dX12_vote_11 (by decide) (fun c_6 => ?_) (fun c_6 => ?_)
  · skip
    refine lv_iconst (v := 0) E.1.1 E.1.2.1 dX12_vote_42 (by decide) ?_
    have r_7 : (0 : Int32).toInt = 0 := tI_0
    exact ret_I (u := _) E hr hlk (narrow_z (by omega)) B (by omega) dX12_vote_43
  · exfalso; omega
set_option maxHeartbeats 4000000 in
set_option maxRecDepth 100000 in
theorem m_12_close (l : Launch) (D : va_G) (ct : Nat → ClassId) (tN : Nat) (ad : Nat → Nat) (iv : Nat → Int32) (ia : Nat → Nat → Int32) (R : va_W) (p0 : Int32) (h7 : (iv 7).toInt = 0) : MI l D (TY ct) tN yX12_close cX12_close 11 (some .int) ({ frames := 3, cells := 0, slots := 0, locals := 64 } : Room) [.ref (ad 0), .int p0] (MW ct ad iv ia R) (fun (v : Int32) (u : va_W) => v.toInt = -1) (fun u => u) 0 0 := by
  intro sz
  refine Met.ofE (Qc := fun A => va_Qi (fun (v : Int32) (u : va_W) => v.toInt = -1) (BW D A (fun u => u)) A) (by decide) (Nat.le_of_ble_eq_true rfl) ?_
  intro p e s m args below meth c A ls hsz E hr hlk hnm B hl
  have hl : lv_has ls 11 [(0, .ref (ad 0)), (1, .int p0)] := hl
  refine lv_aload_n E.1.1 E.1.2.1 dX12_close_0 rfl (lv_at hl 0 rfl) ?_
  refine lv_iload_n E.1.1 E.1.2.1 dX12_close_1 rfl (lv_at hl 1 rfl) ?_
  refine call_VI (kn := 1) E B (m_12_isOpen l D ct tN ad iv ia R  p0 h7) (good_V mw_2018 mw_2020 ms_114 mw_12 mw_2021) 0 rfl rfl ⟨rfl, by decide +kernel⟩ rfl rfl rfl ⟨by decide, by decide⟩ rfl hl (Nat.le_of_ble_eq_true rfl) dX12_close_2 ⟨Nat.le_of_ble_eq_true rfl, Nat.le_of_ble_eq_true rfl⟩ (fun v_1 u_2 H locs w_3 B => ?_)
  have w_3 : v_1.toInt = 0 := w_3
  have B : Hp D A s.heap (MW ct ad iv ia R) H locs := B
  refine at_n (n := 5) (k1 := 0) (k2 := 0) rfl rfl rfl ?_
  refine b_ne (tgt := 10) E w_3 dX12_close_5 (by decide) (fun c_4 => ?_) (fun c_4 => ?_)
  · exfalso; omega
  · skip
    refine lv_iconst (v := -1) E.1.1 E.1.2.1 dX12_close_8 (by decide) ?_
    have r_5 : (-1 : Int32).toInt = -1 := tI_m1
    exact ret_I (u := _) E hr hlk rfl B (by omega) dX12_close_9
set_option maxHeartbeats 4000000 in
set_option maxRecDepth 100000 in
theorem m_12_voids (l : Launch) (D : va_G) (ct : Nat → ClassId) (tN : Nat) (ad : Nat → Nat) (iv : Nat → Int32) (ia : Nat → Nat → Int32) (R : va_W) (p0 : Int32) (h5 : (iv 5).toInt = 0) : MI l D (TY ct) tN yX12_voids cX12_voids 4 (some .int) ({ frames := 1, cells := 0, slots := 0, locals := 22 } : Room) [.ref (ad 0), .int p0] (MW ct ad iv ia R) (fun (v : Int32) (u : va_W) => v.toInt = -1) (fun u => u) 0 0 := by
  intro sz
  refine Met.ofE (Qc := fun A => va_Qi (fun (v : Int32) (u : va_W) => v.toInt = -1) (BW D A (fun u => u)) A) (by decide) (Nat.le_of_ble_eq_true rfl) ?_
  intro p e s m args below meth c A ls hsz E hr hlk hnm B hl
  have hl : lv_has ls 4 [(0, .ref (ad 0)), (1, .int p0)] := hl
  refine lv_iload_n E.1.1 E.1.2.1 dX12_voids_0 rfl (lv_at hl 1 rfl) ?_
  refine lv_iconst (v := 0) E.1.1 E.1.2.1 dX12_voids_1 (by decide) ?_
  refine lv_aload_n E.1.1 E.1.2.1 dX12_voids_2 rfl (lv_at hl 0 rfl) ?_
  refine row_get (v := .int (iv 5)) E B iX12 rfl 6 (by decide) mw_1482 0 rfl rfl dX12_voids_3 ?_
  refine lv_iconst (v := 1) E.1.1 E.1.2.1 dX12_voids_6 (by decide) ?_
  refine i_sub E h5 tI_1 (by omega) (by omega) dX12_voids_7 (fun z_1 ez_1 => ?_)
  have ez_1 : z_1.toInt = -1 := by omega
  refine at_pc (n := 8) rfl ?_
  refine call_SI (kn := 3) E B (m_12_lies l D ct tN ad iv ia R  p0 ((0 : Int32)) z_1 ) (good_S mw_1769 mw_1770 mw_12 mw_1771) (by decide +kernel) rfl rfl rfl ⟨by decide, by decide⟩ rfl hl (Nat.le_of_ble_eq_true rfl) dX12_voids_8 ⟨Nat.le_of_ble_eq_true rfl, Nat.le_of_ble_eq_true rfl⟩ (fun v_2 u_3 H locs w_4 B => ?_)
  have w_4 : (0 ≤ p0.toInt ∧ p0.toInt ≤ (-1) ∧ v_2.toInt = 1) ∨ ((p0.toInt < 0 ∨ (-1) < p0.toInt) ∧ v_2.toInt = 0) := by have h0 := w_4; have a1 := tI_0; have a2 := ez_1; omega
  have w_5 : v_2.toInt = 0 := by omega
  have B : Hp D A s.heap (MW ct ad iv ia R) H locs := B
  refine at_n (n := 11) (k1 := 0) (k2 := 0) rfl rfl rfl ?_
  refine b_eq (tgt := 23) E w_5 dX12_voids_11 (by decide) (fun c_6 => ?_) (fun c_6 => ?_)
  · skip
    refine lv_iconst (v := -1) E.1.1 E.1.2.1 dX12_voids_23 (by decide) ?_
    have r_7 : (-1 : Int32).toInt = -1 := tI_m1
    exact ret_I (u := _) E hr hlk rfl B (by omega) dX12_voids_24
  · exfalso; omega
set_option maxHeartbeats 4000000 in
set_option maxRecDepth 100000 in
theorem m_12_fixed (l : Launch) (D : va_G) (ct : Nat → ClassId) (tN : Nat) (ad : Nat → Nat) (iv : Nat → Int32) (ia : Nat → Nat → Int32) (R : va_W) (p0 : Int32) (h2 : (iv 2).toInt = 0) : MI l D (TY ct) tN yX12_fixed cX12_fixed 2 (some .int) ({ frames := 2, cells := 0, slots := 0, locals := 43 } : Room) [.ref (ad 0), .int p0] (MW ct ad iv ia R) (fun (v : Int32) (u : va_W) => v.toInt = -1) (fun u => u) 0 0 := by
  intro sz
  refine Met.ofE (Qc := fun A => va_Qi (fun (v : Int32) (u : va_W) => v.toInt = -1) (BW D A (fun u => u)) A) (by decide) (Nat.le_of_ble_eq_true rfl) ?_
  intro p e s m args below meth c A ls hsz E hr hlk hnm B hl
  have hl : lv_has ls 2 [(0, .ref (ad 0)), (1, .int p0)] := hl
  refine lv_aload_n E.1.1 E.1.2.1 dX12_fixed_0 rfl (lv_at hl 0 rfl) ?_
  refine lv_iload_n E.1.1 E.1.2.1 dX12_fixed_1 rfl (lv_at hl 1 rfl) ?_
  refine call_VI (kn := 1) E B (m_12_isVerse l D ct tN ad iv ia R  p0 h2) (good_V mw_1788 mw_1790 ms_75 mw_12 mw_1791) 0 rfl rfl ⟨rfl, by decide +kernel⟩ rfl rfl rfl ⟨by decide, by decide⟩ rfl hl (Nat.le_of_ble_eq_true rfl) dX12_fixed_2 ⟨Nat.le_of_ble_eq_true rfl, Nat.le_of_ble_eq_true rfl⟩ (fun v_1 u_2 H locs w_3 B => ?_)
  have w_3 : v_1.toInt = 0 := w_3
  have B : Hp D A s.heap (MW ct ad iv ia R) H locs := B
  refine at_n (n := 5) (k1 := 0) (k2 := 0) rfl rfl rfl ?_
  refine b_eq (tgt := 16) E w_3 dX12_fixed_5 (by decide) (fun c_4 => ?_) (fun c_4 => ?_)
  · skip
    refine lv_iconst (v := -1) E.1.1 E.1.2.1 dX12_fixed_16 (by decide) ?_
    have r_5 : (-1 : Int32).toInt = -1 := tI_m1
    exact ret_I (u := _) E hr hlk rfl B (by omega) dX12_fixed_17
  · exfalso; omega
set_option maxHeartbeats 4000000 in
set_option maxRecDepth 100000 in
theorem m_12_fixedOn (l : Launch) (D : va_G) (ct : Nat → ClassId) (tN : Nat) (ad : Nat → Nat) (iv : Nat → Int32) (ia : Nat → Nat → Int32) (R : va_W) (p0 : Int32) (p1 : Int32) (h2 : (iv 2).toInt = 0) : MI l D (TY ct) tN yX12_fixedOn cX12_fixedOn 3 (some .int) ({ frames := 2, cells := 0, slots := 0, locals := 43 } : Room) [.ref (ad 0), .int p0, .int p1] (MW ct ad iv ia R) (fun (v : Int32) (u : va_W) => v.toInt = -1) (fun u => u) 0 0 := by
  intro sz
  refine Met.ofE (Qc := fun A => va_Qi (fun (v : Int32) (u : va_W) => v.toInt = -1) (BW D A (fun u => u)) A) (by decide) (Nat.le_of_ble_eq_true rfl) ?_
  intro p e s m args below meth c A ls hsz E hr hlk hnm B hl
  have hl : lv_has ls 3 [(0, .ref (ad 0)), (1, .int p0), (2, .int p1)] := hl
  refine lv_aload_n E.1.1 E.1.2.1 dX12_fixedOn_0 rfl (lv_at hl 0 rfl) ?_
  refine lv_iload_n E.1.1 E.1.2.1 dX12_fixedOn_1 rfl (lv_at hl 1 rfl) ?_
  refine call_VI (kn := 1) E B (m_12_isVerse l D ct tN ad iv ia R  p0 h2) (good_V mw_1788 mw_1790 ms_75 mw_12 mw_1791) 0 rfl rfl ⟨rfl, by decide +kernel⟩ rfl rfl rfl ⟨by decide, by decide⟩ rfl hl (Nat.le_of_ble_eq_true rfl) dX12_fixedOn_2 ⟨Nat.le_of_ble_eq_true rfl, Nat.le_of_ble_eq_true rfl⟩ (fun v_1 u_2 H locs w_3 B => ?_)
  have w_3 : v_1.toInt = 0 := w_3
  have B : Hp D A s.heap (MW ct ad iv ia R) H locs := B
  refine at_n (n := 5) (k1 := 0) (k2 := 0) rfl rfl rfl ?_
  refine b_eq (tgt := 29) E w_3 dX12_fixedOn_5 (by decide) (fun c_4 => ?_) (fun c_4 => ?_)
  · skip
    refine lv_iconst (v := -1) E.1.1 E.1.2.1 dX12_fixedOn_29 (by decide) ?_
    have r_5 : (-1 : Int32).toInt = -1 := tI_m1
    exact ret_I (u := _) E hr hlk rfl B (by omega) dX12_fixedOn_30
  · exfalso; omega
set_option maxHeartbeats 4000000 in
set_option maxRecDepth 100000 in
theorem m_12_breaches (l : Launch) (D : va_G) (ct : Nat → ClassId) (tN : Nat) (ad : Nat → Nat) (iv : Nat → Int32) (ia : Nat → Nat → Int32) (R : va_W) (p0 : Int32) (h7 : (iv 7).toInt = 0) : MI l D (TY ct) tN yX12_breaches cX12_breaches 2 (some .int) ({ frames := 2, cells := 0, slots := 0, locals := 43 } : Room) [.ref (ad 0), .int p0] (MW ct ad iv ia R) (fun (v : Int32) (u : va_W) => v.toInt = -1) (fun u => u) 0 0 := by
  intro sz
  refine Met.ofE (Qc := fun A => va_Qi (fun (v : Int32) (u : va_W) => v.toInt = -1) (BW D A (fun u => u)) A) (by decide) (Nat.le_of_ble_eq_true rfl) ?_
  intro p e s m args below meth c A ls hsz E hr hlk hnm B hl
  have hl : lv_has ls 2 [(0, .ref (ad 0)), (1, .int p0)] := hl
  refine lv_aload_n E.1.1 E.1.2.1 dX12_breaches_0 rfl (lv_at hl 0 rfl) ?_
  refine lv_iload_n E.1.1 E.1.2.1 dX12_breaches_1 rfl (lv_at hl 1 rfl) ?_
  refine call_VI (kn := 1) E B (m_12_isRendering l D ct tN ad iv ia R  p0 h7) (good_V mw_2022 mw_2024 ms_115 mw_12 mw_2025) 0 rfl rfl ⟨rfl, by decide +kernel⟩ rfl rfl rfl ⟨by decide, by decide⟩ rfl hl (Nat.le_of_ble_eq_true rfl) dX12_breaches_2 ⟨Nat.le_of_ble_eq_true rfl, Nat.le_of_ble_eq_true rfl⟩ (fun v_1 u_2 H locs w_3 B => ?_)
  have w_3 : v_1.toInt = 0 := w_3
  have B : Hp D A s.heap (MW ct ad iv ia R) H locs := B
  refine at_n (n := 5) (k1 := 0) (k2 := 0) rfl rfl rfl ?_
  refine b_eq (tgt := 17) E w_3 dX12_breaches_5 (by decide) (fun c_4 => ?_) (fun c_4 => ?_)
  · skip
    refine lv_iconst (v := -1) E.1.1 E.1.2.1 dX12_breaches_17 (by decide) ?_
    have r_5 : (-1 : Int32).toInt = -1 := tI_m1
    exact ret_I (u := _) E hr hlk rfl B (by omega) dX12_breaches_18
  · exfalso; omega
set_option maxHeartbeats 4000000 in
set_option maxRecDepth 100000 in
theorem m_12_breach (l : Launch) (D : va_G) (ct : Nat → ClassId) (tN : Nat) (ad : Nat → Nat) (iv : Nat → Int32) (ia : Nat → Nat → Int32) (R : va_W) (p0 : Int32) (p1 : Int32) (p2 : Int32) (h7 : (iv 7).toInt = 0) : MI l D (TY ct) tN yX12_breach cX12_breach 4 (some .int) ({ frames := 2, cells := 0, slots := 0, locals := 43 } : Room) [.ref (ad 0), .int p0, .int p1, .int p2] (MW ct ad iv ia R) (fun (v : Int32) (u : va_W) => v.toInt = -1) (fun u => u) 0 0 := by
  intro sz
  refine Met.ofE (Qc := fun A => va_Qi (fun (v : Int32) (u : va_W) => v.toInt = -1) (BW D A (fun u => u)) A) (by decide) (Nat.le_of_ble_eq_true rfl) ?_
  intro p e s m args below meth c A ls hsz E hr hlk hnm B hl
  have hl : lv_has ls 4 [(0, .ref (ad 0)), (1, .int p0), (2, .int p1), (3, .int p2)] := hl
  refine lv_aload_n E.1.1 E.1.2.1 dX12_breach_0 rfl (lv_at hl 0 rfl) ?_
  refine lv_iload_n E.1.1 E.1.2.1 dX12_breach_1 rfl (lv_at hl 1 rfl) ?_
  refine call_VI (kn := 1) E B (m_12_isRendering l D ct tN ad iv ia R  p0 h7) (good_V mw_2022 mw_2024 ms_115 mw_12 mw_2025) 0 rfl rfl ⟨rfl, by decide +kernel⟩ rfl rfl rfl ⟨by decide, by decide⟩ rfl hl (Nat.le_of_ble_eq_true rfl) dX12_breach_2 ⟨Nat.le_of_ble_eq_true rfl, Nat.le_of_ble_eq_true rfl⟩ (fun v_1 u_2 H locs w_3 B => ?_)
  have w_3 : v_1.toInt = 0 := w_3
  have B : Hp D A s.heap (MW ct ad iv ia R) H locs := B
  refine at_n (n := 5) (k1 := 0) (k2 := 0) rfl rfl rfl ?_
  refine b_eq (tgt := 22) E w_3 dX12_breach_5 (by decide) (fun c_4 => ?_) (fun c_4 => ?_)
  · skip
    refine lv_iconst (v := -1) E.1.1 E.1.2.1 dX12_breach_22 (by decide) ?_
    have r_5 : (-1 : Int32).toInt = -1 := tI_m1
    exact ret_I (u := _) E hr hlk rfl B (by omega) dX12_breach_23
  · exfalso; omega
set_option maxHeartbeats 4000000 in
set_option maxRecDepth 100000 in
theorem m_12_quarrel (l : Launch) (D : va_G) (ct : Nat → ClassId) (tN : Nat) (ad : Nat → Nat) (iv : Nat → Int32) (ia : Nat → Nat → Int32) (R : va_W) (p0 : Int32) (p1 : Int32) (p2 : Int32) (h2 : (iv 2).toInt = 0) : MI l D (TY ct) tN yX12_quarrel cX12_quarrel 4 (some .int) ({ frames := 2, cells := 0, slots := 0, locals := 43 } : Room) [.ref (ad 0), .int p0, .int p1, .int p2] (MW ct ad iv ia R) (fun (v : Int32) (u : va_W) => v.toInt = -1) (fun u => u) 0 0 := by
  intro sz
  refine Met.ofE (Qc := fun A => va_Qi (fun (v : Int32) (u : va_W) => v.toInt = -1) (BW D A (fun u => u)) A) (by decide) (Nat.le_of_ble_eq_true rfl) ?_
  intro p e s m args below meth c A ls hsz E hr hlk hnm B hl
  have hl : lv_has ls 4 [(0, .ref (ad 0)), (1, .int p0), (2, .int p1), (3, .int p2)] := hl
  refine lv_aload_n E.1.1 E.1.2.1 dX12_quarrel_0 rfl (lv_at hl 0 rfl) ?_
  refine lv_iload_n E.1.1 E.1.2.1 dX12_quarrel_1 rfl (lv_at hl 1 rfl) ?_
  refine call_VI (kn := 1) E B (m_12_isVerse l D ct tN ad iv ia R  p0 h2) (good_V mw_1788 mw_1790 ms_75 mw_12 mw_1791) 0 rfl rfl ⟨rfl, by decide +kernel⟩ rfl rfl rfl ⟨by decide, by decide⟩ rfl hl (Nat.le_of_ble_eq_true rfl) dX12_quarrel_2 ⟨Nat.le_of_ble_eq_true rfl, Nat.le_of_ble_eq_true rfl⟩ (fun v_1 u_2 H locs w_3 B => ?_)
  have w_3 : v_1.toInt = 0 := w_3
  have B : Hp D A s.heap (MW ct ad iv ia R) H locs := B
  refine at_n (n := 5) (k1 := 0) (k2 := 0) rfl rfl rfl ?_
  refine b_eq (tgt := 22) E w_3 dX12_quarrel_5 (by decide) (fun c_4 => ?_) (fun c_4 => ?_)
  · skip
    refine lv_iconst (v := -1) E.1.1 E.1.2.1 dX12_quarrel_22 (by decide) ?_
    have r_5 : (-1 : Int32).toInt = -1 := tI_m1
    exact ret_I (u := _) E hr hlk rfl B (by omega) dX12_quarrel_23
  · exfalso; omega
set_option maxHeartbeats 4000000 in
set_option maxRecDepth 100000 in
theorem m_12_unlike (l : Launch) (D : va_G) (ct : Nat → ClassId) (tN : Nat) (ad : Nat → Nat) (iv : Nat → Int32) (ia : Nat → Nat → Int32) (R : va_W) (p0 : Int32) (p1 : Int32) (h2 : (iv 2).toInt = 0) : MI l D (TY ct) tN yX12_unlike cX12_unlike 3 (some .int) ({ frames := 1, cells := 0, slots := 0, locals := 28 } : Room) [.ref (ad 0), .int p0, .int p1] (MW ct ad iv ia R) (fun (v : Int32) (u : va_W) => v.toInt = -1) (fun u => u) 0 0 := by
  intro sz
  refine Met.ofE (Qc := fun A => va_Qi (fun (v : Int32) (u : va_W) => v.toInt = -1) (BW D A (fun u => u)) A) (by decide) (Nat.le_of_ble_eq_true rfl) ?_
  intro p e s m args below meth c A ls hsz E hr hlk hnm B hl
  have hl : lv_has ls 3 [(0, .ref (ad 0)), (1, .int p0), (2, .int p1)] := hl
  refine lv_iload_n E.1.1 E.1.2.1 dX12_unlike_0 rfl (lv_at hl 1 rfl) ?_
  refine b_lt (tgt := 13) E rfl dX12_unlike_1 (by decide) (fun c_1 => ?_) (fun c_1 => ?_)
  · skip
    refine lv_iconst (v := -1) E.1.1 E.1.2.1 dX12_unlike_13 (by decide) ?_
    have r_2 : (-1 : Int32).toInt = -1 := tI_m1
    exact ret_I (u := _) E hr hlk rfl B (by omega) dX12_unlike_14
  · skip
    refine lv_aload_n E.1.1 E.1.2.1 dX12_unlike_4 rfl (lv_at hl 0 rfl) ?_
    refine lv_iload_n E.1.1 E.1.2.1 dX12_unlike_5 rfl (lv_at hl 1 rfl) ?_
    refine call_VI (kn := 1) E B (m_12_unlikes l D ct tN ad iv ia R  p0 h2) (good_V mw_2106 mw_2108 ms_128 mw_12 mw_2109) 0 rfl rfl ⟨rfl, by decide +kernel⟩ rfl rfl rfl ⟨by decide, by decide⟩ rfl hl (Nat.le_of_ble_eq_true rfl) dX12_unlike_6 ⟨Nat.le_of_ble_eq_true rfl, Nat.le_of_ble_eq_true rfl⟩ (fun v_3 u_4 H locs w_5 B => ?_)
    have w_5 : v_3.toInt = 0 := w_5
    have B : Hp D A s.heap (MW ct ad iv ia R) H locs := B
    refine at_n (n := 9) (k1 := 0) (k2 := 0) rfl rfl rfl ?_
    refine lv_iload_n E.1.1 E.1.2.1 dX12_unlike_9 rfl (lv_at hl 1 rfl) ?_
    refine c_gt (tgt := 15) E w_5 rfl dX12_unlike_10 (by decide) (fun c_6 => ?_) (fun c_6 => ?_)
    · exfalso; omega
    · skip
      refine lv_iconst (v := -1) E.1.1 E.1.2.1 dX12_unlike_13 (by decide) ?_
      have r_7 : (-1 : Int32).toInt = -1 := tI_m1
      exact ret_I (u := _) E hr hlk rfl B (by omega) dX12_unlike_14
set_option maxHeartbeats 4000000 in
set_option maxRecDepth 100000 in
theorem m_12_option (l : Launch) (D : va_G) (ct : Nat → ClassId) (tN : Nat) (ad : Nat → Nat) (iv : Nat → Int32) (ia : Nat → Nat → Int32) (R : va_W) (p0 : Int32) (p1 : Int32) (h3 : (iv 3).toInt = 0) : MI l D (TY ct) tN yX12_option cX12_option 5 (some .boolean) ({ frames := 2, cells := 0, slots := 0, locals := 43 } : Room) [.ref (ad 0), .int p0, .int p1] (MW ct ad iv ia R) (fun (v : Int32) (u : va_W) => v.toInt = 0) (fun u => u) 0 0 := by
  intro sz
  refine Met.ofE (Qc := fun A => va_Qi (fun (v : Int32) (u : va_W) => v.toInt = 0) (BW D A (fun u => u)) A) (by decide) (Nat.le_of_ble_eq_true rfl) ?_
  intro p e s m args below meth c A ls hsz E hr hlk hnm B hl
  have hl : lv_has ls 5 [(0, .ref (ad 0)), (1, .int p0), (2, .int p1)] := hl
  refine lv_iload_n E.1.1 E.1.2.1 dX12_option_0 rfl (lv_at hl 1 rfl) ?_
  refine lv_iconst (v := 0) E.1.1 E.1.2.1 dX12_option_1 (by decide) ?_
  refine lv_bipush (v := 39) E.1.1 E.1.2.1 dX12_option_2 (by decide) ?_
  refine call_SI (kn := 3) E B (m_12_lies l D ct tN ad iv ia R  p0 ((0 : Int32)) ((39 : Int32)) ) (good_S mw_1769 mw_1770 mw_12 mw_1771) (by decide +kernel) rfl rfl rfl ⟨by decide, by decide⟩ rfl hl (Nat.le_of_ble_eq_true rfl) dX12_option_4 ⟨Nat.le_of_ble_eq_true rfl, Nat.le_of_ble_eq_true rfl⟩ (fun v_1 u_2 H locs w_3 B => ?_)
  have w_3 : (0 ≤ p0.toInt ∧ p0.toInt ≤ 39 ∧ v_1.toInt = 1) ∨ ((p0.toInt < 0 ∨ 39 < p0.toInt) ∧ v_1.toInt = 0) := by have h0 := w_3; have a1 := tI_0; have a2 := tI_39; omega
  have B : Hp D A s.heap (MW ct ad iv ia R) H locs := B
  refine at_n (n := 7) (k1 := 0) (k2 := 0) rfl rfl rfl ?_
  refine b_eq (tgt := 18) E rfl dX12_option_7 (by decide) (fun c_4 => ?_) (fun c_4 => ?_)
  · skip
    refine lv_iconst (v := 0) E.1.1 E.1.2.1 dX12_option_18 (by decide) ?_
    have r_5 : (0 : Int32).toInt = 0 := tI_0
    exact ret_I (u := _) E hr hlk (narrow_z (by omega)) B (by omega) dX12_option_19
  · skip
    refine lv_aload_n E.1.1 E.1.2.1 dX12_option_10 rfl (lv_at hl 0 rfl) ?_
    refine lv_iload_n E.1.1 E.1.2.1 dX12_option_11 rfl (lv_at hl 2 rfl) ?_
    refine call_VI (kn := 1) E B (m_12_isWord l D ct tN ad iv ia R  p1 h3) (good_V mw_1816 mw_1818 ms_79 mw_12 mw_1819) 0 rfl rfl ⟨rfl, by decide +kernel⟩ rfl rfl rfl ⟨by decide, by decide⟩ rfl hl (Nat.le_of_ble_eq_true rfl) dX12_option_12 ⟨Nat.le_of_ble_eq_true rfl, Nat.le_of_ble_eq_true rfl⟩ (fun v_6 u_7 H locs w_8 B => ?_)
    have w_8 : v_6.toInt = 0 := w_8
    have B : Hp D A s.heap (MW ct ad iv ia R) H locs := B
    refine at_n (n := 15) (k1 := 0) (k2 := 0) rfl rfl rfl ?_
    refine b_ne (tgt := 20) E w_8 dX12_option_15 (by decide) (fun c_9 => ?_) (fun c_9 => ?_)
    · exfalso; omega
    · skip
      refine lv_iconst (v := 0) E.1.1 E.1.2.1 dX12_option_18 (by decide) ?_
      have r_10 : (0 : Int32).toInt = 0 := tI_0
      exact ret_I (u := _) E hr hlk (narrow_z (by omega)) B (by omega) dX12_option_19
set_option maxHeartbeats 4000000 in
set_option maxRecDepth 100000 in
theorem m_12_apart (l : Launch) (D : va_G) (ct : Nat → ClassId) (tN : Nat) (ad : Nat → Nat) (iv : Nat → Int32) (ia : Nat → Nat → Int32) (R : va_W) (p0 : Int32) (p1 : Int32) (g58 : ∀ j, (ia 58 j).toInt = 0) : MI l D (TY ct) tN yX12_apart cX12_apart 3 (some .boolean) ({ frames := 1, cells := 0, slots := 0, locals := 22 } : Room) [.ref (ad 0), .int p0, .int p1] (MW ct ad iv ia R) (fun (v : Int32) (u : va_W) => ((0 ≤ p0.toInt ∧ p0.toInt ≤ 39 ∧ 0 ≤ p1.toInt ∧ p1.toInt ≤ 39 ∧ ¬ p0.toInt = p1.toInt) ∧ v.toInt = 1) ∨ (¬ (0 ≤ p0.toInt ∧ p0.toInt ≤ 39 ∧ 0 ≤ p1.toInt ∧ p1.toInt ≤ 39 ∧ ¬ p0.toInt = p1.toInt) ∧ v.toInt = 0)) (fun u => u) 0 0 := by
  intro sz
  refine Met.ofE (Qc := fun A => va_Qi (fun (v : Int32) (u : va_W) => ((0 ≤ p0.toInt ∧ p0.toInt ≤ 39 ∧ 0 ≤ p1.toInt ∧ p1.toInt ≤ 39 ∧ ¬ p0.toInt = p1.toInt) ∧ v.toInt = 1) ∨ (¬ (0 ≤ p0.toInt ∧ p0.toInt ≤ 39 ∧ 0 ≤ p1.toInt ∧ p1.toInt ≤ 39 ∧ ¬ p0.toInt = p1.toInt) ∧ v.toInt = 0)) (BW D A (fun u => u)) A) (by decide) (Nat.le_of_ble_eq_true rfl) ?_
  intro p e s m args below meth c A ls hsz E hr hlk hnm B hl
  have hl : lv_has ls 3 [(0, .ref (ad 0)), (1, .int p0), (2, .int p1)] := hl
  refine lv_iload_n E.1.1 E.1.2.1 dX12_apart_0 rfl (lv_at hl 1 rfl) ?_
  refine lv_iconst (v := 0) E.1.1 E.1.2.1 dX12_apart_1 (by decide) ?_
  refine lv_bipush (v := 39) E.1.1 E.1.2.1 dX12_apart_2 (by decide) ?_
  refine call_SI (kn := 3) E B (m_12_lies l D ct tN ad iv ia R  p0 ((0 : Int32)) ((39 : Int32)) ) (good_S mw_1769 mw_1770 mw_12 mw_1771) (by decide +kernel) rfl rfl rfl ⟨by decide, by decide⟩ rfl hl (Nat.le_of_ble_eq_true rfl) dX12_apart_4 ⟨Nat.le_of_ble_eq_true rfl, Nat.le_of_ble_eq_true rfl⟩ (fun v_1 u_2 H locs w_3 B => ?_)
  have w_3 : (0 ≤ p0.toInt ∧ p0.toInt ≤ 39 ∧ v_1.toInt = 1) ∨ ((p0.toInt < 0 ∨ 39 < p0.toInt) ∧ v_1.toInt = 0) := by have h0 := w_3; have a1 := tI_0; have a2 := tI_39; omega
  have B : Hp D A s.heap (MW ct ad iv ia R) H locs := B
  refine at_n (n := 7) (k1 := 0) (k2 := 0) rfl rfl rfl ?_
  refine b_eq (tgt := 39) E rfl dX12_apart_7 (by decide) (fun c_4 => ?_) (fun c_4 => ?_)
  · skip
    refine lv_iconst (v := 0) E.1.1 E.1.2.1 dX12_apart_39 (by decide) ?_
    have r_5 : (0 : Int32).toInt = 0 := tI_0
    exact ret_I (u := _) E hr hlk (narrow_z (by omega)) B (by omega) dX12_apart_40
  · skip
    refine lv_iload_n E.1.1 E.1.2.1 dX12_apart_10 rfl (lv_at hl 2 rfl) ?_
    refine lv_iconst (v := 0) E.1.1 E.1.2.1 dX12_apart_11 (by decide) ?_
    refine lv_bipush (v := 39) E.1.1 E.1.2.1 dX12_apart_12 (by decide) ?_
    refine call_SI (kn := 3) E B (m_12_lies l D ct tN ad iv ia R  p1 ((0 : Int32)) ((39 : Int32)) ) (good_S mw_1769 mw_1770 mw_12 mw_1771) (by decide +kernel) rfl rfl rfl ⟨by decide, by decide⟩ rfl hl (Nat.le_of_ble_eq_true rfl) dX12_apart_14 ⟨Nat.le_of_ble_eq_true rfl, Nat.le_of_ble_eq_true rfl⟩ (fun v_6 u_7 H locs w_8 B => ?_)
    have w_8 : (0 ≤ p1.toInt ∧ p1.toInt ≤ 39 ∧ v_6.toInt = 1) ∨ ((p1.toInt < 0 ∨ 39 < p1.toInt) ∧ v_6.toInt = 0) := by have h0 := w_8; have a1 := tI_0; have a2 := tI_39; omega
    have B : Hp D A s.heap (MW ct ad iv ia R) H locs := B
    refine at_n (n := 17) (k1 := 0) (k2 := 0) rfl rfl rfl ?_
    refine b_eq (tgt := 39) E rfl dX12_apart_17 (by decide) (fun c_9 => ?_) (fun c_9 => ?_)
    · skip
      refine lv_iconst (v := 0) E.1.1 E.1.2.1 dX12_apart_39 (by decide) ?_
      have r_10 : (0 : Int32).toInt = 0 := tI_0
      exact ret_I (u := _) E hr hlk (narrow_z (by omega)) B (by omega) dX12_apart_40
    · skip
      refine lv_iload_n E.1.1 E.1.2.1 dX12_apart_20 rfl (lv_at hl 1 rfl) ?_
      refine lv_iload_n E.1.1 E.1.2.1 dX12_apart_21 rfl (lv_at hl 2 rfl) ?_
      refine c_eq (tgt := 39) E rfl rfl dX12_apart_22 (by decide) (fun c_11 => ?_) (fun c_11 => ?_)
      · skip
        refine lv_iconst (v := 0) E.1.1 E.1.2.1 dX12_apart_39 (by decide) ?_
        have r_12 : (0 : Int32).toInt = 0 := tI_0
        exact ret_I (u := _) E hr hlk (narrow_z (by omega)) B (by omega) dX12_apart_40
      · skip
        refine lv_aload_n E.1.1 E.1.2.1 dX12_apart_25 rfl (lv_at hl 0 rfl) ?_
        refine row_get (v := .ref (ad 58)) E B iX12 rfl 84 (by decide) mw_1560 0 rfl rfl dX12_apart_26 ?_
        refine lv_bipush (v := 40) E.1.1 E.1.2.1 dX12_apart_29 (by decide) ?_
        refine lv_iload_n E.1.1 E.1.2.1 dX12_apart_31 rfl (lv_at hl 1 rfl) ?_
        refine i_mul (z0 := 40 * p0.toInt) E tI_40 rfl (by omega) (by omega) (by omega) dX12_apart_32 (fun z_13 ez_13 => ?_)
        have ez_13 : z_13.toInt = 40 * p0.toInt := by omega
        refine lv_iload_n E.1.1 E.1.2.1 dX12_apart_33 rfl (lv_at hl 2 rfl) ?_
        refine at_pc (n := 34) rfl ?_
        refine i_add E ez_13 rfl (by omega) (by omega) dX12_apart_34 (fun z_14 ez_14 => ?_)
        have ez_14 : z_14.toInt = 40 * p0.toInt + p1.toInt := by omega
        refine row_zald E B 58 rfl (vp_of ez_14 (by omega) (by omega)) dX12_apart_35 ?_
        refine b_eq (tgt := 41) E (g58 _) dX12_apart_36 (by decide) (fun c_15 => ?_) (fun c_15 => ?_)
        · skip
          refine lv_aload_n E.1.1 E.1.2.1 dX12_apart_41 rfl (lv_at hl 0 rfl) ?_
          refine row_get (v := .ref (ad 58)) E B iX12 rfl 84 (by decide) mw_1560 0 rfl rfl dX12_apart_42 ?_
          refine lv_bipush (v := 40) E.1.1 E.1.2.1 dX12_apart_45 (by decide) ?_
          refine lv_iload_n E.1.1 E.1.2.1 dX12_apart_47 rfl (lv_at hl 1 rfl) ?_
          refine i_mul (z0 := 40 * p0.toInt) E tI_40 rfl (by omega) (by omega) (by omega) dX12_apart_48 (fun z_16 ez_16 => ?_)
          have ez_16 : z_16.toInt = 40 * p0.toInt := by omega
          refine lv_iload_n E.1.1 E.1.2.1 dX12_apart_49 rfl (lv_at hl 2 rfl) ?_
          refine at_pc (n := 50) rfl ?_
          refine i_add E ez_16 rfl (by omega) (by omega) dX12_apart_50 (fun z_17 ez_17 => ?_)
          have ez_17 : z_17.toInt = 40 * p0.toInt + p1.toInt := by omega
          refine lv_iconst (v := 1) E.1.1 E.1.2.1 dX12_apart_51 (by decide) ?_
          refine row_zast E B 58 rfl (vp_of ez_17 (by omega) (by omega)) dX12_apart_52 (fun H locs B => ?_)
          have B := Hp.eq (sm_ia_58 ct ad iv ia R (upd (ia 58) z_17.toNatClampNeg (vp_nar .boolean (1 : Int32)))) B
          generalize va_up ia 58 (upd (ia 58) z_17.toNatClampNeg (vp_nar .boolean (1 : Int32))) = ia_18 at B 
          refine lv_aload_n E.1.1 E.1.2.1 dX12_apart_53 rfl (lv_at hl 0 rfl) ?_
          refine row_get (v := .ref (ad 58)) E B iX12 rfl 84 (by decide) mw_1560 0 rfl rfl dX12_apart_54 ?_
          refine lv_bipush (v := 40) E.1.1 E.1.2.1 dX12_apart_57 (by decide) ?_
          refine at_pc (n := 59) rfl ?_
          refine lv_iload_n E.1.1 E.1.2.1 dX12_apart_59 rfl (lv_at hl 2 rfl) ?_
          refine i_mul (z0 := 40 * p1.toInt) E tI_40 rfl (by omega) (by omega) (by omega) dX12_apart_60 (fun z_20 ez_20 => ?_)
          have ez_20 : z_20.toInt = 40 * p1.toInt := by omega
          refine lv_iload_n E.1.1 E.1.2.1 dX12_apart_61 rfl (lv_at hl 1 rfl) ?_
          refine i_add E ez_20 rfl (by omega) (by omega) dX12_apart_62 (fun z_21 ez_21 => ?_)
          have ez_21 : z_21.toInt = 40 * p1.toInt + p0.toInt := by omega
          refine lv_iconst (v := 1) E.1.1 E.1.2.1 dX12_apart_63 (by decide) ?_
          refine row_zast E B 58 rfl (vp_of ez_21 (by omega) (by omega)) dX12_apart_64 (fun H locs B => ?_)
          have B := Hp.eq (sm_ia_58 ct ad iv ia_18 R (upd (ia_18 58) z_21.toNatClampNeg (vp_nar .boolean (1 : Int32)))) B
          generalize va_up ia_18 58 (upd (ia_18 58) z_21.toNatClampNeg (vp_nar .boolean (1 : Int32))) = ia_22 at B 
          refine at_pc (n := 65) rfl ?_
          refine lv_iconst (v := 1) E.1.1 E.1.2.1 dX12_apart_65 (by decide) ?_
          have r_23 : (1 : Int32).toInt = 1 := tI_1
          exact ret_I (u := _) E hr hlk (narrow_z (by omega)) B (by omega) dX12_apart_66
        · exfalso; omega
set_option maxHeartbeats 4000000 in
set_option maxRecDepth 100000 in
theorem m_12_cost (l : Launch) (D : va_G) (ct : Nat → ClassId) (tN : Nat) (ad : Nat → Nat) (iv : Nat → Int32) (ia : Nat → Nat → Int32) (R : va_W) (p0 : Int32) (h2 : (iv 2).toInt = 0) (h26 : (iv 26).toInt = 0) : MI l D (TY ct) tN yX12_cost cX12_cost 2 (some .int) ({ frames := 2, cells := 0, slots := 0, locals := 44 } : Room) [.ref (ad 0), .int p0] (MW ct ad iv ia R) (fun (v : Int32) (u : va_W) => (p0.toInt = 0 ∧ v.toInt = 0) ∨ (¬ p0.toInt = 0 ∧ v.toInt = -1)) (fun u => u) 0 0 := by
  intro sz
  refine Met.ofE (Qc := fun A => va_Qi (fun (v : Int32) (u : va_W) => (p0.toInt = 0 ∧ v.toInt = 0) ∨ (¬ p0.toInt = 0 ∧ v.toInt = -1)) (BW D A (fun u => u)) A) (by decide) (Nat.le_of_ble_eq_true rfl) ?_
  intro p e s m args below meth c A ls hsz E hr hlk hnm B hl
  have hl : lv_has ls 2 [(0, .ref (ad 0)), (1, .int p0)] := hl
  refine lv_aload_n E.1.1 E.1.2.1 dX12_cost_0 rfl (lv_at hl 0 rfl) ?_
  refine lv_iload_n E.1.1 E.1.2.1 dX12_cost_1 rfl (lv_at hl 1 rfl) ?_
  refine call_VI (kn := 1) E B (m_12_isChoice l D ct tN ad iv ia R  p0 h26) (good_V mw_2142 mw_2144 ms_134 mw_12 mw_2145) 0 rfl rfl ⟨rfl, by decide +kernel⟩ rfl rfl rfl ⟨by decide, by decide⟩ rfl hl (Nat.le_of_ble_eq_true rfl) dX12_cost_2 ⟨Nat.le_of_ble_eq_true rfl, Nat.le_of_ble_eq_true rfl⟩ (fun v_1 u_2 H locs w_3 B => ?_)
  have w_3 : (p0.toInt = 0 ∧ v_1.toInt = 1) ∨ (¬ p0.toInt = 0 ∧ v_1.toInt = 0) := w_3
  have B : Hp D A s.heap (MW ct ad iv ia R) H locs := B
  refine at_n (n := 5) (k1 := 0) (k2 := 0) rfl rfl rfl ?_
  refine b_ne (tgt := 10) E rfl dX12_cost_5 (by decide) (fun c_4 => ?_) (fun c_4 => ?_)
  · skip
    refine lv_aload_n E.1.1 E.1.2.1 dX12_cost_10 rfl (lv_at hl 0 rfl) ?_
    refine call_VV (kn := 0) E B (m_12_prices l D ct tN ad iv ia R   h2) (good_V mw_2149 mw_2151 ms_135 mw_12 mw_2152) 0 rfl rfl ⟨rfl, by decide +kernel⟩ rfl rfl rfl ⟨by decide, by decide⟩ rfl hl (Nat.le_of_ble_eq_true rfl) dX12_cost_11 ⟨Nat.le_of_ble_eq_true rfl, Nat.le_of_ble_eq_true rfl⟩ (fun u_6 H locs w_7 B => ?_)
    have B : Hp D A s.heap (MW ct ad iv u_6 R) H locs := B
    refine at_n (n := 14) (k1 := 0) (k2 := 0) rfl rfl rfl ?_
    refine lv_aload_n E.1.1 E.1.2.1 dX12_cost_14 rfl (lv_at hl 0 rfl) ?_
    refine lv_iload_n E.1.1 E.1.2.1 dX12_cost_15 rfl (lv_at hl 1 rfl) ?_
    refine call_VI (kn := 1) E B (m_12_mayBe l D ct tN ad iv u_6 R  p0 h26) (good_V mw_2157 mw_2159 ms_137 mw_12 mw_2160) 0 rfl rfl ⟨rfl, by decide +kernel⟩ rfl rfl rfl ⟨by decide, by decide⟩ rfl hl (Nat.le_of_ble_eq_true rfl) dX12_cost_16 ⟨Nat.le_of_ble_eq_true rfl, Nat.le_of_ble_eq_true rfl⟩ (fun v_8 u_9 H locs w_10 B => ?_)
    have w_10 : v_8.toInt = 1 := w_10
    have B : Hp D A s.heap (MW ct ad iv u_6 R) H locs := B
    refine at_n (n := 19) (k1 := 0) (k2 := 0) rfl rfl rfl ?_
    refine b_eq (tgt := 30) E w_10 dX12_cost_19 (by decide) (fun c_11 => ?_) (fun c_11 => ?_)
    · exfalso; omega
    · skip
      refine lv_aload_n E.1.1 E.1.2.1 dX12_cost_22 rfl (lv_at hl 0 rfl) ?_
      refine lv_iload_n E.1.1 E.1.2.1 dX12_cost_23 rfl (lv_at hl 1 rfl) ?_
      refine call_VI (kn := 1) E B (m_12_costOf l D ct tN ad iv u_6 R  p0 h26) (good_V mw_2161 mw_2163 ms_138 mw_12 mw_2164) 0 rfl rfl ⟨rfl, by decide +kernel⟩ rfl rfl rfl ⟨by decide, by decide⟩ rfl hl (Nat.le_of_ble_eq_true rfl) dX12_cost_24 ⟨Nat.le_of_ble_eq_true rfl, Nat.le_of_ble_eq_true rfl⟩ (fun v_12 u_13 H locs w_14 B => ?_)
      have w_14 : v_12.toInt = 0 := w_14
      have B : Hp D A s.heap (MW ct ad iv u_6 R) H locs := B
      refine at_n (n := 27) (k1 := 0) (k2 := 0) rfl rfl rfl ?_
      refine lv_goto (tgt := 32) E.1.1 E.1.2.1 dX12_cost_27 (by decide) ?_
      have r_15 : v_12.toInt = 0 := w_14
      exact ret_I (u := _) E hr hlk rfl B (by omega) dX12_cost_32
  · skip
    refine lv_iconst (v := -1) E.1.1 E.1.2.1 dX12_cost_8 (by decide) ?_
    have r_16 : (-1 : Int32).toInt = -1 := tI_m1
    exact ret_I (u := _) E hr hlk rfl B (by omega) dX12_cost_9
set_option maxHeartbeats 4000000 in
set_option maxRecDepth 100000 in
theorem m_12_one (l : Launch) (D : va_G) (ct : Nat → ClassId) (tN : Nat) (ad : Nat → Nat) (iv : Nat → Int32) (ia : Nat → Nat → Int32) (R : va_W)  (h2 : (iv 2).toInt = 0) (h26 : (iv 26).toInt = 0) : MI l D (TY ct) tN yX12_one cX12_one 3 (some .int) ({ frames := 2, cells := 0, slots := 0, locals := 44 } : Room) [.ref (ad 0)] (MW ct ad iv ia R) (fun (v : Int32) (u : va_W) => v.toInt = 0) (fun u => u) 0 0 := by
  intro sz
  refine Met.ofE (Qc := fun A => va_Qi (fun (v : Int32) (u : va_W) => v.toInt = 0) (BW D A (fun u => u)) A) (by decide) (Nat.le_of_ble_eq_true rfl) ?_
  intro p e s m args below meth c A ls hsz E hr hlk hnm B hl
  have hl : lv_has ls 3 [(0, .ref (ad 0))] := hl
  refine lv_aload_n E.1.1 E.1.2.1 dX12_one_0 rfl (lv_at hl 0 rfl) ?_
  refine call_VV (kn := 0) E B (m_12_prices l D ct tN ad iv ia R   h2) (good_V mw_2149 mw_2151 ms_135 mw_12 mw_2152) 0 rfl rfl ⟨rfl, by decide +kernel⟩ rfl rfl rfl ⟨by decide, by decide⟩ rfl hl (Nat.le_of_ble_eq_true rfl) dX12_one_1 ⟨Nat.le_of_ble_eq_true rfl, Nat.le_of_ble_eq_true rfl⟩ (fun u_2 H locs w_3 B => ?_)
  have B : Hp D A s.heap (MW ct ad iv u_2 R) H locs := B
  refine at_n (n := 4) (k1 := 0) (k2 := 0) rfl rfl rfl ?_
  refine lv_iconst (v := -1) E.1.1 E.1.2.1 dX12_one_4 (by decide) ?_
  refine lv_istore_n (lv' := [(1, .int (-1 : Int32)), (0, .ref (ad 0))]) E.1.1 E.1.2.1 dX12_one_5 rfl hl (by decide) rfl (fun ls hl => ?_)
  refine lv_iconst (v := 0) E.1.1 E.1.2.1 dX12_one_6 (by decide) ?_
  refine lv_istore_n (lv' := [(2, .int (0 : Int32)), (1, .int (-1 : Int32)), (0, .ref (ad 0))]) E.1.1 E.1.2.1 dX12_one_7 rfl hl (by decide) rfl (fun ls hl => ?_)
  refine lv_iload_n E.1.1 E.1.2.1 dX12_one_8 rfl (lv_at hl 0 rfl) ?_
  refine lv_iconst (v := 1) E.1.1 E.1.2.1 dX12_one_9 (by decide) ?_
  refine at_pc (n := 10) rfl ?_
  refine lv_iconst (v := 2) E.1.1 E.1.2.1 dX12_one_10 (by decide) ?_
  refine lv_aload_n E.1.1 E.1.2.1 dX12_one_11 rfl (lv_at hl 2 rfl) ?_
  refine row_get (v := .int (iv 26)) E B iX12 rfl 80 (by decide) mw_1556 0 rfl rfl dX12_one_12 ?_
  refine i_mul (z0 := 0) E tI_2 h26 (by omega) (by omega) (by omega) dX12_one_15 (fun z_4 ez_4 => ?_)
  have ez_4 : z_4.toInt = 0 := by omega
  refine i_shl (r := 1) E tI_1 ez_4 (by decide) dX12_one_16 ?_
  refine c_ge (tgt := 92) E tI_0 tI_1 dX12_one_17 (by decide) (fun c_5 => ?_) (fun c_5 => ?_)
  · exfalso; omega
  · skip
    refine lv_aload_n E.1.1 E.1.2.1 dX12_one_20 rfl (lv_at hl 2 rfl) ?_
    refine lv_iload_n E.1.1 E.1.2.1 dX12_one_21 rfl (lv_at hl 0 rfl) ?_
    refine call_VI (kn := 1) E B (m_12_isChoice l D ct tN ad iv u_2 R  ((0 : Int32)) h26) (good_V mw_2142 mw_2144 ms_134 mw_12 mw_2145) 0 rfl rfl ⟨rfl, by decide +kernel⟩ rfl rfl rfl ⟨by decide, by decide⟩ rfl hl (Nat.le_of_ble_eq_true rfl) dX12_one_22 ⟨Nat.le_of_ble_eq_true rfl, Nat.le_of_ble_eq_true rfl⟩ (fun v_6 u_7 H locs w_8 B => ?_)
    have w_8 : (0 = 0 ∧ v_6.toInt = 1) ∨ (¬ 0 = 0 ∧ v_6.toInt = 0) := by have h0 := w_8; have a0 := tI_0; omega
    have w_9 : v_6.toInt = 1 := by omega
    have B : Hp D A s.heap (MW ct ad iv u_2 R) H locs := B
    refine at_n (n := 25) (k1 := 0) (k2 := 0) rfl rfl rfl ?_
    refine b_eq (tgt := 86) E w_9 dX12_one_25 (by decide) (fun c_10 => ?_) (fun c_10 => ?_)
    · exfalso; omega
    · skip
      refine lv_aload_n E.1.1 E.1.2.1 dX12_one_28 rfl (lv_at hl 2 rfl) ?_
      refine lv_iload_n E.1.1 E.1.2.1 dX12_one_29 rfl (lv_at hl 0 rfl) ?_
      refine call_VI (kn := 1) E B (m_12_mayBe l D ct tN ad iv u_2 R  ((0 : Int32)) h26) (good_V mw_2157 mw_2159 ms_137 mw_12 mw_2160) 0 rfl rfl ⟨rfl, by decide +kernel⟩ rfl rfl rfl ⟨by decide, by decide⟩ rfl hl (Nat.le_of_ble_eq_true rfl) dX12_one_30 ⟨Nat.le_of_ble_eq_true rfl, Nat.le_of_ble_eq_true rfl⟩ (fun v_11 u_12 H locs w_13 B => ?_)
      have w_13 : v_11.toInt = 1 := w_13
      have B : Hp D A s.heap (MW ct ad iv u_2 R) H locs := B
      refine at_n (n := 33) (k1 := 0) (k2 := 0) rfl rfl rfl ?_
      refine b_ne (tgt := 39) E w_13 dX12_one_33 (by decide) (fun c_14 => ?_) (fun c_14 => ?_)
      · skip
        refine lv_iload_n E.1.1 E.1.2.1 dX12_one_39 rfl (lv_at hl 1 rfl) ?_
        refine lv_iconst (v := -1) E.1.1 E.1.2.1 dX12_one_40 (by decide) ?_
        refine c_eq (tgt := 84) E tI_m1 tI_m1 dX12_one_41 (by decide) (fun c_15 => ?_) (fun c_15 => ?_)
        · skip
          refine lv_iload_n E.1.1 E.1.2.1 dX12_one_84 rfl (lv_at hl 0 rfl) ?_
          refine lv_istore_n (lv' := [(1, .int (0 : Int32)), (2, .int (0 : Int32)), (0, .ref (ad 0))]) E.1.1 E.1.2.1 dX12_one_85 rfl hl (by decide) rfl (fun ls hl => ?_)
          refine lv_iinc (v := 1) (lv' := [(2, .int (1 : Int32)), (1, .int (0 : Int32)), (0, .ref (ad 0))]) E.1.1 E.1.2.1 dX12_one_86 hl (k := 1) rfl (by decide) (by decide) rfl (fun ls hl => ?_)
          refine lv_goto (tgt := 8) E.1.1 E.1.2.1 dX12_one_89 (by decide) ?_
          refine lv_iload_n E.1.1 E.1.2.1 dX12_one_8 rfl (lv_at hl 0 rfl) ?_
          refine lv_iconst (v := 1) E.1.1 E.1.2.1 dX12_one_9 (by decide) ?_
          refine lv_iconst (v := 2) E.1.1 E.1.2.1 dX12_one_10 (by decide) ?_
          refine at_pc (n := 11) rfl ?_
          refine lv_aload_n E.1.1 E.1.2.1 dX12_one_11 rfl (lv_at hl 2 rfl) ?_
          refine row_get (v := .int (iv 26)) E B iX12 rfl 80 (by decide) mw_1556 0 rfl rfl dX12_one_12 ?_
          refine i_mul (z0 := 0) E tI_2 h26 (by omega) (by omega) (by omega) dX12_one_15 (fun z_16 ez_16 => ?_)
          have ez_16 : z_16.toInt = 0 := by omega
          refine i_shl (r := 1) E tI_1 ez_16 (by decide) dX12_one_16 ?_
          refine c_ge (tgt := 92) E tI_1 tI_1 dX12_one_17 (by decide) (fun c_17 => ?_) (fun c_17 => ?_)
          · skip
            refine lv_iload_n E.1.1 E.1.2.1 dX12_one_92 rfl (lv_at hl 1 rfl) ?_
            have r_18 : (0 : Int32).toInt = 0 := tI_0
            exact ret_I (u := _) E hr hlk rfl B (by omega) dX12_one_93
          · exfalso; omega
        · exfalso; omega
      · exfalso; omega
set_option maxHeartbeats 4000000 in
set_option maxRecDepth 100000 in
theorem m_12_line (l : Launch) (D : va_G) (ct : Nat → ClassId) (tN : Nat) (ad : Nat → Nat) (iv : Nat → Int32) (ia : Nat → Nat → Int32) (R : va_W) (p0 : Int32) (h2 : (iv 2).toInt = 0) : MI l D (TY ct) tN yX12_line cX12_line 4 (some .int) ({ frames := 0, cells := 0, slots := 0, locals := 0 } : Room) [.ref (ad 0), .int p0] (MW ct ad iv ia R) (fun (v : Int32) (u : va_W) => v.toInt = -1) (fun u => u) 0 0 := by
  intro sz
  refine Met.ofE (Qc := fun A => va_Qi (fun (v : Int32) (u : va_W) => v.toInt = -1) (BW D A (fun u => u)) A) (by decide) (Nat.le_of_ble_eq_true rfl) ?_
  intro p e s m args below meth c A ls hsz E hr hlk hnm B hl
  have hl : lv_has ls 4 [(0, .ref (ad 0)), (1, .int p0)] := hl
  refine lv_iload_n E.1.1 E.1.2.1 dX12_line_0 rfl (lv_at hl 1 rfl) ?_
  refine b_ge (tgt := 6) E rfl dX12_line_1 (by decide) (fun c_1 => ?_) (fun c_1 => ?_)
  · skip
    refine lv_iconst (v := 0) E.1.1 E.1.2.1 dX12_line_6 (by decide) ?_
    refine lv_istore_n (lv' := [(2, .int (0 : Int32)), (0, .ref (ad 0)), (1, .int p0)]) E.1.1 E.1.2.1 dX12_line_7 rfl hl (by decide) rfl (fun ls hl => ?_)
    refine lv_iconst (v := 0) E.1.1 E.1.2.1 dX12_line_8 (by decide) ?_
    refine lv_istore_n (lv' := [(3, .int (0 : Int32)), (2, .int (0 : Int32)), (0, .ref (ad 0)), (1, .int p0)]) E.1.1 E.1.2.1 dX12_line_9 rfl hl (by decide) rfl (fun ls hl => ?_)
    refine lv_iload_n E.1.1 E.1.2.1 dX12_line_10 rfl (lv_at hl 0 rfl) ?_
    refine lv_aload_n E.1.1 E.1.2.1 dX12_line_11 rfl (lv_at hl 2 rfl) ?_
    refine at_pc (n := 12) rfl ?_
    refine row_get (v := .int (iv 2)) E B iX12 rfl 3 (by decide) mw_1479 0 rfl rfl dX12_line_12 ?_
    refine c_ge (tgt := 45) E tI_0 h2 dX12_line_15 (by decide) (fun c_2 => ?_) (fun c_2 => ?_)
    · skip
      refine lv_iconst (v := -1) E.1.1 E.1.2.1 dX12_line_45 (by decide) ?_
      have r_3 : (-1 : Int32).toInt = -1 := tI_m1
      exact ret_I (u := _) E hr hlk rfl B (by omega) dX12_line_46
    · exfalso; omega
  · skip
    refine lv_iconst (v := -1) E.1.1 E.1.2.1 dX12_line_4 (by decide) ?_
    have r_4 : (-1 : Int32).toInt = -1 := tI_m1
    exact ret_I (u := _) E hr hlk rfl B (by omega) dX12_line_5
set_option maxHeartbeats 4000000 in
set_option maxRecDepth 100000 in
theorem m_12_reads (l : Launch) (D : va_G) (ct : Nat → ClassId) (tN : Nat) (ad : Nat → Nat) (iv : Nat → Int32) (ia : Nat → Nat → Int32) (R : va_W) (p0 : Int32) (p1 : Int32) (p2 : Int32) (p3 : Int32) (h2 : (iv 2).toInt = 0) : MI l D (TY ct) tN yX12_reads cX12_reads 5 (some .boolean) ({ frames := 2, cells := 0, slots := 0, locals := 43 } : Room) [.ref (ad 0), .int p0, .int p1, .int p2, .int p3] (MW ct ad iv ia R) (fun (v : Int32) (u : va_W) => v.toInt = 0) (fun u => u) 0 0 := by
  intro sz
  refine Met.ofE (Qc := fun A => va_Qi (fun (v : Int32) (u : va_W) => v.toInt = 0) (BW D A (fun u => u)) A) (by decide) (Nat.le_of_ble_eq_true rfl) ?_
  intro p e s m args below meth c A ls hsz E hr hlk hnm B hl
  have hl : lv_has ls 5 [(0, .ref (ad 0)), (1, .int p0), (2, .int p1), (3, .int p2), (4, .int p3)] := hl
  refine lv_iload_n E.1.1 E.1.2.1 dX12_reads_0 rfl (lv_at hl 1 rfl) ?_
  refine lv_iconst (v := 0) E.1.1 E.1.2.1 dX12_reads_1 (by decide) ?_
  refine lv_bipush (v := 9) E.1.1 E.1.2.1 dX12_reads_2 (by decide) ?_
  refine call_SI (kn := 3) E B (m_12_lies l D ct tN ad iv ia R  p0 ((0 : Int32)) ((9 : Int32)) ) (good_S mw_1769 mw_1770 mw_12 mw_1771) (by decide +kernel) rfl rfl rfl ⟨by decide, by decide⟩ rfl hl (Nat.le_of_ble_eq_true rfl) dX12_reads_4 ⟨Nat.le_of_ble_eq_true rfl, Nat.le_of_ble_eq_true rfl⟩ (fun v_1 u_2 H locs w_3 B => ?_)
  have w_3 : (0 ≤ p0.toInt ∧ p0.toInt ≤ 9 ∧ v_1.toInt = 1) ∨ ((p0.toInt < 0 ∨ 9 < p0.toInt) ∧ v_1.toInt = 0) := by have h0 := w_3; have a1 := tI_0; have a2 := tI_9; omega
  have B : Hp D A s.heap (MW ct ad iv ia R) H locs := B
  refine at_n (n := 7) (k1 := 0) (k2 := 0) rfl rfl rfl ?_
  refine b_eq (tgt := 28) E rfl dX12_reads_7 (by decide) (fun c_4 => ?_) (fun c_4 => ?_)
  · skip
    refine lv_iconst (v := 0) E.1.1 E.1.2.1 dX12_reads_28 (by decide) ?_
    have r_5 : (0 : Int32).toInt = 0 := tI_0
    exact ret_I (u := _) E hr hlk (narrow_z (by omega)) B (by omega) dX12_reads_29
  · skip
    refine lv_aload_n E.1.1 E.1.2.1 dX12_reads_10 rfl (lv_at hl 0 rfl) ?_
    refine lv_iload_n E.1.1 E.1.2.1 dX12_reads_11 rfl (lv_at hl 2 rfl) ?_
    refine call_VI (kn := 1) E B (m_12_isVerse l D ct tN ad iv ia R  p1 h2) (good_V mw_1788 mw_1790 ms_75 mw_12 mw_1791) 0 rfl rfl ⟨rfl, by decide +kernel⟩ rfl rfl rfl ⟨by decide, by decide⟩ rfl hl (Nat.le_of_ble_eq_true rfl) dX12_reads_12 ⟨Nat.le_of_ble_eq_true rfl, Nat.le_of_ble_eq_true rfl⟩ (fun v_6 u_7 H locs w_8 B => ?_)
    have w_8 : v_6.toInt = 0 := w_8
    have B : Hp D A s.heap (MW ct ad iv ia R) H locs := B
    refine at_n (n := 15) (k1 := 0) (k2 := 0) rfl rfl rfl ?_
    refine b_eq (tgt := 28) E w_8 dX12_reads_15 (by decide) (fun c_9 => ?_) (fun c_9 => ?_)
    · skip
      refine lv_iconst (v := 0) E.1.1 E.1.2.1 dX12_reads_28 (by decide) ?_
      have r_10 : (0 : Int32).toInt = 0 := tI_0
      exact ret_I (u := _) E hr hlk (narrow_z (by omega)) B (by omega) dX12_reads_29
    · exfalso; omega
set_option maxHeartbeats 4000000 in
set_option maxRecDepth 100000 in
theorem m_12_missed (l : Launch) (D : va_G) (ct : Nat → ClassId) (tN : Nat) (ad : Nat → Nat) (iv : Nat → Int32) (ia : Nat → Nat → Int32) (R : va_W) (p0 : Int32) (h2 : (iv 2).toInt = 0) : MI l D (TY ct) tN yX12_missed cX12_missed 6 (some .int) ({ frames := 2, cells := 0, slots := 0, locals := 43 } : Room) [.ref (ad 0), .int p0] (MW ct ad iv ia R) (fun (v : Int32) (u : va_W) => v.toInt = -1) (fun u => u) 0 0 := by
  intro sz
  refine Met.ofE (Qc := fun A => va_Qi (fun (v : Int32) (u : va_W) => v.toInt = -1) (BW D A (fun u => u)) A) (by decide) (Nat.le_of_ble_eq_true rfl) ?_
  intro p e s m args below meth c A ls hsz E hr hlk hnm B hl
  have hl : lv_has ls 6 [(0, .ref (ad 0)), (1, .int p0)] := hl
  refine lv_aload_n E.1.1 E.1.2.1 dX12_missed_0 rfl (lv_at hl 0 rfl) ?_
  refine lv_iload_n E.1.1 E.1.2.1 dX12_missed_1 rfl (lv_at hl 1 rfl) ?_
  refine call_VI (kn := 1) E B (m_12_isVerse l D ct tN ad iv ia R  p0 h2) (good_V mw_1788 mw_1790 ms_75 mw_12 mw_1791) 0 rfl rfl ⟨rfl, by decide +kernel⟩ rfl rfl rfl ⟨by decide, by decide⟩ rfl hl (Nat.le_of_ble_eq_true rfl) dX12_missed_2 ⟨Nat.le_of_ble_eq_true rfl, Nat.le_of_ble_eq_true rfl⟩ (fun v_1 u_2 H locs w_3 B => ?_)
  have w_3 : v_1.toInt = 0 := w_3
  have B : Hp D A s.heap (MW ct ad iv ia R) H locs := B
  refine at_n (n := 5) (k1 := 0) (k2 := 0) rfl rfl rfl ?_
  refine b_ne (tgt := 10) E w_3 dX12_missed_5 (by decide) (fun c_4 => ?_) (fun c_4 => ?_)
  · exfalso; omega
  · skip
    refine lv_iconst (v := -1) E.1.1 E.1.2.1 dX12_missed_8 (by decide) ?_
    have r_5 : (-1 : Int32).toInt = -1 := tI_m1
    exact ret_I (u := _) E hr hlk rfl B (by omega) dX12_missed_9
set_option maxHeartbeats 4000000 in
set_option maxRecDepth 100000 in
theorem m_12_changes (l : Launch) (D : va_G) (ct : Nat → ClassId) (tN : Nat) (ad : Nat → Nat) (iv : Nat → Int32) (ia : Nat → Nat → Int32) (R : va_W) (p0 : Int32) (p1 : Int32) (p2 : Int32) (h2 : (iv 2).toInt = 0) : MI l D (TY ct) tN yX12_changes cX12_changes 7 (some .int) ({ frames := 2, cells := 0, slots := 0, locals := 43 } : Room) [.ref (ad 0), .int p0, .int p1, .int p2] (MW ct ad iv ia R) (fun (v : Int32) (u : va_W) => v.toInt = -1) (fun u => u) 0 0 := by
  intro sz
  refine Met.ofE (Qc := fun A => va_Qi (fun (v : Int32) (u : va_W) => v.toInt = -1) (BW D A (fun u => u)) A) (by decide) (Nat.le_of_ble_eq_true rfl) ?_
  intro p e s m args below meth c A ls hsz E hr hlk hnm B hl
  have hl : lv_has ls 7 [(0, .ref (ad 0)), (1, .int p0), (2, .int p1), (3, .int p2)] := hl
  refine lv_aload_n E.1.1 E.1.2.1 dX12_changes_0 rfl (lv_at hl 0 rfl) ?_
  refine lv_iload_n E.1.1 E.1.2.1 dX12_changes_1 rfl (lv_at hl 1 rfl) ?_
  refine call_VI (kn := 1) E B (m_12_isVerse l D ct tN ad iv ia R  p0 h2) (good_V mw_1788 mw_1790 ms_75 mw_12 mw_1791) 0 rfl rfl ⟨rfl, by decide +kernel⟩ rfl rfl rfl ⟨by decide, by decide⟩ rfl hl (Nat.le_of_ble_eq_true rfl) dX12_changes_2 ⟨Nat.le_of_ble_eq_true rfl, Nat.le_of_ble_eq_true rfl⟩ (fun v_1 u_2 H locs w_3 B => ?_)
  have w_3 : v_1.toInt = 0 := w_3
  have B : Hp D A s.heap (MW ct ad iv ia R) H locs := B
  refine at_n (n := 5) (k1 := 0) (k2 := 0) rfl rfl rfl ?_
  refine b_eq (tgt := 32) E w_3 dX12_changes_5 (by decide) (fun c_4 => ?_) (fun c_4 => ?_)
  · skip
    refine lv_iconst (v := -1) E.1.1 E.1.2.1 dX12_changes_32 (by decide) ?_
    have r_5 : (-1 : Int32).toInt = -1 := tI_m1
    exact ret_I (u := _) E hr hlk rfl B (by omega) dX12_changes_33
  · exfalso; omega
set_option maxHeartbeats 4000000 in
set_option maxRecDepth 100000 in
theorem m_12_printed (l : Launch) (D : va_G) (ct : Nat → ClassId) (tN : Nat) (ad : Nat → Nat) (iv : Nat → Int32) (ia : Nat → Nat → Int32) (R : va_W) (p0 : Int32) (p1 : Int32) (p2 : Int32) (h2 : (iv 2).toInt = 0) : MI l D (TY ct) tN yX12_printed cX12_printed 8 (some .int) ({ frames := 2, cells := 0, slots := 0, locals := 43 } : Room) [.ref (ad 0), .int p0, .int p1, .int p2] (MW ct ad iv ia R) (fun (v : Int32) (u : va_W) => v.toInt = -1) (fun u => u) 0 0 := by
  intro sz
  refine Met.ofE (Qc := fun A => va_Qi (fun (v : Int32) (u : va_W) => v.toInt = -1) (BW D A (fun u => u)) A) (by decide) (Nat.le_of_ble_eq_true rfl) ?_
  intro p e s m args below meth c A ls hsz E hr hlk hnm B hl
  have hl : lv_has ls 8 [(0, .ref (ad 0)), (1, .int p0), (2, .int p1), (3, .int p2)] := hl
  refine lv_iload_n E.1.1 E.1.2.1 dX12_printed_0 rfl (lv_at hl 1 rfl) ?_
  refine lv_iconst (v := 0) E.1.1 E.1.2.1 dX12_printed_1 (by decide) ?_
  refine lv_iconst (v := 3) E.1.1 E.1.2.1 dX12_printed_2 (by decide) ?_
  refine call_SI (kn := 3) E B (m_12_lies l D ct tN ad iv ia R  p0 ((0 : Int32)) ((3 : Int32)) ) (good_S mw_1769 mw_1770 mw_12 mw_1771) (by decide +kernel) rfl rfl rfl ⟨by decide, by decide⟩ rfl hl (Nat.le_of_ble_eq_true rfl) dX12_printed_3 ⟨Nat.le_of_ble_eq_true rfl, Nat.le_of_ble_eq_true rfl⟩ (fun v_1 u_2 H locs w_3 B => ?_)
  have w_3 : (0 ≤ p0.toInt ∧ p0.toInt ≤ 3 ∧ v_1.toInt = 1) ∨ ((p0.toInt < 0 ∨ 3 < p0.toInt) ∧ v_1.toInt = 0) := by have h0 := w_3; have a1 := tI_0; have a2 := tI_3; omega
  have B : Hp D A s.heap (MW ct ad iv ia R) H locs := B
  refine at_n (n := 6) (k1 := 0) (k2 := 0) rfl rfl rfl ?_
  refine b_eq (tgt := 25) E rfl dX12_printed_6 (by decide) (fun c_4 => ?_) (fun c_4 => ?_)
  · skip
    refine lv_iconst (v := -1) E.1.1 E.1.2.1 dX12_printed_25 (by decide) ?_
    refine lv_istore (lv' := [(4, .int (-1 : Int32)), (0, .ref (ad 0)), (1, .int p0), (2, .int p1), (3, .int p2)]) E.1.1 E.1.2.1 dX12_printed_26 hl (by decide) rfl (fun ls hl => ?_)
    refine lv_iload E.1.1 E.1.2.1 dX12_printed_28 (lv_at hl 0 rfl) ?_
    refine lv_iconst (v := -1) E.1.1 E.1.2.1 dX12_printed_30 (by decide) ?_
    refine c_ne (tgt := 36) E tI_m1 tI_m1 dX12_printed_31 (by decide) (fun c_5 => ?_) (fun c_5 => ?_)
    · exfalso; omega
    · skip
      refine lv_iconst (v := -1) E.1.1 E.1.2.1 dX12_printed_34 (by decide) ?_
      have r_6 : (-1 : Int32).toInt = -1 := tI_m1
      exact ret_I (u := _) E hr hlk rfl B (by omega) dX12_printed_35
  · skip
    refine lv_aload_n E.1.1 E.1.2.1 dX12_printed_9 rfl (lv_at hl 0 rfl) ?_
    refine lv_iload_n E.1.1 E.1.2.1 dX12_printed_10 rfl (lv_at hl 2 rfl) ?_
    refine call_VI (kn := 1) E B (m_12_isVerse l D ct tN ad iv ia R  p1 h2) (good_V mw_1788 mw_1790 ms_75 mw_12 mw_1791) 0 rfl rfl ⟨rfl, by decide +kernel⟩ rfl rfl rfl ⟨by decide, by decide⟩ rfl hl (Nat.le_of_ble_eq_true rfl) dX12_printed_11 ⟨Nat.le_of_ble_eq_true rfl, Nat.le_of_ble_eq_true rfl⟩ (fun v_7 u_8 H locs w_9 B => ?_)
    have w_9 : v_7.toInt = 0 := w_9
    have B : Hp D A s.heap (MW ct ad iv ia R) H locs := B
    refine at_n (n := 14) (k1 := 0) (k2 := 0) rfl rfl rfl ?_
    refine b_eq (tgt := 25) E w_9 dX12_printed_14 (by decide) (fun c_10 => ?_) (fun c_10 => ?_)
    · skip
      refine lv_iconst (v := -1) E.1.1 E.1.2.1 dX12_printed_25 (by decide) ?_
      refine lv_istore (lv' := [(4, .int (-1 : Int32)), (0, .ref (ad 0)), (1, .int p0), (2, .int p1), (3, .int p2)]) E.1.1 E.1.2.1 dX12_printed_26 hl (by decide) rfl (fun ls hl => ?_)
      refine lv_iload E.1.1 E.1.2.1 dX12_printed_28 (lv_at hl 0 rfl) ?_
      refine lv_iconst (v := -1) E.1.1 E.1.2.1 dX12_printed_30 (by decide) ?_
      refine c_ne (tgt := 36) E tI_m1 tI_m1 dX12_printed_31 (by decide) (fun c_11 => ?_) (fun c_11 => ?_)
      · exfalso; omega
      · skip
        refine lv_iconst (v := -1) E.1.1 E.1.2.1 dX12_printed_34 (by decide) ?_
        have r_12 : (-1 : Int32).toInt = -1 := tI_m1
        exact ret_I (u := _) E hr hlk rfl B (by omega) dX12_printed_35
    · exfalso; omega
set_option maxHeartbeats 4000000 in
set_option maxRecDepth 100000 in
theorem m_12_plan (l : Launch) (D : va_G) (ct : Nat → ClassId) (tN : Nat) (ad : Nat → Nat) (iv : Nat → Int32) (ia : Nat → Nat → Int32) (R : va_W) (p0 : Int32) (h2 : (iv 2).toInt = 0) : MI l D (TY ct) tN yX12_plan cX12_plan 3 (some .int) ({ frames := 2, cells := 0, slots := 0, locals := 48 } : Room) [.ref (ad 0), .int p0] (MW ct ad iv ia R) (fun (v : Int32) (u : va_W) => (p0.toInt = -1 ∧ v.toInt = 0) ∨ (¬ p0.toInt = -1 ∧ v.toInt = -1)) (fun u => u) 0 0 := by
  intro sz
  refine Met.ofE (Qc := fun A => va_Qi (fun (v : Int32) (u : va_W) => (p0.toInt = -1 ∧ v.toInt = 0) ∨ (¬ p0.toInt = -1 ∧ v.toInt = -1)) (BW D A (fun u => u)) A) (by decide) (Nat.le_of_ble_eq_true rfl) ?_
  intro p e s m args below meth c A ls hsz E hr hlk hnm B hl
  have hl : lv_has ls 3 [(0, .ref (ad 0)), (1, .int p0)] := hl
  refine lv_aload_n E.1.1 E.1.2.1 dX12_plan_0 rfl (lv_at hl 0 rfl) ?_
  refine call_VV (kn := 0) E B (m_12_lists l D ct tN ad iv ia R   h2) (good_V mw_2208 mw_2210 ms_142 mw_12 mw_2211) 0 rfl rfl ⟨rfl, by decide +kernel⟩ rfl rfl rfl ⟨by decide, by decide⟩ rfl hl (Nat.le_of_ble_eq_true rfl) dX12_plan_1 ⟨Nat.le_of_ble_eq_true rfl, Nat.le_of_ble_eq_true rfl⟩ (fun u_2 H locs w_3 B => ?_)
  have h_4 := w_3
  have h_4 : (u_2 28).toInt = 0 := h_4
  have B : Hp D A s.heap (MW ct ad u_2 ia R) H locs := B
  refine at_n (n := 4) (k1 := 0) (k2 := 0) rfl rfl rfl ?_
  refine lv_aload_n E.1.1 E.1.2.1 dX12_plan_4 rfl (lv_at hl 0 rfl) ?_
  refine call_VI (kn := 0) E B (m_12_bestRow l D ct tN ad u_2 ia R   h_4) (good_V mw_2212 mw_2214 ms_143 mw_12 mw_2215) 0 rfl rfl ⟨rfl, by decide +kernel⟩ rfl rfl rfl ⟨by decide, by decide⟩ rfl hl (Nat.le_of_ble_eq_true rfl) dX12_plan_5 ⟨Nat.le_of_ble_eq_true rfl, Nat.le_of_ble_eq_true rfl⟩ (fun v_5 u_6 H locs w_7 B => ?_)
  have w_7 : v_5.toInt = 0 := w_7
  have B : Hp D A s.heap (MW ct ad u_2 ia R) H locs := B
  refine at_n (n := 8) (k1 := 0) (k2 := 0) rfl rfl rfl ?_
  refine lv_istore_n (lv' := [(2, .int v_5), (0, .ref (ad 0)), (1, .int p0)]) E.1.1 E.1.2.1 dX12_plan_8 rfl hl (by decide) rfl (fun ls hl => ?_)
  refine lv_iload_n E.1.1 E.1.2.1 dX12_plan_9 rfl (lv_at hl 0 rfl) ?_
  refine lv_iconst (v := -1) E.1.1 E.1.2.1 dX12_plan_10 (by decide) ?_
  refine c_ne (tgt := 16) E w_7 tI_m1 dX12_plan_11 (by decide) (fun c_8 => ?_) (fun c_8 => ?_)
  · skip
    refine lv_iload_n E.1.1 E.1.2.1 dX12_plan_16 rfl (lv_at hl 2 rfl) ?_
    refine lv_iconst (v := -1) E.1.1 E.1.2.1 dX12_plan_17 (by decide) ?_
    refine c_ne (tgt := 27) E rfl tI_m1 dX12_plan_18 (by decide) (fun c_9 => ?_) (fun c_9 => ?_)
    · skip
      refine lv_iload_n E.1.1 E.1.2.1 dX12_plan_27 rfl (lv_at hl 2 rfl) ?_
      refine lv_iconst (v := 0) E.1.1 E.1.2.1 dX12_plan_28 (by decide) ?_
      refine lv_aload_n E.1.1 E.1.2.1 dX12_plan_29 rfl (lv_at hl 1 rfl) ?_
      refine row_get (v := .int (u_2 28)) E B iX12 rfl 91 (by decide) mw_1567 0 rfl rfl dX12_plan_30 ?_
      refine lv_iconst (v := 1) E.1.1 E.1.2.1 dX12_plan_33 (by decide) ?_
      refine i_sub E h_4 tI_1 (by omega) (by omega) dX12_plan_34 (fun z_10 ez_10 => ?_)
      have ez_10 : z_10.toInt = -1 := by omega
      refine at_pc (n := 35) rfl ?_
      refine call_SI (kn := 3) E B (m_12_lies l D ct tN ad u_2 ia R  p0 ((0 : Int32)) z_10 ) (good_S mw_1769 mw_1770 mw_12 mw_1771) (by decide +kernel) rfl rfl rfl ⟨by decide, by decide⟩ rfl hl (Nat.le_of_ble_eq_true rfl) dX12_plan_35 ⟨Nat.le_of_ble_eq_true rfl, Nat.le_of_ble_eq_true rfl⟩ (fun v_11 u_12 H locs w_13 B => ?_)
      have w_13 : (0 ≤ p0.toInt ∧ p0.toInt ≤ (-1) ∧ v_11.toInt = 1) ∨ ((p0.toInt < 0 ∨ (-1) < p0.toInt) ∧ v_11.toInt = 0) := by have h0 := w_13; have a1 := tI_0; have a2 := ez_10; omega
      have w_14 : v_11.toInt = 0 := by omega
      have B : Hp D A s.heap (MW ct ad u_2 ia R) H locs := B
      refine at_n (n := 38) (k1 := 0) (k2 := 0) rfl rfl rfl ?_
      refine b_eq (tgt := 51) E w_14 dX12_plan_38 (by decide) (fun c_15 => ?_) (fun c_15 => ?_)
      · skip
        refine lv_iconst (v := -1) E.1.1 E.1.2.1 dX12_plan_51 (by decide) ?_
        have r_16 : (-1 : Int32).toInt = -1 := tI_m1
        exact ret_I (u := _) E hr hlk rfl B (by omega) dX12_plan_52
      · exfalso; omega
    · skip
      refine lv_aload_n E.1.1 E.1.2.1 dX12_plan_21 rfl (lv_at hl 1 rfl) ?_
      refine lv_iload_n E.1.1 E.1.2.1 dX12_plan_22 rfl (lv_at hl 0 rfl) ?_
      refine call_VI (kn := 1) E B (m_12_daysBy l D ct tN ad u_2 ia R  v_5 h_4) (good_V mw_2220 mw_2222 ms_145 mw_12 mw_2223) 0 rfl rfl ⟨rfl, by decide +kernel⟩ rfl rfl rfl ⟨by decide, by decide⟩ rfl hl (Nat.le_of_ble_eq_true rfl) dX12_plan_23 ⟨Nat.le_of_ble_eq_true rfl, Nat.le_of_ble_eq_true rfl⟩ (fun v_17 u_18 H locs w_19 B => ?_)
      have w_19 : (0 = 0 ∧ v_17.toInt = 0) ∨ (¬ 0 = 0 ∧ v_17.toInt = -1) := by have h0 := w_19; have a0 := w_7; omega
      have w_20 : v_17.toInt = 0 := by omega
      have B : Hp D A s.heap (MW ct ad u_2 ia R) H locs := B
      refine at_n (n := 26) (k1 := 0) (k2 := 0) rfl rfl rfl ?_
      have r_21 : v_17.toInt = 0 := w_20
      exact ret_I (u := _) E hr hlk rfl B (by omega) dX12_plan_26
  · exfalso; omega
set_option maxHeartbeats 4000000 in
set_option maxRecDepth 100000 in
theorem m_12_judge (l : Launch) (D : va_G) (ct : Nat → ClassId) (tN : Nat) (ad : Nat → Nat) (iv : Nat → Int32) (ia : Nat → Nat → Int32) (R : va_W) (p0 : Int32) (h2 : (iv 2).toInt = 0) : MI l D (TY ct) tN yX12_judge cX12_judge 2 (some .int) ({ frames := 1, cells := 0, slots := 0, locals := 24 } : Room) [.ref (ad 0), .int p0] (MW ct ad iv ia R) (fun (v : Int32) (u : va_W) => (p0.toInt = 0 ∧ v.toInt = 0) ∨ (¬ p0.toInt = 0 ∧ v.toInt = -1)) (fun u => u) 0 0 := by
  intro sz
  refine Met.ofE (Qc := fun A => va_Qi (fun (v : Int32) (u : va_W) => (p0.toInt = 0 ∧ v.toInt = 0) ∨ (¬ p0.toInt = 0 ∧ v.toInt = -1)) (BW D A (fun u => u)) A) (by decide) (Nat.le_of_ble_eq_true rfl) ?_
  intro p e s m args below meth c A ls hsz E hr hlk hnm B hl
  have hl : lv_has ls 2 [(0, .ref (ad 0)), (1, .int p0)] := hl
  refine lv_iload_n E.1.1 E.1.2.1 dX12_judge_0 rfl (lv_at hl 1 rfl) ?_
  refine b_ge (tgt := 6) E rfl dX12_judge_1 (by decide) (fun c_1 => ?_) (fun c_1 => ?_)
  · skip
    refine lv_aload_n E.1.1 E.1.2.1 dX12_judge_6 rfl (lv_at hl 0 rfl) ?_
    refine call_VV (kn := 0) E B (m_12_lists l D ct tN ad iv ia R   h2) (good_V mw_2208 mw_2210 ms_142 mw_12 mw_2211) 0 rfl rfl ⟨rfl, by decide +kernel⟩ rfl rfl rfl ⟨by decide, by decide⟩ rfl hl (Nat.le_of_ble_eq_true rfl) dX12_judge_7 ⟨Nat.le_of_ble_eq_true rfl, Nat.le_of_ble_eq_true rfl⟩ (fun u_3 H locs w_4 B => ?_)
    have h_5 := w_4
    have h_5 : (u_3 28).toInt = 0 := h_5
    have B : Hp D A s.heap (MW ct ad u_3 ia R) H locs := B
    refine at_n (n := 10) (k1 := 0) (k2 := 0) rfl rfl rfl ?_
    refine lv_aload_n E.1.1 E.1.2.1 dX12_judge_10 rfl (lv_at hl 0 rfl) ?_
    refine lv_iload_n E.1.1 E.1.2.1 dX12_judge_11 rfl (lv_at hl 1 rfl) ?_
    refine call_VI (kn := 1) E B (m_12_daysBy l D ct tN ad u_3 ia R  p0 h_5) (good_V mw_2220 mw_2222 ms_145 mw_12 mw_2223) 0 rfl rfl ⟨rfl, by decide +kernel⟩ rfl rfl rfl ⟨by decide, by decide⟩ rfl hl (Nat.le_of_ble_eq_true rfl) dX12_judge_12 ⟨Nat.le_of_ble_eq_true rfl, Nat.le_of_ble_eq_true rfl⟩ (fun v_6 u_7 H locs w_8 B => ?_)
    have w_8 : (p0.toInt = 0 ∧ v_6.toInt = 0) ∨ (¬ p0.toInt = 0 ∧ v_6.toInt = -1) := w_8
    have B : Hp D A s.heap (MW ct ad u_3 ia R) H locs := B
    refine at_n (n := 15) (k1 := 0) (k2 := 0) rfl rfl rfl ?_
    have r_9 : v_6.toInt = v_6.toInt := rfl
    exact ret_I (u := _) E hr hlk rfl B (by omega) dX12_judge_15
  · skip
    refine lv_iconst (v := -1) E.1.1 E.1.2.1 dX12_judge_4 (by decide) ?_
    have r_10 : (-1 : Int32).toInt = -1 := tI_m1
    exact ret_I (u := _) E hr hlk rfl B (by omega) dX12_judge_5
set_option maxHeartbeats 4000000 in
set_option maxRecDepth 100000 in
theorem m_12_check (l : Launch) (D : va_G) (ct : Nat → ClassId) (tN : Nat) (ad : Nat → Nat) (iv : Nat → Int32) (ia : Nat → Nat → Int32) (R : va_W) (p0 : Int32) (h0 : (iv 0).toInt = 0) (h2 : (iv 2).toInt = 0) : MI l D (TY ct) tN yX12_check cX12_check 4 (some .int) ({ frames := 1, cells := 0, slots := 0, locals := 23 } : Room) [.ref (ad 0), .int p0] (MW ct ad iv ia R) (fun (v : Int32) (u : va_W) => (p0.toInt = 0 ∧ v.toInt = -1) ∨ (¬ p0.toInt = 0 ∧ v.toInt = -2)) (fun u => u) 0 0 := by
  intro sz
  refine Met.ofE (Qc := fun A => va_Qi (fun (v : Int32) (u : va_W) => (p0.toInt = 0 ∧ v.toInt = -1) ∨ (¬ p0.toInt = 0 ∧ v.toInt = -2)) (BW D A (fun u => u)) A) (by decide) (Nat.le_of_ble_eq_true rfl) ?_
  intro p e s m args below meth c A ls hsz E hr hlk hnm B hl
  have hl : lv_has ls 4 [(0, .ref (ad 0)), (1, .int p0)] := hl
  refine lv_iload_n E.1.1 E.1.2.1 dX12_check_0 rfl (lv_at hl 1 rfl) ?_
  refine lv_iconst (v := 0) E.1.1 E.1.2.1 dX12_check_1 (by decide) ?_
  refine lv_bipush (v := 60) E.1.1 E.1.2.1 dX12_check_2 (by decide) ?_
  refine call_SI (kn := 3) E B (m_12_lies l D ct tN ad iv ia R  p0 ((0 : Int32)) ((60 : Int32)) ) (good_S mw_1769 mw_1770 mw_12 mw_1771) (by decide +kernel) rfl rfl rfl ⟨by decide, by decide⟩ rfl hl (Nat.le_of_ble_eq_true rfl) dX12_check_4 ⟨Nat.le_of_ble_eq_true rfl, Nat.le_of_ble_eq_true rfl⟩ (fun v_1 u_2 H locs w_3 B => ?_)
  have w_3 : (0 ≤ p0.toInt ∧ p0.toInt ≤ 60 ∧ v_1.toInt = 1) ∨ ((p0.toInt < 0 ∨ 60 < p0.toInt) ∧ v_1.toInt = 0) := by have h0 := w_3; have a1 := tI_0; have a2 := tI_60; omega
  have B : Hp D A s.heap (MW ct ad iv ia R) H locs := B
  refine at_n (n := 7) (k1 := 0) (k2 := 0) rfl rfl rfl ?_
  refine b_eq (tgt := 20) E rfl dX12_check_7 (by decide) (fun c_4 => ?_) (fun c_4 => ?_)
  · skip
    refine lv_bipush (v := -2) E.1.1 E.1.2.1 dX12_check_20 (by decide) ?_
    have r_5 : (-2 : Int32).toInt = -2 := tI_m2
    exact ret_I (u := _) E hr hlk rfl B (by omega) dX12_check_22
  · skip
    refine lv_iconst (v := 2) E.1.1 E.1.2.1 dX12_check_10 (by decide) ?_
    refine lv_iload_n E.1.1 E.1.2.1 dX12_check_11 rfl (lv_at hl 1 rfl) ?_
    refine i_mul (z0 := 2 * p0.toInt) E tI_2 rfl (by omega) (by omega) (by omega) dX12_check_12 (fun z_6 ez_6 => ?_)
    have ez_6 : z_6.toInt = 2 * p0.toInt := by omega
    refine lv_aload_n E.1.1 E.1.2.1 dX12_check_13 rfl (lv_at hl 0 rfl) ?_
    refine row_get (v := .int (iv 0)) E B iX12 rfl 1 (by decide) mw_1477 0 rfl rfl dX12_check_14 ?_
    refine c_le (tgt := 23) E ez_6 h0 dX12_check_17 (by decide) (fun c_7 => ?_) (fun c_7 => ?_)
    · skip
      refine lv_aload_n E.1.1 E.1.2.1 dX12_check_23 rfl (lv_at hl 0 rfl) ?_
      refine lv_iconst (v := 0) E.1.1 E.1.2.1 dX12_check_24 (by decide) ?_
      refine row_put E B iX12 rfl tyX12 tyX12_ok nmX12 1 (by decide) mw_1477 rfl 0 rfl rfl rfl (Nat.le_of_ble_eq_true rfl) dX12_check_25 (fun H locs B => ?_)
      have B := Hp.eq (sm_iv_0 ct ad iv ia R ((0 : Int32))) B
      have h_9 : ((va_up iv 0 (0 : Int32)) 2).toInt = 0 := h2
      have h_10 : ((va_up iv 0 (0 : Int32)) 0).toInt = 0 := tI_0
      generalize va_up iv 0 (0 : Int32) = iv_8 at B h_9 h_10
      refine lv_iconst (v := 0) E.1.1 E.1.2.1 dX12_check_28 (by decide) ?_
      refine lv_istore_n (lv' := [(2, .int (0 : Int32)), (0, .ref (ad 0)), (1, .int p0)]) E.1.1 E.1.2.1 dX12_check_29 rfl hl (by decide) rfl (fun ls hl => ?_)
      refine lv_iload_n E.1.1 E.1.2.1 dX12_check_30 rfl (lv_at hl 0 rfl) ?_
      refine at_pc (n := 31) rfl ?_
      refine lv_iload_n E.1.1 E.1.2.1 dX12_check_31 rfl (lv_at hl 2 rfl) ?_
      refine c_ge (tgt := 100) E tI_0 rfl dX12_check_32 (by decide) (fun c_11 => ?_) (fun c_11 => ?_)
      · skip
        refine lv_aload_n E.1.1 E.1.2.1 dX12_check_100 rfl (lv_at hl 1 rfl) ?_
        refine lv_iload_n E.1.1 E.1.2.1 dX12_check_101 rfl (lv_at hl 2 rfl) ?_
        refine call_VI (kn := 1) E B (m_12_fixedVerse l D ct tN ad iv_8 ia R  p0 h_9) (good_V mw_2235 mw_2237 ms_146 mw_12 mw_2238) 0 rfl rfl ⟨rfl, by decide +kernel⟩ rfl rfl rfl ⟨by decide, by decide⟩ rfl hl (Nat.le_of_ble_eq_true rfl) dX12_check_102 ⟨Nat.le_of_ble_eq_true rfl, Nat.le_of_ble_eq_true rfl⟩ (fun v_12 u_13 H locs w_14 B => ?_)
        have w_14 : v_12.toInt = -1 := w_14
        have B : Hp D A s.heap (MW ct ad iv_8 ia R) H locs := B
        refine at_n (n := 105) (k1 := 0) (k2 := 0) rfl rfl rfl ?_
        refine lv_iconst (v := -1) E.1.1 E.1.2.1 dX12_check_105 (by decide) ?_
        refine c_ne (tgt := 113) E w_14 tI_m1 dX12_check_106 (by decide) (fun c_15 => ?_) (fun c_15 => ?_)
        · exfalso; omega
        · skip
          refine lv_iconst (v := -1) E.1.1 E.1.2.1 dX12_check_109 (by decide) ?_
          refine lv_goto (tgt := 116) E.1.1 E.1.2.1 dX12_check_110 (by decide) ?_
          have r_16 : (-1 : Int32).toInt = -1 := tI_m1
          exact ret_I (u := _) E hr hlk rfl B (by omega) dX12_check_116
      · exfalso; omega
    · skip
      refine lv_bipush (v := -2) E.1.1 E.1.2.1 dX12_check_20 (by decide) ?_
      have r_17 : (-2 : Int32).toInt = -2 := tI_m2
      exact ret_I (u := _) E hr hlk rfl B (by omega) dX12_check_22
set_option maxHeartbeats 4000000 in
set_option maxRecDepth 100000 in
theorem m_12_look (l : Launch) (D : va_G) (ct : Nat → ClassId) (tN : Nat) (ad : Nat → Nat) (iv : Nat → Int32) (ia : Nat → Nat → Int32) (R : va_W) (p0 : Int32) (p1 : Int32) (h7 : (iv 7).toInt = 0) : MI l D (TY ct) tN yX12_look cX12_look 3 (some .int) ({ frames := 2, cells := 0, slots := 0, locals := 43 } : Room) [.ref (ad 0), .int p0, .int p1] (MW ct ad iv ia R) (fun (v : Int32) (u : va_W) => v.toInt = -1) (fun u => u) 0 0 := by
  intro sz
  refine Met.ofE (Qc := fun A => va_Qi (fun (v : Int32) (u : va_W) => v.toInt = -1) (BW D A (fun u => u)) A) (by decide) (Nat.le_of_ble_eq_true rfl) ?_
  intro p e s m args below meth c A ls hsz E hr hlk hnm B hl
  have hl : lv_has ls 3 [(0, .ref (ad 0)), (1, .int p0), (2, .int p1)] := hl
  refine lv_aload_n E.1.1 E.1.2.1 dX12_look_0 rfl (lv_at hl 0 rfl) ?_
  refine lv_iload_n E.1.1 E.1.2.1 dX12_look_1 rfl (lv_at hl 1 rfl) ?_
  refine call_VI (kn := 1) E B (m_12_isRendering l D ct tN ad iv ia R  p0 h7) (good_V mw_2022 mw_2024 ms_115 mw_12 mw_2025) 0 rfl rfl ⟨rfl, by decide +kernel⟩ rfl rfl rfl ⟨by decide, by decide⟩ rfl hl (Nat.le_of_ble_eq_true rfl) dX12_look_2 ⟨Nat.le_of_ble_eq_true rfl, Nat.le_of_ble_eq_true rfl⟩ (fun v_1 u_2 H locs w_3 B => ?_)
  have w_3 : v_1.toInt = 0 := w_3
  have B : Hp D A s.heap (MW ct ad iv ia R) H locs := B
  refine at_n (n := 5) (k1 := 0) (k2 := 0) rfl rfl rfl ?_
  refine b_ne (tgt := 10) E w_3 dX12_look_5 (by decide) (fun c_4 => ?_) (fun c_4 => ?_)
  · exfalso; omega
  · skip
    refine lv_iconst (v := -1) E.1.1 E.1.2.1 dX12_look_8 (by decide) ?_
    have r_5 : (-1 : Int32).toInt = -1 := tI_m1
    exact ret_I (u := _) E hr hlk rfl B (by omega) dX12_look_9
set_option maxHeartbeats 4000000 in
set_option maxRecDepth 100000 in
theorem m_12_count (l : Launch) (D : va_G) (ct : Nat → ClassId) (tN : Nat) (ad : Nat → Nat) (iv : Nat → Int32) (ia : Nat → Nat → Int32) (R : va_W) (p0 : Int32) (h0 : (iv 0).toInt = 0) (h1 : (iv 1).toInt = 0) (h2 : (iv 2).toInt = 0) (h3 : (iv 3).toInt = 0) (h4 : (iv 4).toInt = 0) (h5 : (iv 5).toInt = 0) (h6 : (iv 6).toInt = 0) (h7 : (iv 7).toInt = 0) (h26 : (iv 26).toInt = 0) : MI l D (TY ct) tN yX12_count cX12_count 4 (some .int) ({ frames := 1, cells := 0, slots := 0, locals := 28 } : Room) [.ref (ad 0), .int p0] (MW ct ad iv ia R) (fun (v : Int32) (u : va_W) => (((0 ≤ p0.toInt ∧ p0.toInt ≤ 10) ∨ (20 ≤ p0.toInt ∧ p0.toInt ≤ 24)) ∧ v.toInt = 0) ∨ (¬ ((0 ≤ p0.toInt ∧ p0.toInt ≤ 10) ∨ (20 ≤ p0.toInt ∧ p0.toInt ≤ 24)) ∧ v.toInt = -1)) (fun u => u) 0 0 := by
  intro sz
  refine Met.ofE (Qc := fun A => va_Qi (fun (v : Int32) (u : va_W) => (((0 ≤ p0.toInt ∧ p0.toInt ≤ 10) ∨ (20 ≤ p0.toInt ∧ p0.toInt ≤ 24)) ∧ v.toInt = 0) ∨ (¬ ((0 ≤ p0.toInt ∧ p0.toInt ≤ 10) ∨ (20 ≤ p0.toInt ∧ p0.toInt ≤ 24)) ∧ v.toInt = -1)) (BW D A (fun u => u)) A) (by decide) (Nat.le_of_ble_eq_true rfl) ?_
  intro p e s m args below meth c A ls hsz E hr hlk hnm B hl
  have hl : lv_has ls 4 [(0, .ref (ad 0)), (1, .int p0)] := hl
  refine lv_iconst (v := 0) E.1.1 E.1.2.1 dX12_count_0 (by decide) ?_
  refine lv_istore_n (lv' := [(2, .int (0 : Int32)), (0, .ref (ad 0)), (1, .int p0)]) E.1.1 E.1.2.1 dX12_count_1 rfl hl (by decide) rfl (fun ls hl => ?_)
  refine lv_iload_n E.1.1 E.1.2.1 dX12_count_2 rfl (lv_at hl 2 rfl) ?_
  refine lv_bipush (v := 20) E.1.1 E.1.2.1 dX12_count_3 (by decide) ?_
  refine lv_bipush (v := 24) E.1.1 E.1.2.1 dX12_count_5 (by decide) ?_
  refine call_SI (kn := 3) E B (m_12_lies l D ct tN ad iv ia R  p0 ((20 : Int32)) ((24 : Int32)) ) (good_S mw_1769 mw_1770 mw_12 mw_1771) (by decide +kernel) rfl rfl rfl ⟨by decide, by decide⟩ rfl hl (Nat.le_of_ble_eq_true rfl) dX12_count_7 ⟨Nat.le_of_ble_eq_true rfl, Nat.le_of_ble_eq_true rfl⟩ (fun v_1 u_2 H locs w_3 B => ?_)
  have w_3 : (20 ≤ p0.toInt ∧ p0.toInt ≤ 24 ∧ v_1.toInt = 1) ∨ ((p0.toInt < 20 ∨ 24 < p0.toInt) ∧ v_1.toInt = 0) := by have h0 := w_3; have a1 := tI_20; have a2 := tI_24; omega
  have B : Hp D A s.heap (MW ct ad iv ia R) H locs := B
  refine at_n (n := 10) (k1 := 0) (k2 := 0) rfl rfl rfl ?_
  refine b_eq (tgt := 52) E rfl dX12_count_10 (by decide) (fun c_4 => ?_) (fun c_4 => ?_)
  · skip
    refine lv_iload_n E.1.1 E.1.2.1 dX12_count_52 rfl (lv_at hl 2 rfl) ?_
    have xc_5 : p0.toInt = p0.toInt := rfl
    rcases (show (p0.toInt < 0 ∨ 10 < p0.toInt) ∨ (p0.toInt = 0 ∨ p0.toInt = 1 ∨ p0.toInt = 2 ∨ p0.toInt = 3 ∨ p0.toInt = 4 ∨ p0.toInt = 5 ∨ p0.toInt = 6 ∨ p0.toInt = 7 ∨ p0.toInt = 8 ∨ p0.toInt = 9 ∨ p0.toInt = 10) by omega) with c_5 | c_5 | c_5 | c_5 | c_5 | c_5 | c_5 | c_5 | c_5 | c_5 | c_5 | c_5
    · refine lv_tableOut (tgt := 198) E.1.1 E.1.2.1 dX12_count_53 (by omega) (by decide) ?_
      refine lv_iconst (v := -1) E.1.1 E.1.2.1 dX12_count_198 (by decide) ?_
      have r_6 : (-1 : Int32).toInt = -1 := tI_m1
      exact ret_I (u := _) E hr hlk rfl B (by omega) dX12_count_199
    · refine lv_tableIn (off := 59) (tgt := 112) E.1.1 E.1.2.1 dX12_count_53 (by omega) (by omega) (by rw [xc_5, c_5]; rfl) (by decide) ?_
      refine lv_aload_n E.1.1 E.1.2.1 dX12_count_112 rfl (lv_at hl 1 rfl) ?_
      refine row_get (v := .int (iv 1)) E B iX12 rfl 2 (by decide) mw_1478 0 rfl rfl dX12_count_113 ?_
      have r_7 : (iv 1).toInt = 0 := h1
      exact ret_I (u := _) E hr hlk rfl B (by omega) dX12_count_116
    · refine lv_tableIn (off := 64) (tgt := 117) E.1.1 E.1.2.1 dX12_count_53 (by omega) (by omega) (by rw [xc_5, c_5]; rfl) (by decide) ?_
      refine lv_aload_n E.1.1 E.1.2.1 dX12_count_117 rfl (lv_at hl 1 rfl) ?_
      refine row_get (v := .int (iv 2)) E B iX12 rfl 3 (by decide) mw_1479 0 rfl rfl dX12_count_118 ?_
      have r_8 : (iv 2).toInt = 0 := h2
      exact ret_I (u := _) E hr hlk rfl B (by omega) dX12_count_121
    · refine lv_tableIn (off := 69) (tgt := 122) E.1.1 E.1.2.1 dX12_count_53 (by omega) (by omega) (by rw [xc_5, c_5]; rfl) (by decide) ?_
      refine lv_aload_n E.1.1 E.1.2.1 dX12_count_122 rfl (lv_at hl 1 rfl) ?_
      refine row_get (v := .int (iv 3)) E B iX12 rfl 4 (by decide) mw_1480 0 rfl rfl dX12_count_123 ?_
      have r_9 : (iv 3).toInt = 0 := h3
      exact ret_I (u := _) E hr hlk rfl B (by omega) dX12_count_126
    · refine lv_tableIn (off := 74) (tgt := 127) E.1.1 E.1.2.1 dX12_count_53 (by omega) (by omega) (by rw [xc_5, c_5]; rfl) (by decide) ?_
      refine lv_aload_n E.1.1 E.1.2.1 dX12_count_127 rfl (lv_at hl 1 rfl) ?_
      refine row_get (v := .int (iv 4)) E B iX12 rfl 5 (by decide) mw_1481 0 rfl rfl dX12_count_128 ?_
      have r_10 : (iv 4).toInt = 0 := h4
      exact ret_I (u := _) E hr hlk rfl B (by omega) dX12_count_131
    · refine lv_tableIn (off := 79) (tgt := 132) E.1.1 E.1.2.1 dX12_count_53 (by omega) (by omega) (by rw [xc_5, c_5]; rfl) (by decide) ?_
      refine lv_aload_n E.1.1 E.1.2.1 dX12_count_132 rfl (lv_at hl 1 rfl) ?_
      refine row_get (v := .int (iv 5)) E B iX12 rfl 6 (by decide) mw_1482 0 rfl rfl dX12_count_133 ?_
      have r_11 : (iv 5).toInt = 0 := h5
      exact ret_I (u := _) E hr hlk rfl B (by omega) dX12_count_136
    · refine lv_tableIn (off := 84) (tgt := 137) E.1.1 E.1.2.1 dX12_count_53 (by omega) (by omega) (by rw [xc_5, c_5]; rfl) (by decide) ?_
      refine lv_aload_n E.1.1 E.1.2.1 dX12_count_137 rfl (lv_at hl 1 rfl) ?_
      refine row_get (v := .int (iv 6)) E B iX12 rfl 7 (by decide) mw_1483 0 rfl rfl dX12_count_138 ?_
      have r_12 : (iv 6).toInt = 0 := h6
      exact ret_I (u := _) E hr hlk rfl B (by omega) dX12_count_141
    · refine lv_tableIn (off := 89) (tgt := 142) E.1.1 E.1.2.1 dX12_count_53 (by omega) (by omega) (by rw [xc_5, c_5]; rfl) (by decide) ?_
      refine lv_aload_n E.1.1 E.1.2.1 dX12_count_142 rfl (lv_at hl 1 rfl) ?_
      refine row_get (v := .int (iv 7)) E B iX12 rfl 8 (by decide) mw_1484 0 rfl rfl dX12_count_143 ?_
      have r_13 : (iv 7).toInt = 0 := h7
      exact ret_I (u := _) E hr hlk rfl B (by omega) dX12_count_146
    · refine lv_tableIn (off := 94) (tgt := 147) E.1.1 E.1.2.1 dX12_count_53 (by omega) (by omega) (by rw [xc_5, c_5]; rfl) (by decide) ?_
      refine lv_aload_n E.1.1 E.1.2.1 dX12_count_147 rfl (lv_at hl 1 rfl) ?_
      refine row_get (v := .int (iv 0)) E B iX12 rfl 1 (by decide) mw_1477 0 rfl rfl dX12_count_148 ?_
      have r_14 : (iv 0).toInt = 0 := h0
      exact ret_I (u := _) E hr hlk rfl B (by omega) dX12_count_151
    · refine lv_tableIn (off := 99) (tgt := 152) E.1.1 E.1.2.1 dX12_count_53 (by omega) (by omega) (by rw [xc_5, c_5]; rfl) (by decide) ?_
      refine lv_aload_n E.1.1 E.1.2.1 dX12_count_152 rfl (lv_at hl 1 rfl) ?_
      refine row_get (v := .int (iv 26)) E B iX12 rfl 80 (by decide) mw_1556 0 rfl rfl dX12_count_153 ?_
      have r_15 : (iv 26).toInt = 0 := h26
      exact ret_I (u := _) E hr hlk rfl B (by omega) dX12_count_156
    · refine lv_tableIn (off := 104) (tgt := 157) E.1.1 E.1.2.1 dX12_count_53 (by omega) (by omega) (by rw [xc_5, c_5]; rfl) (by decide) ?_
      refine lv_iconst (v := 0) E.1.1 E.1.2.1 dX12_count_157 (by decide) ?_
      refine lv_istore_n (lv' := [(3, .int (0 : Int32)), (2, .int (0 : Int32)), (0, .ref (ad 0)), (1, .int p0)]) E.1.1 E.1.2.1 dX12_count_158 rfl hl (by decide) rfl (fun ls hl => ?_)
      refine lv_iload_n E.1.1 E.1.2.1 dX12_count_159 rfl (lv_at hl 0 rfl) ?_
      refine lv_aload_n E.1.1 E.1.2.1 dX12_count_160 rfl (lv_at hl 2 rfl) ?_
      refine row_get (v := .int (iv 2)) E B iX12 rfl 3 (by decide) mw_1479 0 rfl rfl dX12_count_161 ?_
      refine c_ge (tgt := 190) E tI_0 h2 dX12_count_164 (by decide) (fun c_16 => ?_) (fun c_16 => ?_)
      · skip
        refine lv_iload_n E.1.1 E.1.2.1 dX12_count_190 rfl (lv_at hl 1 rfl) ?_
        have r_17 : (0 : Int32).toInt = 0 := tI_0
        exact ret_I (u := _) E hr hlk rfl B (by omega) dX12_count_191
      · exfalso; omega
    · refine lv_tableIn (off := 139) (tgt := 192) E.1.1 E.1.2.1 dX12_count_53 (by omega) (by omega) (by rw [xc_5, c_5]; rfl) (by decide) ?_
      refine lv_aload_n E.1.1 E.1.2.1 dX12_count_192 rfl (lv_at hl 1 rfl) ?_
      refine lv_iconst (v := -1) E.1.1 E.1.2.1 dX12_count_193 (by decide) ?_
      refine call_VI (kn := 1) E B (m_12_unlikes l D ct tN ad iv ia R  ((-1 : Int32)) h2) (good_V mw_2106 mw_2108 ms_128 mw_12 mw_2109) 0 rfl rfl ⟨rfl, by decide +kernel⟩ rfl rfl rfl ⟨by decide, by decide⟩ rfl hl (Nat.le_of_ble_eq_true rfl) dX12_count_194 ⟨Nat.le_of_ble_eq_true rfl, Nat.le_of_ble_eq_true rfl⟩ (fun v_18 u_19 H locs w_20 B => ?_)
      have w_20 : v_18.toInt = 0 := w_20
      have B : Hp D A s.heap (MW ct ad iv ia R) H locs := B
      refine at_n (n := 197) (k1 := 0) (k2 := 0) rfl rfl rfl ?_
      have r_21 : v_18.toInt = 0 := w_20
      exact ret_I (u := _) E hr hlk rfl B (by omega) dX12_count_197
  · skip
    refine lv_iconst (v := 0) E.1.1 E.1.2.1 dX12_count_13 (by decide) ?_
    refine lv_istore_n (lv' := [(3, .int (0 : Int32)), (2, .int (0 : Int32)), (0, .ref (ad 0)), (1, .int p0)]) E.1.1 E.1.2.1 dX12_count_14 rfl hl (by decide) rfl (fun ls hl => ?_)
    refine lv_iload_n E.1.1 E.1.2.1 dX12_count_15 rfl (lv_at hl 0 rfl) ?_
    refine lv_aload_n E.1.1 E.1.2.1 dX12_count_16 rfl (lv_at hl 2 rfl) ?_
    refine row_get (v := .int (iv 7)) E B iX12 rfl 8 (by decide) mw_1484 0 rfl rfl dX12_count_17 ?_
    refine c_ge (tgt := 50) E tI_0 h7 dX12_count_20 (by decide) (fun c_22 => ?_) (fun c_22 => ?_)
    · skip
      refine lv_iload_n E.1.1 E.1.2.1 dX12_count_50 rfl (lv_at hl 1 rfl) ?_
      have r_23 : (0 : Int32).toInt = 0 := tI_0
      exact ret_I (u := _) E hr hlk rfl B (by omega) dX12_count_51
    · exfalso; omega
