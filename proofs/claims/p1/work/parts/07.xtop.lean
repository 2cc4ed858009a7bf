theorem dX11_apart_0 : decode cX11_apart 0 = .ok (.iload_n 1, 1) := by decide +kernel
theorem dX11_apart_1 : decode cX11_apart 1 = .ok (.invokestatic 311, 3) := by decide +kernel
theorem dX11_apart_4 : decode cX11_apart 4 = .ok (.ifCond .eq 31, 3) := by decide +kernel
theorem dX11_apart_7 : decode cX11_apart 7 = .ok (.iload_n 2, 1) := by decide +kernel
theorem dX11_apart_8 : decode cX11_apart 8 = .ok (.invokestatic 311, 3) := by decide +kernel
theorem dX11_apart_11 : decode cX11_apart 11 = .ok (.ifCond .eq 24, 3) := by decide +kernel
theorem dX11_apart_14 : decode cX11_apart 14 = .ok (.iload_n 1, 1) := by decide +kernel
theorem dX11_apart_15 : decode cX11_apart 15 = .ok (.iload_n 2, 1) := by decide +kernel
theorem dX11_apart_16 : decode cX11_apart 16 = .ok (.if_icmp .eq 19, 3) := by decide +kernel
theorem dX11_apart_19 : decode cX11_apart 19 = .ok (.aload_n 0, 1) := by decide +kernel
theorem dX11_apart_20 : decode cX11_apart 20 = .ok (.getfield 81, 3) := by decide +kernel
theorem dX11_apart_23 : decode cX11_apart 23 = .ok (.iload_n 1, 1) := by decide +kernel
theorem dX11_apart_24 : decode cX11_apart 24 = .ok (.iload_n 2, 1) := by decide +kernel
theorem dX11_apart_25 : decode cX11_apart 25 = .ok (.invokevirtual 316, 3) := by decide +kernel
theorem dX11_apart_28 : decode cX11_apart 28 = .ok (.ifCond .eq 7, 3) := by decide +kernel
theorem dX11_apart_31 : decode cX11_apart 31 = .ok (.iconst 1, 1) := by decide +kernel
theorem dX11_apart_32 : decode cX11_apart 32 = .ok (.goto 4, 3) := by decide +kernel
theorem dX11_apart_35 : decode cX11_apart 35 = .ok (.iconst 0, 1) := by decide +kernel
theorem dX11_apart_36 : decode cX11_apart 36 = .ok (.ireturn, 1) := by decide +kernel
theorem dX11_asks_0 : decode cX11_asks 0 = .ok (.aload_n 0, 1) := by decide +kernel
theorem dX11_asks_1 : decode cX11_asks 1 = .ok (.getfield 26, 3) := by decide +kernel
theorem dX11_asks_4 : decode cX11_asks 4 = .ok (.iload_n 1, 1) := by decide +kernel
theorem dX11_asks_5 : decode cX11_asks 5 = .ok (.invokevirtual 113, 3) := by decide +kernel
theorem dX11_asks_8 : decode cX11_asks 8 = .ok (.ifCond .eq 10, 3) := by decide +kernel
theorem dX11_asks_18 : decode cX11_asks 18 = .ok (.iconst (-1), 1) := by decide +kernel
theorem dX11_asks_19 : decode cX11_asks 19 = .ok (.ireturn, 1) := by decide +kernel
theorem dX11_breach_0 : decode cX11_breach 0 = .ok (.aload_n 0, 1) := by decide +kernel
theorem dX11_breach_1 : decode cX11_breach 1 = .ok (.getfield 47, 3) := by decide +kernel
theorem dX11_breach_4 : decode cX11_breach 4 = .ok (.iload_n 1, 1) := by decide +kernel
theorem dX11_breach_5 : decode cX11_breach 5 = .ok (.invokevirtual 240, 3) := by decide +kernel
theorem dX11_breach_8 : decode cX11_breach 8 = .ok (.astore 4, 2) := by decide +kernel
theorem dX11_breach_10 : decode cX11_breach 10 = .ok (.aload 4, 2) := by decide +kernel
theorem dX11_breach_12 : decode cX11_breach 12 = .ok (.ifnull 16, 3) := by decide +kernel
theorem dX11_breach_28 : decode cX11_breach 28 = .ok (.iconst (-1), 1) := by decide +kernel
theorem dX11_breach_29 : decode cX11_breach 29 = .ok (.ireturn, 1) := by decide +kernel
theorem dX11_breaches_0 : decode cX11_breaches 0 = .ok (.aload_n 0, 1) := by decide +kernel
theorem dX11_breaches_1 : decode cX11_breaches 1 = .ok (.getfield 47, 3) := by decide +kernel
theorem dX11_breaches_4 : decode cX11_breaches 4 = .ok (.iload_n 1, 1) := by decide +kernel
theorem dX11_breaches_5 : decode cX11_breaches 5 = .ok (.invokevirtual 240, 3) := by decide +kernel
theorem dX11_breaches_8 : decode cX11_breaches 8 = .ok (.astore_n 2, 1) := by decide +kernel
theorem dX11_breaches_9 : decode cX11_breaches 9 = .ok (.aload_n 2, 1) := by decide +kernel
theorem dX11_breaches_10 : decode cX11_breaches 10 = .ok (.ifnonnull 5, 3) := by decide +kernel
theorem dX11_breaches_13 : decode cX11_breaches 13 = .ok (.iconst (-1), 1) := by decide +kernel
theorem dX11_breaches_14 : decode cX11_breaches 14 = .ok (.ireturn, 1) := by decide +kernel
theorem dX11_centre_0 : decode cX11_centre 0 = .ok (.iload_n 1, 1) := by decide +kernel
theorem dX11_centre_1 : decode cX11_centre 1 = .ok (.invokestatic 147, 3) := by decide +kernel
theorem dX11_centre_4 : decode cX11_centre 4 = .ok (.ifCond .ne 5, 3) := by decide +kernel
theorem dX11_centre_7 : decode cX11_centre 7 = .ok (.iconst 0, 1) := by decide +kernel
theorem dX11_centre_8 : decode cX11_centre 8 = .ok (.ireturn, 1) := by decide +kernel
theorem dX11_centre_9 : decode cX11_centre 9 = .ok (.aload_n 0, 1) := by decide +kernel
theorem dX11_centre_10 : decode cX11_centre 10 = .ok (.getfield 33, 3) := by decide +kernel
theorem dX11_centre_13 : decode cX11_centre 13 = .ok (.iload_n 1, 1) := by decide +kernel
theorem dX11_centre_14 : decode cX11_centre 14 = .ok (.invokevirtual 153, 3) := by decide +kernel
theorem dX11_centre_17 : decode cX11_centre 17 = .ok (.iconst 1, 1) := by decide +kernel
theorem dX11_centre_18 : decode cX11_centre 18 = .ok (.ireturn, 1) := by decide +kernel
theorem dX11_changes_0 : decode cX11_changes 0 = .ok (.aload_n 0, 1) := by decide +kernel
theorem dX11_changes_1 : decode cX11_changes 1 = .ok (.getfield 26, 3) := by decide +kernel
theorem dX11_changes_4 : decode cX11_changes 4 = .ok (.iload_n 1, 1) := by decide +kernel
theorem dX11_changes_5 : decode cX11_changes 5 = .ok (.invokevirtual 113, 3) := by decide +kernel
theorem dX11_changes_8 : decode cX11_changes 8 = .ok (.ifCond .eq 19, 3) := by decide +kernel
theorem dX11_changes_27 : decode cX11_changes 27 = .ok (.iconst (-1), 1) := by decide +kernel
theorem dX11_changes_28 : decode cX11_changes 28 = .ok (.ireturn, 1) := by decide +kernel
theorem dX11_check_0 : decode cX11_check 0 = .ok (.iload_n 1, 1) := by decide +kernel
theorem dX11_check_1 : decode cX11_check 1 = .ok (.ifCond .lt 19, 3) := by decide +kernel
theorem dX11_check_4 : decode cX11_check 4 = .ok (.iload_n 1, 1) := by decide +kernel
theorem dX11_check_5 : decode cX11_check 5 = .ok (.bipush 60, 2) := by decide +kernel
theorem dX11_check_7 : decode cX11_check 7 = .ok (.if_icmp .gt 13, 3) := by decide +kernel
theorem dX11_check_10 : decode cX11_check 10 = .ok (.iconst 2, 1) := by decide +kernel
theorem dX11_check_11 : decode cX11_check 11 = .ok (.iload_n 1, 1) := by decide +kernel
theorem dX11_check_12 : decode cX11_check 12 = .ok (.imul, 1) := by decide +kernel
theorem dX11_check_13 : decode cX11_check 13 = .ok (.aload_n 0, 1) := by decide +kernel
theorem dX11_check_14 : decode cX11_check 14 = .ok (.getfield 102, 3) := by decide +kernel
theorem dX11_check_17 : decode cX11_check 17 = .ok (.if_icmp .le 6, 3) := by decide +kernel
theorem dX11_check_20 : decode cX11_check 20 = .ok (.bipush (-2), 2) := by decide +kernel
theorem dX11_check_22 : decode cX11_check 22 = .ok (.ireturn, 1) := by decide +kernel
theorem dX11_check_23 : decode cX11_check 23 = .ok (.aload_n 0, 1) := by decide +kernel
theorem dX11_check_24 : decode cX11_check 24 = .ok (.iconst 0, 1) := by decide +kernel
theorem dX11_check_25 : decode cX11_check 25 = .ok (.putfield 102, 3) := by decide +kernel
theorem dX11_check_28 : decode cX11_check 28 = .ok (.aload_n 0, 1) := by decide +kernel
theorem dX11_check_29 : decode cX11_check 29 = .ok (.iconst 2, 1) := by decide +kernel
theorem dX11_check_30 : decode cX11_check 30 = .ok (.iload_n 1, 1) := by decide +kernel
theorem dX11_check_31 : decode cX11_check 31 = .ok (.imul, 1) := by decide +kernel
theorem dX11_check_32 : decode cX11_check 32 = .ok (.invokevirtual 379, 3) := by decide +kernel
theorem dX11_check_35 : decode cX11_check 35 = .ok (.ireturn, 1) := by decide +kernel
theorem dX11_close_0 : decode cX11_close 0 = .ok (.aload_n 0, 1) := by decide +kernel
theorem dX11_close_1 : decode cX11_close 1 = .ok (.getfield 47, 3) := by decide +kernel
theorem dX11_close_4 : decode cX11_close 4 = .ok (.iload_n 1, 1) := by decide +kernel
theorem dX11_close_5 : decode cX11_close 5 = .ok (.invokevirtual 240, 3) := by decide +kernel
theorem dX11_close_8 : decode cX11_close 8 = .ok (.astore_n 2, 1) := by decide +kernel
theorem dX11_close_9 : decode cX11_close 9 = .ok (.aload_n 2, 1) := by decide +kernel
theorem dX11_close_10 : decode cX11_close 10 = .ok (.ifnull 10, 3) := by decide +kernel
theorem dX11_close_20 : decode cX11_close 20 = .ok (.iconst (-1), 1) := by decide +kernel
theorem dX11_close_21 : decode cX11_close 21 = .ok (.ireturn, 1) := by decide +kernel
theorem dX11_company_0 : decode cX11_company 0 = .ok (.iload_n 1, 1) := by decide +kernel
theorem dX11_company_1 : decode cX11_company 1 = .ok (.ifCond .lt 17, 3) := by decide +kernel
theorem dX11_company_4 : decode cX11_company 4 = .ok (.iload_n 1, 1) := by decide +kernel
theorem dX11_company_5 : decode cX11_company 5 = .ok (.sipush 255, 3) := by decide +kernel
theorem dX11_company_8 : decode cX11_company 8 = .ok (.if_icmp .gt 10, 3) := by decide +kernel
theorem dX11_company_11 : decode cX11_company 11 = .ok (.iload_n 2, 1) := by decide +kernel
theorem dX11_company_12 : decode cX11_company 12 = .ok (.invokestatic 147, 3) := by decide +kernel
theorem dX11_company_15 : decode cX11_company 15 = .ok (.ifCond .ne 5, 3) := by decide +kernel
theorem dX11_company_18 : decode cX11_company 18 = .ok (.iconst (-1), 1) := by decide +kernel
theorem dX11_company_19 : decode cX11_company 19 = .ok (.ireturn, 1) := by decide +kernel
theorem dX11_company_20 : decode cX11_company 20 = .ok (.aload_n 0, 1) := by decide +kernel
theorem dX11_company_21 : decode cX11_company 21 = .ok (.getfield 33, 3) := by decide +kernel
theorem dX11_company_24 : decode cX11_company 24 = .ok (.iload_n 1, 1) := by decide +kernel
theorem dX11_company_25 : decode cX11_company 25 = .ok (.iload_n 2, 1) := by decide +kernel
theorem dX11_company_26 : decode cX11_company 26 = .ok (.invokevirtual 150, 3) := by decide +kernel
theorem dX11_company_29 : decode cX11_company 29 = .ok (.ireturn, 1) := by decide +kernel
theorem dX11_cost_0 : decode cX11_cost 0 = .ok (.aload_n 0, 1) := by decide +kernel
theorem dX11_cost_1 : decode cX11_cost 1 = .ok (.getfield 81, 3) := by decide +kernel
theorem dX11_cost_4 : decode cX11_cost 4 = .ok (.iload_n 1, 1) := by decide +kernel
theorem dX11_cost_5 : decode cX11_cost 5 = .ok (.invokevirtual 319, 3) := by decide +kernel
theorem dX11_cost_8 : decode cX11_cost 8 = .ok (.ifCond .ne 5, 3) := by decide +kernel
theorem dX11_cost_11 : decode cX11_cost 11 = .ok (.iconst (-1), 1) := by decide +kernel
theorem dX11_cost_12 : decode cX11_cost 12 = .ok (.ireturn, 1) := by decide +kernel
theorem dX11_cost_13 : decode cX11_cost 13 = .ok (.aload_n 0, 1) := by decide +kernel
theorem dX11_cost_14 : decode cX11_cost 14 = .ok (.getfield 81, 3) := by decide +kernel
theorem dX11_cost_17 : decode cX11_cost 17 = .ok (.aload_n 0, 1) := by decide +kernel
theorem dX11_cost_18 : decode cX11_cost 18 = .ok (.getfield 98, 3) := by decide +kernel
theorem dX11_cost_21 : decode cX11_cost 21 = .ok (.invokevirtual 322, 3) := by decide +kernel
theorem dX11_cost_24 : decode cX11_cost 24 = .ok (.aload_n 0, 1) := by decide +kernel
theorem dX11_cost_25 : decode cX11_cost 25 = .ok (.getfield 81, 3) := by decide +kernel
theorem dX11_cost_28 : decode cX11_cost 28 = .ok (.invokevirtual 325, 3) := by decide +kernel
theorem dX11_cost_31 : decode cX11_cost 31 = .ok (.ireturn, 1) := by decide +kernel
theorem dX11_count_0 : decode cX11_count 0 = .ok (.iload_n 1, 1) := by decide +kernel
theorem dX11_count_1 : decode cX11_count 1 = .ok (.tableswitch 154 0 10 #[59, 64, 72, 80, 88, 96, 104, 112, 117, 125, 133], 59) := by decide +kernel
theorem dX11_count_60 : decode cX11_count 60 = .ok (.aload_n 0, 1) := by decide +kernel
theorem dX11_count_61 : decode cX11_count 61 = .ok (.getfield 98, 3) := by decide +kernel
theorem dX11_count_64 : decode cX11_count 64 = .ok (.ireturn, 1) := by decide +kernel
theorem dX11_count_65 : decode cX11_count 65 = .ok (.aload_n 0, 1) := by decide +kernel
theorem dX11_count_66 : decode cX11_count 66 = .ok (.getfield 26, 3) := by decide +kernel
theorem dX11_count_69 : decode cX11_count 69 = .ok (.invokevirtual 331, 3) := by decide +kernel
theorem dX11_count_72 : decode cX11_count 72 = .ok (.ireturn, 1) := by decide +kernel
theorem dX11_count_73 : decode cX11_count 73 = .ok (.aload_n 0, 1) := by decide +kernel
theorem dX11_count_74 : decode cX11_count 74 = .ok (.getfield 19, 3) := by decide +kernel
theorem dX11_count_77 : decode cX11_count 77 = .ok (.invokevirtual 385, 3) := by decide +kernel
theorem dX11_count_80 : decode cX11_count 80 = .ok (.ireturn, 1) := by decide +kernel
theorem dX11_count_81 : decode cX11_count 81 = .ok (.aload_n 0, 1) := by decide +kernel
theorem dX11_count_82 : decode cX11_count 82 = .ok (.getfield 33, 3) := by decide +kernel
theorem dX11_count_85 : decode cX11_count 85 = .ok (.invokevirtual 386, 3) := by decide +kernel
theorem dX11_count_88 : decode cX11_count 88 = .ok (.ireturn, 1) := by decide +kernel
theorem dX11_count_89 : decode cX11_count 89 = .ok (.aload_n 0, 1) := by decide +kernel
theorem dX11_count_90 : decode cX11_count 90 = .ok (.getfield 33, 3) := by decide +kernel
theorem dX11_count_93 : decode cX11_count 93 = .ok (.invokevirtual 389, 3) := by decide +kernel
theorem dX11_count_96 : decode cX11_count 96 = .ok (.ireturn, 1) := by decide +kernel
theorem dX11_count_97 : decode cX11_count 97 = .ok (.aload_n 0, 1) := by decide +kernel
theorem dX11_count_98 : decode cX11_count 98 = .ok (.getfield 40, 3) := by decide +kernel
theorem dX11_count_101 : decode cX11_count 101 = .ok (.invokevirtual 392, 3) := by decide +kernel
theorem dX11_count_104 : decode cX11_count 104 = .ok (.ireturn, 1) := by decide +kernel
theorem dX11_count_105 : decode cX11_count 105 = .ok (.aload_n 0, 1) := by decide +kernel
theorem dX11_count_106 : decode cX11_count 106 = .ok (.getfield 47, 3) := by decide +kernel
theorem dX11_count_109 : decode cX11_count 109 = .ok (.invokevirtual 393, 3) := by decide +kernel
theorem dX11_count_112 : decode cX11_count 112 = .ok (.ireturn, 1) := by decide +kernel
theorem dX11_count_113 : decode cX11_count 113 = .ok (.aload_n 0, 1) := by decide +kernel
theorem dX11_count_114 : decode cX11_count 114 = .ok (.getfield 102, 3) := by decide +kernel
theorem dX11_count_117 : decode cX11_count 117 = .ok (.ireturn, 1) := by decide +kernel
theorem dX11_count_118 : decode cX11_count 118 = .ok (.aload_n 0, 1) := by decide +kernel
theorem dX11_count_119 : decode cX11_count 119 = .ok (.getfield 81, 3) := by decide +kernel
theorem dX11_count_122 : decode cX11_count 122 = .ok (.invokevirtual 394, 3) := by decide +kernel
theorem dX11_count_125 : decode cX11_count 125 = .ok (.ireturn, 1) := by decide +kernel
theorem dX11_count_126 : decode cX11_count 126 = .ok (.aload_n 0, 1) := by decide +kernel
theorem dX11_count_127 : decode cX11_count 127 = .ok (.getfield 47, 3) := by decide +kernel
theorem dX11_count_130 : decode cX11_count 130 = .ok (.invokevirtual 395, 3) := by decide +kernel
theorem dX11_count_133 : decode cX11_count 133 = .ok (.ireturn, 1) := by decide +kernel
theorem dX11_count_134 : decode cX11_count 134 = .ok (.aload_n 0, 1) := by decide +kernel
theorem dX11_count_135 : decode cX11_count 135 = .ok (.getfield 74, 3) := by decide +kernel
theorem dX11_count_138 : decode cX11_count 138 = .ok (.aload_n 0, 1) := by decide +kernel
theorem dX11_count_139 : decode cX11_count 139 = .ok (.getfield 98, 3) := by decide +kernel
theorem dX11_count_142 : decode cX11_count 142 = .ok (.iconst (-1), 1) := by decide +kernel
theorem dX11_count_143 : decode cX11_count 143 = .ok (.invokevirtual 308, 3) := by decide +kernel
theorem dX11_count_146 : decode cX11_count 146 = .ok (.pop, 1) := by decide +kernel
theorem dX11_count_147 : decode cX11_count 147 = .ok (.aload_n 0, 1) := by decide +kernel
theorem dX11_count_148 : decode cX11_count 148 = .ok (.getfield 74, 3) := by decide +kernel
theorem dX11_count_151 : decode cX11_count 151 = .ok (.invokevirtual 299, 3) := by decide +kernel
theorem dX11_count_154 : decode cX11_count 154 = .ok (.ireturn, 1) := by decide +kernel
theorem dX11_count_155 : decode cX11_count 155 = .ok (.iload_n 1, 1) := by decide +kernel
theorem dX11_count_156 : decode cX11_count 156 = .ok (.bipush 20, 2) := by decide +kernel
theorem dX11_count_158 : decode cX11_count 158 = .ok (.if_icmp .lt 23, 3) := by decide +kernel
theorem dX11_count_161 : decode cX11_count 161 = .ok (.iload_n 1, 1) := by decide +kernel
theorem dX11_count_162 : decode cX11_count 162 = .ok (.bipush 24, 2) := by decide +kernel
theorem dX11_count_164 : decode cX11_count 164 = .ok (.if_icmp .gt 17, 3) := by decide +kernel
theorem dX11_count_167 : decode cX11_count 167 = .ok (.aload_n 0, 1) := by decide +kernel
theorem dX11_count_168 : decode cX11_count 168 = .ok (.getfield 47, 3) := by decide +kernel
theorem dX11_count_171 : decode cX11_count 171 = .ok (.iload_n 1, 1) := by decide +kernel
theorem dX11_count_172 : decode cX11_count 172 = .ok (.bipush 20, 2) := by decide +kernel
theorem dX11_count_174 : decode cX11_count 174 = .ok (.isub, 1) := by decide +kernel
theorem dX11_count_175 : decode cX11_count 175 = .ok (.invokevirtual 398, 3) := by decide +kernel
theorem dX11_count_178 : decode cX11_count 178 = .ok (.goto 4, 3) := by decide +kernel
theorem dX11_count_181 : decode cX11_count 181 = .ok (.iconst (-1), 1) := by decide +kernel
theorem dX11_count_182 : decode cX11_count 182 = .ok (.ireturn, 1) := by decide +kernel
theorem dX11_differ_0 : decode cX11_differ 0 = .ok (.aload_n 0, 1) := by decide +kernel
theorem dX11_differ_1 : decode cX11_differ 1 = .ok (.getfield 26, 3) := by decide +kernel
theorem dX11_differ_4 : decode cX11_differ 4 = .ok (.iload_n 1, 1) := by decide +kernel
theorem dX11_differ_5 : decode cX11_differ 5 = .ok (.invokevirtual 113, 3) := by decide +kernel
theorem dX11_differ_8 : decode cX11_differ 8 = .ok (.ifCond .eq 17, 3) := by decide +kernel
theorem dX11_differ_25 : decode cX11_differ 25 = .ok (.iconst (-1), 1) := by decide +kernel
theorem dX11_differ_26 : decode cX11_differ 26 = .ok (.ireturn, 1) := by decide +kernel
theorem dX11_feed_0 : decode cX11_feed 0 = .ok (.aload_n 0, 1) := by decide +kernel
theorem dX11_feed_1 : decode cX11_feed 1 = .ok (.getfield 102, 3) := by decide +kernel
theorem dX11_feed_4 : decode cX11_feed 4 = .ok (.bipush 20, 2) := by decide +kernel
theorem dX11_feed_6 : decode cX11_feed 6 = .ok (.iadd, 1) := by decide +kernel
theorem dX11_feed_7 : decode cX11_feed 7 = .ok (.sipush 200, 3) := by decide +kernel
theorem dX11_feed_10 : decode cX11_feed 10 = .ok (.if_icmp .le 5, 3) := by decide +kernel
theorem dX11_feed_15 : decode cX11_feed 15 = .ok (.aload_n 0, 1) := by decide +kernel
theorem dX11_feed_16 : decode cX11_feed 16 = .ok (.iload_n 1, 1) := by decide +kernel
theorem dX11_feed_17 : decode cX11_feed 17 = .ok (.invokevirtual 105, 3) := by decide +kernel
theorem dX11_feed_20 : decode cX11_feed 20 = .ok (.aload_n 0, 1) := by decide +kernel
theorem dX11_feed_21 : decode cX11_feed 21 = .ok (.iload_n 2, 1) := by decide +kernel
theorem dX11_feed_22 : decode cX11_feed 22 = .ok (.invokevirtual 105, 3) := by decide +kernel
theorem dX11_feed_25 : decode cX11_feed 25 = .ok (.aload_n 0, 1) := by decide +kernel
theorem dX11_feed_26 : decode cX11_feed 26 = .ok (.iload_n 3, 1) := by decide +kernel
theorem dX11_feed_27 : decode cX11_feed 27 = .ok (.invokevirtual 105, 3) := by decide +kernel
theorem dX11_feed_30 : decode cX11_feed 30 = .ok (.aload_n 0, 1) := by decide +kernel
theorem dX11_feed_31 : decode cX11_feed 31 = .ok (.iload 4, 2) := by decide +kernel
theorem dX11_feed_33 : decode cX11_feed 33 = .ok (.invokevirtual 105, 3) := by decide +kernel
theorem dX11_feed_36 : decode cX11_feed 36 = .ok (.aload_n 0, 1) := by decide +kernel
theorem dX11_feed_37 : decode cX11_feed 37 = .ok (.iload 5, 2) := by decide +kernel
theorem dX11_feed_39 : decode cX11_feed 39 = .ok (.invokevirtual 105, 3) := by decide +kernel
theorem dX11_feed_42 : decode cX11_feed 42 = .ok (.aload_n 0, 1) := by decide +kernel
theorem dX11_feed_43 : decode cX11_feed 43 = .ok (.getfield 102, 3) := by decide +kernel
theorem dX11_feed_46 : decode cX11_feed 46 = .ok (.ireturn, 1) := by decide +kernel
theorem dX11_firstWrongByte_0 : decode cX11_firstWrongByte 0 = .ok (.iconst 0, 1) := by decide +kernel
theorem dX11_firstWrongByte_1 : decode cX11_firstWrongByte 1 = .ok (.istore_n 2, 1) := by decide +kernel
theorem dX11_firstWrongByte_2 : decode cX11_firstWrongByte 2 = .ok (.iconst 0, 1) := by decide +kernel
theorem dX11_firstWrongByte_3 : decode cX11_firstWrongByte 3 = .ok (.istore_n 3, 1) := by decide +kernel
theorem dX11_firstWrongByte_4 : decode cX11_firstWrongByte 4 = .ok (.iload_n 3, 1) := by decide +kernel
theorem dX11_firstWrongByte_5 : decode cX11_firstWrongByte 5 = .ok (.aload_n 0, 1) := by decide +kernel
theorem dX11_firstWrongByte_6 : decode cX11_firstWrongByte 6 = .ok (.getfield 26, 3) := by decide +kernel
theorem dX11_firstWrongByte_9 : decode cX11_firstWrongByte 9 = .ok (.invokevirtual 331, 3) := by decide +kernel
theorem dX11_firstWrongByte_12 : decode cX11_firstWrongByte 12 = .ok (.if_icmp .ge 69, 3) := by decide +kernel
theorem dX11_firstWrongByte_81 : decode cX11_firstWrongByte 81 = .ok (.iload_n 2, 1) := by decide +kernel
theorem dX11_firstWrongByte_82 : decode cX11_firstWrongByte 82 = .ok (.iload_n 1, 1) := by decide +kernel
theorem dX11_firstWrongByte_83 : decode cX11_firstWrongByte 83 = .ok (.if_icmp .ge 7, 3) := by decide +kernel
theorem dX11_firstWrongByte_90 : decode cX11_firstWrongByte 90 = .ok (.iconst (-1), 1) := by decide +kernel
theorem dX11_firstWrongByte_91 : decode cX11_firstWrongByte 91 = .ok (.ireturn, 1) := by decide +kernel
theorem dX11_fixed_0 : decode cX11_fixed 0 = .ok (.aload_n 0, 1) := by decide +kernel
theorem dX11_fixed_1 : decode cX11_fixed 1 = .ok (.getfield 47, 3) := by decide +kernel
theorem dX11_fixed_4 : decode cX11_fixed 4 = .ok (.iload_n 1, 1) := by decide +kernel
theorem dX11_fixed_5 : decode cX11_fixed 5 = .ok (.invokevirtual 286, 3) := by decide +kernel
theorem dX11_fixed_8 : decode cX11_fixed 8 = .ok (.ireturn, 1) := by decide +kernel
theorem dX11_fixedOn_0 : decode cX11_fixedOn 0 = .ok (.aload_n 0, 1) := by decide +kernel
theorem dX11_fixedOn_1 : decode cX11_fixedOn 1 = .ok (.iload_n 2, 1) := by decide +kernel
theorem dX11_fixedOn_2 : decode cX11_fixedOn 2 = .ok (.invokevirtual 289, 3) := by decide +kernel
theorem dX11_fixedOn_5 : decode cX11_fixedOn 5 = .ok (.ifCond .eq 15, 3) := by decide +kernel
theorem dX11_fixedOn_8 : decode cX11_fixedOn 8 = .ok (.aload_n 0, 1) := by decide +kernel
theorem dX11_fixedOn_9 : decode cX11_fixedOn 9 = .ok (.getfield 47, 3) := by decide +kernel
theorem dX11_fixedOn_12 : decode cX11_fixedOn 12 = .ok (.iload_n 1, 1) := by decide +kernel
theorem dX11_fixedOn_13 : decode cX11_fixedOn 13 = .ok (.iload_n 2, 1) := by decide +kernel
theorem dX11_fixedOn_14 : decode cX11_fixedOn 14 = .ok (.invokevirtual 292, 3) := by decide +kernel
theorem dX11_fixedOn_17 : decode cX11_fixedOn 17 = .ok (.goto 4, 3) := by decide +kernel
theorem dX11_fixedOn_20 : decode cX11_fixedOn 20 = .ok (.iconst (-1), 1) := by decide +kernel
theorem dX11_fixedOn_21 : decode cX11_fixedOn 21 = .ok (.ireturn, 1) := by decide +kernel
theorem dX11_holds_0 : decode cX11_holds 0 = .ok (.aload_n 0, 1) := by decide +kernel
theorem dX11_holds_1 : decode cX11_holds 1 = .ok (.getfield 40, 3) := by decide +kernel
theorem dX11_holds_4 : decode cX11_holds 4 = .ok (.iload_n 1, 1) := by decide +kernel
theorem dX11_holds_5 : decode cX11_holds 5 = .ok (.iload_n 2, 1) := by decide +kernel
theorem dX11_holds_6 : decode cX11_holds 6 = .ok (.invokevirtual 182, 3) := by decide +kernel
theorem dX11_holds_9 : decode cX11_holds 9 = .ok (.ifCond .eq 22, 3) := by decide +kernel
theorem dX11_holds_31 : decode cX11_holds 31 = .ok (.iconst (-1), 1) := by decide +kernel
theorem dX11_holds_32 : decode cX11_holds 32 = .ok (.ireturn, 1) := by decide +kernel
theorem dX11_judge_0 : decode cX11_judge 0 = .ok (.aload_n 0, 1) := by decide +kernel
theorem dX11_judge_1 : decode cX11_judge 1 = .ok (.getfield 90, 3) := by decide +kernel
theorem dX11_judge_4 : decode cX11_judge 4 = .ok (.iload_n 1, 1) := by decide +kernel
theorem dX11_judge_5 : decode cX11_judge 5 = .ok (.invokevirtual 376, 3) := by decide +kernel
theorem dX11_judge_8 : decode cX11_judge 8 = .ok (.ireturn, 1) := by decide +kernel
theorem dX11_line_0 : decode cX11_line 0 = .ok (.iconst 0, 1) := by decide +kernel
theorem dX11_line_1 : decode cX11_line 1 = .ok (.istore_n 2, 1) := by decide +kernel
theorem dX11_line_2 : decode cX11_line 2 = .ok (.iconst 0, 1) := by decide +kernel
theorem dX11_line_3 : decode cX11_line 3 = .ok (.istore_n 3, 1) := by decide +kernel
theorem dX11_line_4 : decode cX11_line 4 = .ok (.iload_n 3, 1) := by decide +kernel
theorem dX11_line_5 : decode cX11_line 5 = .ok (.aload_n 0, 1) := by decide +kernel
theorem dX11_line_6 : decode cX11_line 6 = .ok (.getfield 26, 3) := by decide +kernel
theorem dX11_line_9 : decode cX11_line 9 = .ok (.invokevirtual 331, 3) := by decide +kernel
theorem dX11_line_12 : decode cX11_line 12 = .ok (.if_icmp .ge 61, 3) := by decide +kernel
theorem dX11_line_73 : decode cX11_line 73 = .ok (.iconst (-1), 1) := by decide +kernel
theorem dX11_line_74 : decode cX11_line 74 = .ok (.ireturn, 1) := by decide +kernel
theorem dX11_look_0 : decode cX11_look 0 = .ok (.aload_n 0, 1) := by decide +kernel
theorem dX11_look_1 : decode cX11_look 1 = .ok (.getfield 47, 3) := by decide +kernel
theorem dX11_look_4 : decode cX11_look 4 = .ok (.iload_n 1, 1) := by decide +kernel
theorem dX11_look_5 : decode cX11_look 5 = .ok (.invokevirtual 240, 3) := by decide +kernel
theorem dX11_look_8 : decode cX11_look 8 = .ok (.astore_n 3, 1) := by decide +kernel
theorem dX11_look_9 : decode cX11_look 9 = .ok (.aload_n 3, 1) := by decide +kernel
theorem dX11_look_10 : decode cX11_look 10 = .ok (.ifnonnull 7, 3) := by decide +kernel
theorem dX11_look_13 : decode cX11_look 13 = .ok (.iconst (-1), 1) := by decide +kernel
theorem dX11_look_14 : decode cX11_look 14 = .ok (.goto 8, 3) := by decide +kernel
theorem dX11_look_22 : decode cX11_look 22 = .ok (.ireturn, 1) := by decide +kernel
theorem dX11_missed_0 : decode cX11_missed 0 = .ok (.aload_n 0, 1) := by decide +kernel
theorem dX11_missed_1 : decode cX11_missed 1 = .ok (.getfield 26, 3) := by decide +kernel
theorem dX11_missed_4 : decode cX11_missed 4 = .ok (.iload_n 1, 1) := by decide +kernel
theorem dX11_missed_5 : decode cX11_missed 5 = .ok (.invokevirtual 113, 3) := by decide +kernel
theorem dX11_missed_8 : decode cX11_missed 8 = .ok (.ifCond .eq 14, 3) := by decide +kernel
theorem dX11_missed_22 : decode cX11_missed 22 = .ok (.iconst (-1), 1) := by decide +kernel
theorem dX11_missed_23 : decode cX11_missed 23 = .ok (.ireturn, 1) := by decide +kernel
theorem dX11_now_0 : decode cX11_now 0 = .ok (.iload_n 1, 1) := by decide +kernel
theorem dX11_now_1 : decode cX11_now 1 = .ok (.invokestatic 94, 3) := by decide +kernel
theorem dX11_now_4 : decode cX11_now 4 = .ok (.ifCond .eq 11, 3) := by decide +kernel
theorem dX11_now_7 : decode cX11_now 7 = .ok (.iload_n 1, 1) := by decide +kernel
theorem dX11_now_8 : decode cX11_now 8 = .ok (.aload_n 0, 1) := by decide +kernel
theorem dX11_now_9 : decode cX11_now 9 = .ok (.getfield 98, 3) := by decide +kernel
theorem dX11_now_12 : decode cX11_now 12 = .ok (.if_icmp .ge 5, 3) := by decide +kernel
theorem dX11_now_15 : decode cX11_now 15 = .ok (.iconst 0, 1) := by decide +kernel
theorem dX11_now_16 : decode cX11_now 16 = .ok (.ireturn, 1) := by decide +kernel
theorem dX11_now_17 : decode cX11_now 17 = .ok (.aload_n 0, 1) := by decide +kernel
theorem dX11_now_18 : decode cX11_now 18 = .ok (.iload_n 1, 1) := by decide +kernel
theorem dX11_now_19 : decode cX11_now 19 = .ok (.putfield 98, 3) := by decide +kernel
theorem dX11_now_22 : decode cX11_now 22 = .ok (.iconst 1, 1) := by decide +kernel
theorem dX11_now_23 : decode cX11_now 23 = .ok (.ireturn, 1) := by decide +kernel
theorem dX11_one_0 : decode cX11_one 0 = .ok (.aload_n 0, 1) := by decide +kernel
theorem dX11_one_1 : decode cX11_one 1 = .ok (.getfield 81, 3) := by decide +kernel
theorem dX11_one_4 : decode cX11_one 4 = .ok (.aload_n 0, 1) := by decide +kernel
theorem dX11_one_5 : decode cX11_one 5 = .ok (.getfield 98, 3) := by decide +kernel
theorem dX11_one_8 : decode cX11_one 8 = .ok (.invokevirtual 322, 3) := by decide +kernel
theorem dX11_one_11 : decode cX11_one 11 = .ok (.aload_n 0, 1) := by decide +kernel
theorem dX11_one_12 : decode cX11_one 12 = .ok (.getfield 81, 3) := by decide +kernel
theorem dX11_one_15 : decode cX11_one 15 = .ok (.invokevirtual 328, 3) := by decide +kernel
theorem dX11_one_18 : decode cX11_one 18 = .ok (.ireturn, 1) := by decide +kernel
theorem dX11_option_0 : decode cX11_option 0 = .ok (.iload_n 1, 1) := by decide +kernel
theorem dX11_option_1 : decode cX11_option 1 = .ok (.invokestatic 311, 3) := by decide +kernel
theorem dX11_option_4 : decode cX11_option 4 = .ok (.ifCond .eq 30, 3) := by decide +kernel
theorem dX11_option_7 : decode cX11_option 7 = .ok (.aload_n 0, 1) := by decide +kernel
theorem dX11_option_8 : decode cX11_option 8 = .ok (.getfield 19, 3) := by decide +kernel
theorem dX11_option_11 : decode cX11_option 11 = .ok (.iload_n 2, 1) := by decide +kernel
theorem dX11_option_12 : decode cX11_option 12 = .ok (.invokevirtual 139, 3) := by decide +kernel
theorem dX11_option_15 : decode cX11_option 15 = .ok (.ifCond .eq 19, 3) := by decide +kernel
theorem dX11_option_34 : decode cX11_option 34 = .ok (.iconst 0, 1) := by decide +kernel
theorem dX11_option_35 : decode cX11_option 35 = .ok (.ireturn, 1) := by decide +kernel
theorem dX11_plan_0 : decode cX11_plan 0 = .ok (.aload_n 0, 1) := by decide +kernel
theorem dX11_plan_1 : decode cX11_plan 1 = .ok (.getfield 90, 3) := by decide +kernel
theorem dX11_plan_4 : decode cX11_plan 4 = .ok (.iload_n 1, 1) := by decide +kernel
theorem dX11_plan_5 : decode cX11_plan 5 = .ok (.invokevirtual 373, 3) := by decide +kernel
theorem dX11_plan_8 : decode cX11_plan 8 = .ok (.ireturn, 1) := by decide +kernel
theorem dX11_printed_0 : decode cX11_printed 0 = .ok (.aload_n 0, 1) := by decide +kernel
theorem dX11_printed_1 : decode cX11_printed 1 = .ok (.getfield 47, 3) := by decide +kernel
theorem dX11_printed_4 : decode cX11_printed 4 = .ok (.iload_n 2, 1) := by decide +kernel
theorem dX11_printed_5 : decode cX11_printed 5 = .ok (.invokevirtual 334, 3) := by decide +kernel
theorem dX11_printed_8 : decode cX11_printed 8 = .ok (.astore 4, 2) := by decide +kernel
theorem dX11_printed_10 : decode cX11_printed 10 = .ok (.aload 4, 2) := by decide +kernel
theorem dX11_printed_12 : decode cX11_printed 12 = .ok (.ifnull 14, 3) := by decide +kernel
theorem dX11_printed_26 : decode cX11_printed 26 = .ok (.iconst (-1), 1) := by decide +kernel
theorem dX11_printed_27 : decode cX11_printed 27 = .ok (.ireturn, 1) := by decide +kernel
theorem dX11_quarrel_0 : decode cX11_quarrel 0 = .ok (.aload_n 0, 1) := by decide +kernel
theorem dX11_quarrel_1 : decode cX11_quarrel 1 = .ok (.getfield 26, 3) := by decide +kernel
theorem dX11_quarrel_4 : decode cX11_quarrel 4 = .ok (.iload_n 1, 1) := by decide +kernel
theorem dX11_quarrel_5 : decode cX11_quarrel 5 = .ok (.invokevirtual 113, 3) := by decide +kernel
theorem dX11_quarrel_8 : decode cX11_quarrel 8 = .ok (.ifCond .eq 16, 3) := by decide +kernel
theorem dX11_quarrel_24 : decode cX11_quarrel 24 = .ok (.iconst (-1), 1) := by decide +kernel
theorem dX11_quarrel_25 : decode cX11_quarrel 25 = .ok (.ireturn, 1) := by decide +kernel
theorem dX11_reads_0 : decode cX11_reads 0 = .ok (.iload_n 1, 1) := by decide +kernel
theorem dX11_reads_1 : decode cX11_reads 1 = .ok (.ifCond .lt 30, 3) := by decide +kernel
theorem dX11_reads_4 : decode cX11_reads 4 = .ok (.iload_n 1, 1) := by decide +kernel
theorem dX11_reads_5 : decode cX11_reads 5 = .ok (.bipush 9, 2) := by decide +kernel
theorem dX11_reads_7 : decode cX11_reads 7 = .ok (.if_icmp .gt 24, 3) := by decide +kernel
theorem dX11_reads_10 : decode cX11_reads 10 = .ok (.aload_n 0, 1) := by decide +kernel
theorem dX11_reads_11 : decode cX11_reads 11 = .ok (.getfield 26, 3) := by decide +kernel
theorem dX11_reads_14 : decode cX11_reads 14 = .ok (.iload_n 2, 1) := by decide +kernel
theorem dX11_reads_15 : decode cX11_reads 15 = .ok (.invokevirtual 113, 3) := by decide +kernel
theorem dX11_reads_18 : decode cX11_reads 18 = .ok (.ifCond .eq 13, 3) := by decide +kernel
theorem dX11_reads_31 : decode cX11_reads 31 = .ok (.iconst 0, 1) := by decide +kernel
theorem dX11_reads_32 : decode cX11_reads 32 = .ok (.ireturn, 1) := by decide +kernel
theorem dX11_render_0 : decode cX11_render 0 = .ok (.aload_n 0, 1) := by decide +kernel
theorem dX11_render_1 : decode cX11_render 1 = .ok (.getfield 33, 3) := by decide +kernel
theorem dX11_render_4 : decode cX11_render 4 = .ok (.iload_n 1, 1) := by decide +kernel
theorem dX11_render_5 : decode cX11_render 5 = .ok (.invokevirtual 218, 3) := by decide +kernel
theorem dX11_render_8 : decode cX11_render 8 = .ok (.ifCond .eq 35, 3) := by decide +kernel
theorem dX11_render_43 : decode cX11_render 43 = .ok (.iconst (-1), 1) := by decide +kernel
theorem dX11_render_44 : decode cX11_render 44 = .ok (.ireturn, 1) := by decide +kernel
theorem dX11_rules_0 : decode cX11_rules 0 = .ok (.iload_n 1, 1) := by decide +kernel
theorem dX11_rules_1 : decode cX11_rules 1 = .ok (.iconst (-1), 1) := by decide +kernel
theorem dX11_rules_2 : decode cX11_rules 2 = .ok (.if_icmp .eq 16, 3) := by decide +kernel
theorem dX11_rules_5 : decode cX11_rules 5 = .ok (.aload_n 0, 1) := by decide +kernel
theorem dX11_rules_6 : decode cX11_rules 6 = .ok (.getfield 33, 3) := by decide +kernel
theorem dX11_rules_9 : decode cX11_rules 9 = .ok (.iload_n 1, 1) := by decide +kernel
theorem dX11_rules_10 : decode cX11_rules 10 = .ok (.invokevirtual 156, 3) := by decide +kernel
theorem dX11_rules_13 : decode cX11_rules 13 = .ok (.ifCond .ne 5, 3) := by decide +kernel
theorem dX11_rules_16 : decode cX11_rules 16 = .ok (.iconst (-1), 1) := by decide +kernel
theorem dX11_rules_17 : decode cX11_rules 17 = .ok (.ireturn, 1) := by decide +kernel
theorem dX11_rules_18 : decode cX11_rules 18 = .ok (.iload_n 2, 1) := by decide +kernel
theorem dX11_rules_19 : decode cX11_rules 19 = .ok (.invokestatic 94, 3) := by decide +kernel
theorem dX11_rules_22 : decode cX11_rules 22 = .ok (.ifCond .eq 15, 3) := by decide +kernel
theorem dX11_rules_25 : decode cX11_rules 25 = .ok (.iload_n 3, 1) := by decide +kernel
theorem dX11_rules_26 : decode cX11_rules 26 = .ok (.invokestatic 94, 3) := by decide +kernel
theorem dX11_rules_29 : decode cX11_rules 29 = .ok (.ifCond .eq 8, 3) := by decide +kernel
theorem dX11_rules_32 : decode cX11_rules 32 = .ok (.iload_n 3, 1) := by decide +kernel
theorem dX11_rules_33 : decode cX11_rules 33 = .ok (.iload_n 2, 1) := by decide +kernel
theorem dX11_rules_34 : decode cX11_rules 34 = .ok (.if_icmp .ge 5, 3) := by decide +kernel
theorem dX11_rules_37 : decode cX11_rules 37 = .ok (.iconst (-1), 1) := by decide +kernel
theorem dX11_rules_38 : decode cX11_rules 38 = .ok (.ireturn, 1) := by decide +kernel
theorem dX11_rules_39 : decode cX11_rules 39 = .ok (.aload_n 0, 1) := by decide +kernel
theorem dX11_rules_40 : decode cX11_rules 40 = .ok (.getfield 40, 3) := by decide +kernel
theorem dX11_rules_43 : decode cX11_rules 43 = .ok (.invokevirtual 163, 3) := by decide +kernel
theorem dX11_rules_46 : decode cX11_rules 46 = .ok (.ifCond .ne 15, 3) := by decide +kernel
theorem dX11_rules_49 : decode cX11_rules 49 = .ok (.aload_n 0, 1) := by decide +kernel
theorem dX11_rules_50 : decode cX11_rules 50 = .ok (.iload 4, 2) := by decide +kernel
theorem dX11_rules_52 : decode cX11_rules 52 = .ok (.sipush 160, 3) := by decide +kernel
theorem dX11_rules_55 : decode cX11_rules 55 = .ok (.invokevirtual 119, 3) := by decide +kernel
theorem dX11_rules_58 : decode cX11_rules 58 = .ok (.ifCond .ne 5, 3) := by decide +kernel
theorem dX11_rules_61 : decode cX11_rules 61 = .ok (.iconst (-1), 1) := by decide +kernel
theorem dX11_rules_62 : decode cX11_rules 62 = .ok (.ireturn, 1) := by decide +kernel
theorem dX11_scholar_0 : decode cX11_scholar 0 = .ok (.aload_n 0, 1) := by decide +kernel
theorem dX11_scholar_1 : decode cX11_scholar 1 = .ok (.getfield 33, 3) := by decide +kernel
theorem dX11_scholar_4 : decode cX11_scholar 4 = .ok (.iload_n 1, 1) := by decide +kernel
theorem dX11_scholar_5 : decode cX11_scholar 5 = .ok (.invokevirtual 156, 3) := by decide +kernel
theorem dX11_scholar_8 : decode cX11_scholar 8 = .ok (.ifCond .eq 15, 3) := by decide +kernel
theorem dX11_scholar_23 : decode cX11_scholar 23 = .ok (.iconst (-1), 1) := by decide +kernel
theorem dX11_scholar_24 : decode cX11_scholar 24 = .ok (.ireturn, 1) := by decide +kernel
theorem dX11_source_0 : decode cX11_source 0 = .ok (.aload_n 0, 1) := by decide +kernel
theorem dX11_source_1 : decode cX11_source 1 = .ok (.getfield 26, 3) := by decide +kernel
theorem dX11_source_4 : decode cX11_source 4 = .ok (.iload_n 1, 1) := by decide +kernel
theorem dX11_source_5 : decode cX11_source 5 = .ok (.invokevirtual 113, 3) := by decide +kernel
theorem dX11_source_8 : decode cX11_source 8 = .ok (.ifCond .eq 28, 3) := by decide +kernel
theorem dX11_source_36 : decode cX11_source 36 = .ok (.iconst 0, 1) := by decide +kernel
theorem dX11_source_37 : decode cX11_source 37 = .ok (.ireturn, 1) := by decide +kernel
theorem dX11_spell_0 : decode cX11_spell 0 = .ok (.iload_n 1, 1) := by decide +kernel
theorem dX11_spell_1 : decode cX11_spell 1 = .ok (.invokestatic 136, 3) := by decide +kernel
theorem dX11_spell_4 : decode cX11_spell 4 = .ok (.ifCond .eq 14, 3) := by decide +kernel
theorem dX11_spell_7 : decode cX11_spell 7 = .ok (.aload_n 0, 1) := by decide +kernel
theorem dX11_spell_8 : decode cX11_spell 8 = .ok (.getfield 19, 3) := by decide +kernel
theorem dX11_spell_11 : decode cX11_spell 11 = .ok (.iload_n 2, 1) := by decide +kernel
theorem dX11_spell_12 : decode cX11_spell 12 = .ok (.invokevirtual 139, 3) := by decide +kernel
theorem dX11_spell_15 : decode cX11_spell 15 = .ok (.ifCond .ne 5, 3) := by decide +kernel
theorem dX11_spell_18 : decode cX11_spell 18 = .ok (.iconst 0, 1) := by decide +kernel
theorem dX11_spell_19 : decode cX11_spell 19 = .ok (.ireturn, 1) := by decide +kernel
theorem dX11_syllables_0 : decode cX11_syllables 0 = .ok (.aload_n 0, 1) := by decide +kernel
theorem dX11_syllables_1 : decode cX11_syllables 1 = .ok (.getfield 19, 3) := by decide +kernel
theorem dX11_syllables_4 : decode cX11_syllables 4 = .ok (.iload_n 1, 1) := by decide +kernel
theorem dX11_syllables_5 : decode cX11_syllables 5 = .ok (.invokevirtual 139, 3) := by decide +kernel
theorem dX11_syllables_8 : decode cX11_syllables 8 = .ok (.ifCond .eq 14, 3) := by decide +kernel
theorem dX11_syllables_22 : decode cX11_syllables 22 = .ok (.iconst (-1), 1) := by decide +kernel
theorem dX11_syllables_23 : decode cX11_syllables 23 = .ok (.ireturn, 1) := by decide +kernel
theorem dX11_token_0 : decode cX11_token 0 = .ok (.aload_n 0, 1) := by decide +kernel
theorem dX11_token_1 : decode cX11_token 1 = .ok (.getfield 26, 3) := by decide +kernel
theorem dX11_token_4 : decode cX11_token 4 = .ok (.iload_n 1, 1) := by decide +kernel
theorem dX11_token_5 : decode cX11_token 5 = .ok (.invokevirtual 113, 3) := by decide +kernel
theorem dX11_token_8 : decode cX11_token 8 = .ok (.ifCond .eq 10, 3) := by decide +kernel
theorem dX11_token_18 : decode cX11_token 18 = .ok (.iconst (-1), 1) := by decide +kernel
theorem dX11_token_19 : decode cX11_token 19 = .ok (.ireturn, 1) := by decide +kernel
theorem dX11_unlike_0 : decode cX11_unlike 0 = .ok (.iload_n 1, 1) := by decide +kernel
theorem dX11_unlike_1 : decode cX11_unlike 1 = .ok (.ifCond .lt 12, 3) := by decide +kernel
theorem dX11_unlike_4 : decode cX11_unlike 4 = .ok (.iload_n 2, 1) := by decide +kernel
theorem dX11_unlike_5 : decode cX11_unlike 5 = .ok (.ifCond .lt 8, 3) := by decide +kernel
theorem dX11_unlike_8 : decode cX11_unlike 8 = .ok (.iload_n 2, 1) := by decide +kernel
theorem dX11_unlike_9 : decode cX11_unlike 9 = .ok (.iconst 3, 1) := by decide +kernel
theorem dX11_unlike_10 : decode cX11_unlike 10 = .ok (.if_icmp .le 5, 3) := by decide +kernel
theorem dX11_unlike_13 : decode cX11_unlike 13 = .ok (.iconst (-1), 1) := by decide +kernel
theorem dX11_unlike_14 : decode cX11_unlike 14 = .ok (.ireturn, 1) := by decide +kernel
theorem dX11_unlike_15 : decode cX11_unlike 15 = .ok (.aload_n 0, 1) := by decide +kernel
theorem dX11_unlike_16 : decode cX11_unlike 16 = .ok (.getfield 74, 3) := by decide +kernel
theorem dX11_unlike_19 : decode cX11_unlike 19 = .ok (.aload_n 0, 1) := by decide +kernel
theorem dX11_unlike_20 : decode cX11_unlike 20 = .ok (.getfield 98, 3) := by decide +kernel
theorem dX11_unlike_23 : decode cX11_unlike 23 = .ok (.iload_n 1, 1) := by decide +kernel
theorem dX11_unlike_24 : decode cX11_unlike 24 = .ok (.invokevirtual 308, 3) := by decide +kernel
theorem dX11_unlike_27 : decode cX11_unlike 27 = .ok (.ifCond .eq 14, 3) := by decide +kernel
theorem dX11_unlike_41 : decode cX11_unlike 41 = .ok (.iconst (-1), 1) := by decide +kernel
theorem dX11_unlike_42 : decode cX11_unlike 42 = .ok (.ireturn, 1) := by decide +kernel
theorem dX11_verse_0 : decode cX11_verse 0 = .ok (.iload_n 1, 1) := by decide +kernel
theorem dX11_verse_1 : decode cX11_verse 1 = .ok (.ifCond .lt 19, 3) := by decide +kernel
theorem dX11_verse_4 : decode cX11_verse 4 = .ok (.iload_n 1, 1) := by decide +kernel
theorem dX11_verse_5 : decode cX11_verse 5 = .ok (.bipush 7, 2) := by decide +kernel
theorem dX11_verse_7 : decode cX11_verse 7 = .ok (.if_icmp .gt 13, 3) := by decide +kernel
theorem dX11_verse_10 : decode cX11_verse 10 = .ok (.iload_n 2, 1) := by decide +kernel
theorem dX11_verse_11 : decode cX11_verse 11 = .ok (.ifCond .lt 9, 3) := by decide +kernel
theorem dX11_verse_14 : decode cX11_verse 14 = .ok (.iload_n 2, 1) := by decide +kernel
theorem dX11_verse_15 : decode cX11_verse 15 = .ok (.bipush 40, 2) := by decide +kernel
theorem dX11_verse_17 : decode cX11_verse 17 = .ok (.if_icmp .le 5, 3) := by decide +kernel
theorem dX11_verse_20 : decode cX11_verse 20 = .ok (.iconst (-1), 1) := by decide +kernel
theorem dX11_verse_21 : decode cX11_verse 21 = .ok (.ireturn, 1) := by decide +kernel
theorem dX11_verse_22 : decode cX11_verse 22 = .ok (.aload_n 0, 1) := by decide +kernel
theorem dX11_verse_23 : decode cX11_verse 23 = .ok (.getfield 26, 3) := by decide +kernel
theorem dX11_verse_26 : decode cX11_verse 26 = .ok (.iload_n 1, 1) := by decide +kernel
theorem dX11_verse_27 : decode cX11_verse 27 = .ok (.iload_n 2, 1) := by decide +kernel
theorem dX11_verse_28 : decode cX11_verse 28 = .ok (.invokevirtual 109, 3) := by decide +kernel
theorem dX11_verse_31 : decode cX11_verse 31 = .ok (.ireturn, 1) := by decide +kernel
theorem dX11_voids_0 : decode cX11_voids 0 = .ok (.aload_n 0, 1) := by decide +kernel
theorem dX11_voids_1 : decode cX11_voids 1 = .ok (.getfield 33, 3) := by decide +kernel
theorem dX11_voids_4 : decode cX11_voids 4 = .ok (.iload_n 1, 1) := by decide +kernel
theorem dX11_voids_5 : decode cX11_voids 5 = .ok (.invokevirtual 218, 3) := by decide +kernel
theorem dX11_voids_8 : decode cX11_voids 8 = .ok (.ifCond .eq 14, 3) := by decide +kernel
theorem dX11_voids_22 : decode cX11_voids 22 = .ok (.iconst (-1), 1) := by decide +kernel
theorem dX11_voids_23 : decode cX11_voids 23 = .ok (.ireturn, 1) := by decide +kernel
theorem dX11_vote_0 : decode cX11_vote 0 = .ok (.aload_n 0, 1) := by decide +kernel
theorem dX11_vote_1 : decode cX11_vote 1 = .ok (.getfield 47, 3) := by decide +kernel
theorem dX11_vote_4 : decode cX11_vote 4 = .ok (.iload_n 2, 1) := by decide +kernel
theorem dX11_vote_5 : decode cX11_vote 5 = .ok (.invokevirtual 240, 3) := by decide +kernel
theorem dX11_vote_8 : decode cX11_vote 8 = .ok (.astore 4, 2) := by decide +kernel
theorem dX11_vote_10 : decode cX11_vote 10 = .ok (.aload 4, 2) := by decide +kernel
theorem dX11_vote_12 : decode cX11_vote 12 = .ok (.ifnull 22, 3) := by decide +kernel
theorem dX11_vote_34 : decode cX11_vote 34 = .ok (.iconst 0, 1) := by decide +kernel
theorem dX11_vote_35 : decode cX11_vote 35 = .ok (.ireturn, 1) := by decide +kernel
theorem dX11_word_0 : decode cX11_word 0 = .ok (.aload_n 0, 1) := by decide +kernel
theorem dX11_word_1 : decode cX11_word 1 = .ok (.iload_n 1, 1) := by decide +kernel
theorem dX11_word_2 : decode cX11_word 2 = .ok (.bipush 12, 2) := by decide +kernel
theorem dX11_word_4 : decode cX11_word 4 = .ok (.invokevirtual 119, 3) := by decide +kernel
theorem dX11_word_7 : decode cX11_word 7 = .ok (.ifCond .eq 11, 3) := by decide +kernel
theorem dX11_word_18 : decode cX11_word 18 = .ok (.iconst (-1), 1) := by decide +kernel
theorem dX11_word_19 : decode cX11_word 19 = .ok (.ireturn, 1) := by decide +kernel
set_option maxHeartbeats 4000000 in
set_option maxRecDepth 100000 in
theorem x_11_now (l : Launch) (D : va_G) (ct : Nat → ClassId) (tN : Nat) (ad : Nat → Nat) (iv : Nat → Int32) (ia : Nat → Nat → Int32) (la : Nat → Nat → Int64) (pt : Nat → Option Nat) (ra : Nat → Nat → Option Nat) (R : va_W) (p0 : Int32) (h1 : (iv 1).toInt = 0) : MI l D (TY ct) tN yX11_now cX11_now 2 (some .boolean) ({ frames := 1, cells := 0, slots := 0, locals := 20 } : Room) [.ref (ad 0), .int p0] (XW ct ad iv ia la pt ra R) (fun (v : Int32) (u : va_W) => (0 ≤ p0.toInt ∧ p0.toInt ≤ 3999 ∧ v.toInt = 1) ∨ ((p0.toInt < 0 ∨ 3999 < p0.toInt) ∧ v.toInt = 0)) (fun u => u) 0 0 := by
  intro sz
  refine Met.ofE (Qc := fun A => va_Qi (fun (v : Int32) (u : va_W) => (0 ≤ p0.toInt ∧ p0.toInt ≤ 3999 ∧ v.toInt = 1) ∨ ((p0.toInt < 0 ∨ 3999 < p0.toInt) ∧ v.toInt = 0)) (BW D A (fun u => u)) A) (by decide) (Nat.le_of_ble_eq_true rfl) ?_
  intro p e s m args below meth c A ls hsz E hr hlk hnm B hl
  have hl : lv_has ls 2 [(0, .ref (ad 0)), (1, .int p0)] := hl
  refine lv_iload_n E.1.1 E.1.2.1 dX11_now_0 rfl (lv_at hl 1 rfl) ?_
  refine call_SI (kn := 1) E B (x_11_isDay l D ct tN ad iv ia la pt ra R  p0 ) (good_S mw_432 mw_433 mw_1 mw_434) (by decide +kernel) rfl rfl rfl ⟨by decide, by decide⟩ rfl hl (Nat.le_of_ble_eq_true rfl) dX11_now_1 ⟨Nat.le_of_ble_eq_true rfl, Nat.le_of_ble_eq_true rfl⟩ (fun v_1 u_2 H locs w_3 B => ?_)
  have w_3 : (0 ≤ p0.toInt ∧ p0.toInt ≤ 3999 ∧ v_1.toInt = 1) ∨ ((p0.toInt < 0 ∨ 3999 < p0.toInt) ∧ v_1.toInt = 0) := w_3
  have B : Hp D A s.heap (XW ct ad iv ia la pt ra R) H locs := B
  refine at_n (n := 4) (k1 := 0) (k2 := 0) rfl rfl rfl ?_
  refine b_eq (tgt := 15) E rfl dX11_now_4 (by decide) (fun c_4 => ?_) (fun c_4 => ?_)
  · skip
    refine lv_iconst (v := 0) E.1.1 E.1.2.1 dX11_now_15 (by decide) ?_
    have r_5 : (0 : Int32).toInt = 0 := tI_0
    exact ret_I (u := _) E hr hlk (narrow_z (by omega)) B (by omega) dX11_now_16
  · skip
    refine lv_iload_n E.1.1 E.1.2.1 dX11_now_7 rfl (lv_at hl 1 rfl) ?_
    refine lv_aload_n E.1.1 E.1.2.1 dX11_now_8 rfl (lv_at hl 0 rfl) ?_
    refine row_get (v := .int (iv 1)) E B iX11 rfl 13 (by decide) mw_398 0 rfl rfl dX11_now_9 ?_
    refine c_ge (tgt := 17) E rfl h1 dX11_now_12 (by decide) (fun c_6 => ?_) (fun c_6 => ?_)
    · skip
      refine lv_aload_n E.1.1 E.1.2.1 dX11_now_17 rfl (lv_at hl 0 rfl) ?_
      refine lv_iload_n E.1.1 E.1.2.1 dX11_now_18 rfl (lv_at hl 1 rfl) ?_
      refine row_put E B iX11 rfl tyX11 tyX11_ok nmX11 13 (by decide) mw_398 rfl 0 rfl rfl rfl (Nat.le_of_ble_eq_true rfl) dX11_now_19 (fun H locs B => ?_)
      have B := Hp.eq (sx_iv_1 ct ad iv ia la pt ra R p0) B
      have h_8 : ((va_up iv 1 p0) 1).toInt = p0.toInt := rfl
      generalize va_up iv 1 p0 = iv_7 at B h_8
      refine lv_iconst (v := 1) E.1.1 E.1.2.1 dX11_now_22 (by decide) ?_
      have r_9 : (1 : Int32).toInt = 1 := tI_1
      exact ret_I (u := _) E hr hlk (narrow_z (by omega)) B (by omega) dX11_now_23
    · skip
      refine lv_iconst (v := 0) E.1.1 E.1.2.1 dX11_now_15 (by decide) ?_
      have r_10 : (0 : Int32).toInt = 0 := tI_0
      exact ret_I (u := _) E hr hlk (narrow_z (by omega)) B (by omega) dX11_now_16
set_option maxHeartbeats 4000000 in
set_option maxRecDepth 100000 in
theorem x_11_feed (l : Launch) (D : va_G) (ct : Nat → ClassId) (tN : Nat) (ad : Nat → Nat) (iv : Nat → Int32) (ia : Nat → Nat → Int32) (la : Nat → Nat → Int64) (pt : Nat → Option Nat) (ra : Nat → Nat → Option Nat) (R : va_W) (p0 : Int32) (p1 : Int32) (p2 : Int32) (p3 : Int32) (p4 : Int32) (h0 : (iv 0).toInt = 0) : MI l D (TY ct) tN yX11_feed cX11_feed 6 (some .int) ({ frames := 1, cells := 0, slots := 0, locals := 22 } : Room) [.ref (ad 0), .int p0, .int p1, .int p2, .int p3, .int p4] (XW ct ad iv ia la pt ra R) (fun (v : Int32) (u : va_W) => v.toInt = 20) (fun u => u) 0 0 := by
  intro sz
  refine Met.ofE (Qc := fun A => va_Qi (fun (v : Int32) (u : va_W) => v.toInt = 20) (BW D A (fun u => u)) A) (by decide) (Nat.le_of_ble_eq_true rfl) ?_
  intro p e s m args below meth c A ls hsz E hr hlk hnm B hl
  have hl : lv_has ls 6 [(0, .ref (ad 0)), (1, .int p0), (2, .int p1), (3, .int p2), (4, .int p3), (5, .int p4)] := hl
  refine lv_aload_n E.1.1 E.1.2.1 dX11_feed_0 rfl (lv_at hl 0 rfl) ?_
  refine row_get (v := .int (iv 0)) E B iX11 rfl 12 (by decide) mw_397 0 rfl rfl dX11_feed_1 ?_
  refine lv_bipush (v := 20) E.1.1 E.1.2.1 dX11_feed_4 (by decide) ?_
  refine i_add E h0 tI_20 (by omega) (by omega) dX11_feed_6 (fun z_1 ez_1 => ?_)
  have ez_1 : z_1.toInt = 20 := by omega
  refine lv_sipush (v := 200) E.1.1 E.1.2.1 dX11_feed_7 (by decide) ?_
  refine c_le (tgt := 15) E ez_1 tI_200 dX11_feed_10 (by decide) (fun c_2 => ?_) (fun c_2 => ?_)
  · skip
    refine lv_aload_n E.1.1 E.1.2.1 dX11_feed_15 rfl (lv_at hl 0 rfl) ?_
    refine lv_iload_n E.1.1 E.1.2.1 dX11_feed_16 rfl (lv_at hl 1 rfl) ?_
    refine call_VV (kn := 1) E B (x_11_putFour l D ct tN ad iv ia la pt ra R 0 p0 h0 (by omega)) (good_V mw_439 mw_441 ms_0 mw_1 mw_442) 0 rfl rfl ⟨rfl, by decide +kernel⟩ rfl rfl rfl ⟨by decide, by decide⟩ rfl hl (Nat.le_of_ble_eq_true rfl) dX11_feed_17 ⟨Nat.le_of_ble_eq_true rfl, Nat.le_of_ble_eq_true rfl⟩ (fun u_4 H locs w_5 B => ?_)
    obtain ⟨iv_6, ia_7⟩ := u_4
    have h_8 := w_5
    have h_8 : (iv_6 0).toInt = 4 := by have h0 := h_8; (try dsimp only at h0); omega
    have B : Hp D A s.heap (XW ct ad iv_6 ia_7 la pt ra R) H locs := B
    refine at_n (n := 20) (k1 := 0) (k2 := 0) rfl rfl rfl ?_
    refine lv_aload_n E.1.1 E.1.2.1 dX11_feed_20 rfl (lv_at hl 0 rfl) ?_
    refine lv_iload_n E.1.1 E.1.2.1 dX11_feed_21 rfl (lv_at hl 2 rfl) ?_
    refine call_VV (kn := 1) E B (x_11_putFour l D ct tN ad iv_6 ia_7 la pt ra R 4 p1 h_8 (by omega)) (good_V mw_439 mw_441 ms_0 mw_1 mw_442) 0 rfl rfl ⟨rfl, by decide +kernel⟩ rfl rfl rfl ⟨by decide, by decide⟩ rfl hl (Nat.le_of_ble_eq_true rfl) dX11_feed_22 ⟨Nat.le_of_ble_eq_true rfl, Nat.le_of_ble_eq_true rfl⟩ (fun u_10 H locs w_11 B => ?_)
    obtain ⟨iv_12, ia_13⟩ := u_10
    have h_14 := w_11
    have h_14 : (iv_12 0).toInt = 8 := by have h0 := h_14; (try dsimp only at h0); omega
    have B : Hp D A s.heap (XW ct ad iv_12 ia_13 la pt ra R) H locs := B
    refine at_n (n := 25) (k1 := 0) (k2 := 0) rfl rfl rfl ?_
    refine lv_aload_n E.1.1 E.1.2.1 dX11_feed_25 rfl (lv_at hl 0 rfl) ?_
    refine lv_iload_n E.1.1 E.1.2.1 dX11_feed_26 rfl (lv_at hl 3 rfl) ?_
    refine call_VV (kn := 1) E B (x_11_putFour l D ct tN ad iv_12 ia_13 la pt ra R 8 p2 h_14 (by omega)) (good_V mw_439 mw_441 ms_0 mw_1 mw_442) 0 rfl rfl ⟨rfl, by decide +kernel⟩ rfl rfl rfl ⟨by decide, by decide⟩ rfl hl (Nat.le_of_ble_eq_true rfl) dX11_feed_27 ⟨Nat.le_of_ble_eq_true rfl, Nat.le_of_ble_eq_true rfl⟩ (fun u_16 H locs w_17 B => ?_)
    obtain ⟨iv_18, ia_19⟩ := u_16
    have h_20 := w_17
    have h_20 : (iv_18 0).toInt = 12 := by have h0 := h_20; (try dsimp only at h0); omega
    have B : Hp D A s.heap (XW ct ad iv_18 ia_19 la pt ra R) H locs := B
    refine at_n (n := 30) (k1 := 0) (k2 := 0) rfl rfl rfl ?_
    refine lv_aload_n E.1.1 E.1.2.1 dX11_feed_30 rfl (lv_at hl 0 rfl) ?_
    refine lv_iload E.1.1 E.1.2.1 dX11_feed_31 (lv_at hl 4 rfl) ?_
    refine call_VV (kn := 1) E B (x_11_putFour l D ct tN ad iv_18 ia_19 la pt ra R 12 p3 h_20 (by omega)) (good_V mw_439 mw_441 ms_0 mw_1 mw_442) 0 rfl rfl ⟨rfl, by decide +kernel⟩ rfl rfl rfl ⟨by decide, by decide⟩ rfl hl (Nat.le_of_ble_eq_true rfl) dX11_feed_33 ⟨Nat.le_of_ble_eq_true rfl, Nat.le_of_ble_eq_true rfl⟩ (fun u_22 H locs w_23 B => ?_)
    obtain ⟨iv_24, ia_25⟩ := u_22
    have h_26 := w_23
    have h_26 : (iv_24 0).toInt = 16 := by have h0 := h_26; (try dsimp only at h0); omega
    have B : Hp D A s.heap (XW ct ad iv_24 ia_25 la pt ra R) H locs := B
    refine at_n (n := 36) (k1 := 0) (k2 := 0) rfl rfl rfl ?_
    refine lv_aload_n E.1.1 E.1.2.1 dX11_feed_36 rfl (lv_at hl 0 rfl) ?_
    refine lv_iload E.1.1 E.1.2.1 dX11_feed_37 (lv_at hl 5 rfl) ?_
    refine call_VV (kn := 1) E B (x_11_putFour l D ct tN ad iv_24 ia_25 la pt ra R 16 p4 h_26 (by omega)) (good_V mw_439 mw_441 ms_0 mw_1 mw_442) 0 rfl rfl ⟨rfl, by decide +kernel⟩ rfl rfl rfl ⟨by decide, by decide⟩ rfl hl (Nat.le_of_ble_eq_true rfl) dX11_feed_39 ⟨Nat.le_of_ble_eq_true rfl, Nat.le_of_ble_eq_true rfl⟩ (fun u_28 H locs w_29 B => ?_)
    obtain ⟨iv_30, ia_31⟩ := u_28
    have h_32 := w_29
    have h_32 : (iv_30 0).toInt = 20 := by have h0 := h_32; (try dsimp only at h0); omega
    have B : Hp D A s.heap (XW ct ad iv_30 ia_31 la pt ra R) H locs := B
    refine at_n (n := 42) (k1 := 0) (k2 := 0) rfl rfl rfl ?_
    refine lv_aload_n E.1.1 E.1.2.1 dX11_feed_42 rfl (lv_at hl 0 rfl) ?_
    refine row_get (v := .int (iv_30 0)) E B iX11 rfl 12 (by decide) mw_397 0 rfl rfl dX11_feed_43 ?_
    have r_33 : (iv_30 0).toInt = 20 := h_32
    exact ret_I (u := _) E hr hlk rfl B (by omega) dX11_feed_46
  · exfalso; omega
set_option maxHeartbeats 4000000 in
set_option maxRecDepth 100000 in
theorem x_11_verse (l : Launch) (D : va_G) (ct : Nat → ClassId) (tN : Nat) (ad : Nat → Nat) (iv : Nat → Int32) (ia : Nat → Nat → Int32) (la : Nat → Nat → Int64) (pt : Nat → Option Nat) (ra : Nat → Nat → Option Nat) (R : va_W) (p0 : Int32) (p1 : Int32) (h3 : (iv 3).toInt = 0) : MI l D (TY ct) tN yX11_verse cX11_verse 3 (some .int) ({ frames := 1, cells := 0, slots := 0, locals := 22 } : Room) [.ref (ad 0), .int p0, .int p1] (XW ct ad iv ia la pt ra R) (fun (v : Int32) (u : va_W) => (0 ≤ p0.toInt ∧ p0.toInt ≤ 7 ∧ 0 ≤ p1.toInt ∧ p1.toInt ≤ 40 ∧ v.toInt = 0) ∨ ((p0.toInt < 0 ∨ 7 < p0.toInt ∨ p1.toInt < 0 ∨ 40 < p1.toInt) ∧ v.toInt = -1)) (fun u => u) 0 0 := by
  intro sz
  refine Met.ofE (Qc := fun A => va_Qi (fun (v : Int32) (u : va_W) => (0 ≤ p0.toInt ∧ p0.toInt ≤ 7 ∧ 0 ≤ p1.toInt ∧ p1.toInt ≤ 40 ∧ v.toInt = 0) ∨ ((p0.toInt < 0 ∨ 7 < p0.toInt ∨ p1.toInt < 0 ∨ 40 < p1.toInt) ∧ v.toInt = -1)) (BW D A (fun u => u)) A) (by decide) (Nat.le_of_ble_eq_true rfl) ?_
  intro p e s m args below meth c A ls hsz E hr hlk hnm B hl
  have hl : lv_has ls 3 [(0, .ref (ad 0)), (1, .int p0), (2, .int p1)] := hl
  refine lv_iload_n E.1.1 E.1.2.1 dX11_verse_0 rfl (lv_at hl 1 rfl) ?_
  refine b_lt (tgt := 20) E rfl dX11_verse_1 (by decide) (fun c_1 => ?_) (fun c_1 => ?_)
  · skip
    refine lv_iconst (v := -1) E.1.1 E.1.2.1 dX11_verse_20 (by decide) ?_
    have r_2 : (-1 : Int32).toInt = -1 := tI_m1
    exact ret_I (u := _) E hr hlk rfl B (by omega) dX11_verse_21
  · skip
    refine lv_iload_n E.1.1 E.1.2.1 dX11_verse_4 rfl (lv_at hl 1 rfl) ?_
    refine lv_bipush (v := 7) E.1.1 E.1.2.1 dX11_verse_5 (by decide) ?_
    refine c_gt (tgt := 20) E rfl tI_7 dX11_verse_7 (by decide) (fun c_3 => ?_) (fun c_3 => ?_)
    · skip
      refine lv_iconst (v := -1) E.1.1 E.1.2.1 dX11_verse_20 (by decide) ?_
      have r_4 : (-1 : Int32).toInt = -1 := tI_m1
      exact ret_I (u := _) E hr hlk rfl B (by omega) dX11_verse_21
    · skip
      refine lv_iload_n E.1.1 E.1.2.1 dX11_verse_10 rfl (lv_at hl 2 rfl) ?_
      refine b_lt (tgt := 20) E rfl dX11_verse_11 (by decide) (fun c_5 => ?_) (fun c_5 => ?_)
      · skip
        refine lv_iconst (v := -1) E.1.1 E.1.2.1 dX11_verse_20 (by decide) ?_
        have r_6 : (-1 : Int32).toInt = -1 := tI_m1
        exact ret_I (u := _) E hr hlk rfl B (by omega) dX11_verse_21
      · skip
        refine lv_iload_n E.1.1 E.1.2.1 dX11_verse_14 rfl (lv_at hl 2 rfl) ?_
        refine lv_bipush (v := 40) E.1.1 E.1.2.1 dX11_verse_15 (by decide) ?_
        refine c_le (tgt := 22) E rfl tI_40 dX11_verse_17 (by decide) (fun c_7 => ?_) (fun c_7 => ?_)
        · skip
          refine lv_aload_n E.1.1 E.1.2.1 dX11_verse_22 rfl (lv_at hl 0 rfl) ?_
          refine row_get (v := .ref (ad 6)) E B iX11 rfl 3 (by decide) mw_388 0 rfl rfl dX11_verse_23 ?_
          refine lv_iload_n E.1.1 E.1.2.1 dX11_verse_26 rfl (lv_at hl 1 rfl) ?_
          refine lv_iload_n E.1.1 E.1.2.1 dX11_verse_27 rfl (lv_at hl 2 rfl) ?_
          refine call_VI (kn := 2) E B (x_9_enter l D ct tN ad iv ia la pt ra R  p0 p1 h3) (good_V mw_447 mw_448 mw_449 mw_3 mw_450) 6 rfl rfl ⟨rfl, by decide +kernel⟩ rfl rfl rfl ⟨by decide, by decide⟩ rfl hl (Nat.le_of_ble_eq_true rfl) dX11_verse_28 ⟨Nat.le_of_ble_eq_true rfl, Nat.le_of_ble_eq_true rfl⟩ (fun v_8 u_9 H locs w_10 B => ?_)
          have w_10 : v_8.toInt = 0 := w_10
          have B : Hp D A s.heap (_) H locs := B
          refine at_n (n := 31) (k1 := 0) (k2 := 0) rfl rfl rfl ?_
          have r_11 : v_8.toInt = 0 := w_10
          exact ret_I (u := _) E hr hlk rfl B (by omega) dX11_verse_31
        · skip
          refine lv_iconst (v := -1) E.1.1 E.1.2.1 dX11_verse_20 (by decide) ?_
          have r_12 : (-1 : Int32).toInt = -1 := tI_m1
          exact ret_I (u := _) E hr hlk rfl B (by omega) dX11_verse_21
set_option maxHeartbeats 4000000 in
set_option maxRecDepth 100000 in
theorem x_11_source (l : Launch) (D : va_G) (ct : Nat → ClassId) (tN : Nat) (ad : Nat → Nat) (iv : Nat → Int32) (ia : Nat → Nat → Int32) (la : Nat → Nat → Int64) (pt : Nat → Option Nat) (ra : Nat → Nat → Option Nat) (R : va_W) (p0 : Int32) (p1 : Int32) (p2 : Int32) (h3 : (iv 3).toInt = 0) : MI l D (TY ct) tN yX11_source cX11_source 4 (some .boolean) ({ frames := 1, cells := 0, slots := 0, locals := 21 } : Room) [.ref (ad 0), .int p0, .int p1, .int p2] (XW ct ad iv ia la pt ra R) (fun (v : Int32) (u : va_W) => v.toInt = 0) (fun u => u) 0 0 := by
  intro sz
  refine Met.ofE (Qc := fun A => va_Qi (fun (v : Int32) (u : va_W) => v.toInt = 0) (BW D A (fun u => u)) A) (by decide) (Nat.le_of_ble_eq_true rfl) ?_
  intro p e s m args below meth c A ls hsz E hr hlk hnm B hl
  have hl : lv_has ls 4 [(0, .ref (ad 0)), (1, .int p0), (2, .int p1), (3, .int p2)] := hl
  refine lv_aload_n E.1.1 E.1.2.1 dX11_source_0 rfl (lv_at hl 0 rfl) ?_
  refine row_get (v := .ref (ad 6)) E B iX11 rfl 3 (by decide) mw_388 0 rfl rfl dX11_source_1 ?_
  refine lv_iload_n E.1.1 E.1.2.1 dX11_source_4 rfl (lv_at hl 1 rfl) ?_
  refine call_VI (kn := 1) E B (x_9_has l D ct tN ad iv ia la pt ra R  p0 h3) (good_V mw_455 mw_456 mw_457 mw_3 mw_458) 6 rfl rfl ⟨rfl, by decide +kernel⟩ rfl rfl rfl ⟨by decide, by decide⟩ rfl hl (Nat.le_of_ble_eq_true rfl) dX11_source_5 ⟨Nat.le_of_ble_eq_true rfl, Nat.le_of_ble_eq_true rfl⟩ (fun v_1 u_2 H locs w_3 B => ?_)
  have w_3 : v_1.toInt = 0 := w_3
  have B : Hp D A s.heap (XW ct ad iv ia la pt ra R) H locs := B
  refine at_n (n := 8) (k1 := 0) (k2 := 0) rfl rfl rfl ?_
  refine b_eq (tgt := 36) E w_3 dX11_source_8 (by decide) (fun c_4 => ?_) (fun c_4 => ?_)
  · skip
    refine lv_iconst (v := 0) E.1.1 E.1.2.1 dX11_source_36 (by decide) ?_
    have r_5 : (0 : Int32).toInt = 0 := tI_0
    exact ret_I (u := _) E hr hlk (narrow_z (by omega)) B (by omega) dX11_source_37
  · exfalso; omega
set_option maxHeartbeats 4000000 in
set_option maxRecDepth 100000 in
theorem x_11_word (l : Launch) (D : va_G) (ct : Nat → ClassId) (tN : Nat) (ad : Nat → Nat) (iv : Nat → Int32) (ia : Nat → Nat → Int32) (la : Nat → Nat → Int64) (pt : Nat → Option Nat) (ra : Nat → Nat → Option Nat) (R : va_W) (p0 : Int32) (h0 : (iv 0).toInt = 0) : MI l D (TY ct) tN yX11_word cX11_word 3 (some .int) ({ frames := 1, cells := 0, slots := 0, locals := 22 } : Room) [.ref (ad 0), .int p0] (XW ct ad iv ia la pt ra R) (fun (v : Int32) (u : va_W) => v.toInt = -1) (fun u => u) 0 0 := by
  intro sz
  refine Met.ofE (Qc := fun A => va_Qi (fun (v : Int32) (u : va_W) => v.toInt = -1) (BW D A (fun u => u)) A) (by decide) (Nat.le_of_ble_eq_true rfl) ?_
  intro p e s m args below meth c A ls hsz E hr hlk hnm B hl
  have hl : lv_has ls 3 [(0, .ref (ad 0)), (1, .int p0)] := hl
  refine lv_aload_n E.1.1 E.1.2.1 dX11_word_0 rfl (lv_at hl 0 rfl) ?_
  refine lv_iload_n E.1.1 E.1.2.1 dX11_word_1 rfl (lv_at hl 1 rfl) ?_
  refine lv_bipush (v := 12) E.1.1 E.1.2.1 dX11_word_2 (by decide) ?_
  refine call_VI (kn := 2) E B (x_11_tapeHas l D ct tN ad iv ia la pt ra R  p0 ((12 : Int32)) h0) (good_V mw_462 mw_464 ms_1 mw_1 mw_465) 0 rfl rfl ⟨rfl, by decide +kernel⟩ rfl rfl rfl ⟨by decide, by decide⟩ rfl hl (Nat.le_of_ble_eq_true rfl) dX11_word_4 ⟨Nat.le_of_ble_eq_true rfl, Nat.le_of_ble_eq_true rfl⟩ (fun v_1 u_2 H locs w_3 B => ?_)
  have w_3 : v_1.toInt = 0 := w_3
  have B : Hp D A s.heap (XW ct ad iv ia la pt ra R) H locs := B
  refine at_n (n := 7) (k1 := 0) (k2 := 0) rfl rfl rfl ?_
  refine b_eq (tgt := 18) E w_3 dX11_word_7 (by decide) (fun c_4 => ?_) (fun c_4 => ?_)
  · skip
    refine lv_iconst (v := -1) E.1.1 E.1.2.1 dX11_word_18 (by decide) ?_
    have r_5 : (-1 : Int32).toInt = -1 := tI_m1
    exact ret_I (u := _) E hr hlk rfl B (by omega) dX11_word_19
  · exfalso; omega
set_option maxHeartbeats 4000000 in
set_option maxRecDepth 100000 in
theorem x_11_spell (l : Launch) (D : va_G) (ct : Nat → ClassId) (tN : Nat) (ad : Nat → Nat) (iv : Nat → Int32) (ia : Nat → Nat → Int32) (la : Nat → Nat → Int64) (pt : Nat → Option Nat) (ra : Nat → Nat → Option Nat) (R : va_W) (p0 : Int32) (p1 : Int32) (p2 : Int32) (h2 : (iv 2).toInt = 0) : MI l D (TY ct) tN yX11_spell cX11_spell 4 (some .boolean) ({ frames := 1, cells := 0, slots := 0, locals := 21 } : Room) [.ref (ad 0), .int p0, .int p1, .int p2] (XW ct ad iv ia la pt ra R) (fun (v : Int32) (u : va_W) => v.toInt = 0) (fun u => u) 0 0 := by
  intro sz
  refine Met.ofE (Qc := fun A => va_Qi (fun (v : Int32) (u : va_W) => v.toInt = 0) (BW D A (fun u => u)) A) (by decide) (Nat.le_of_ble_eq_true rfl) ?_
  intro p e s m args below meth c A ls hsz E hr hlk hnm B hl
  have hl : lv_has ls 4 [(0, .ref (ad 0)), (1, .int p0), (2, .int p1), (3, .int p2)] := hl
  refine lv_iload_n E.1.1 E.1.2.1 dX11_spell_0 rfl (lv_at hl 1 rfl) ?_
  refine call_SI (kn := 1) E B (x_11_isEdition l D ct tN ad iv ia la pt ra R  p0 ) (good_S mw_507 mw_508 mw_1 mw_509) (by decide +kernel) rfl rfl rfl ⟨by decide, by decide⟩ rfl hl (Nat.le_of_ble_eq_true rfl) dX11_spell_1 ⟨Nat.le_of_ble_eq_true rfl, Nat.le_of_ble_eq_true rfl⟩ (fun v_1 u_2 H locs w_3 B => ?_)
  have w_3 : (0 ≤ p0.toInt ∧ p0.toInt ≤ 3 ∧ v_1.toInt = 1) ∨ ((p0.toInt < 0 ∨ 3 < p0.toInt) ∧ v_1.toInt = 0) := w_3
  have B : Hp D A s.heap (XW ct ad iv ia la pt ra R) H locs := B
  refine at_n (n := 4) (k1 := 0) (k2 := 0) rfl rfl rfl ?_
  refine b_eq (tgt := 18) E rfl dX11_spell_4 (by decide) (fun c_4 => ?_) (fun c_4 => ?_)
  · skip
    refine lv_iconst (v := 0) E.1.1 E.1.2.1 dX11_spell_18 (by decide) ?_
    have r_5 : (0 : Int32).toInt = 0 := tI_0
    exact ret_I (u := _) E hr hlk (narrow_z (by omega)) B (by omega) dX11_spell_19
  · skip
    refine lv_aload_n E.1.1 E.1.2.1 dX11_spell_7 rfl (lv_at hl 0 rfl) ?_
    refine row_get (v := .ref (ad 3)) E B iX11 rfl 2 (by decide) mw_387 0 rfl rfl dX11_spell_8 ?_
    refine lv_iload_n E.1.1 E.1.2.1 dX11_spell_11 rfl (lv_at hl 2 rfl) ?_
    refine call_VI (kn := 1) E B (x_10_has l D ct tN ad iv ia la pt ra R  p1 h2) (good_V mw_510 mw_511 mw_512 mw_2 mw_513) 3 rfl rfl ⟨rfl, by decide +kernel⟩ rfl rfl rfl ⟨by decide, by decide⟩ rfl hl (Nat.le_of_ble_eq_true rfl) dX11_spell_12 ⟨Nat.le_of_ble_eq_true rfl, Nat.le_of_ble_eq_true rfl⟩ (fun v_6 u_7 H locs w_8 B => ?_)
    have w_8 : v_6.toInt = 0 := w_8
    have B : Hp D A s.heap (XW ct ad iv ia la pt ra R) H locs := B
    refine at_n (n := 15) (k1 := 0) (k2 := 0) rfl rfl rfl ?_
    refine b_ne (tgt := 20) E w_8 dX11_spell_15 (by decide) (fun c_9 => ?_) (fun c_9 => ?_)
    · exfalso; omega
    · skip
      refine lv_iconst (v := 0) E.1.1 E.1.2.1 dX11_spell_18 (by decide) ?_
      have r_10 : (0 : Int32).toInt = 0 := tI_0
      exact ret_I (u := _) E hr hlk (narrow_z (by omega)) B (by omega) dX11_spell_19
set_option maxHeartbeats 4000000 in
set_option maxRecDepth 100000 in
theorem x_11_syllables (l : Launch) (D : va_G) (ct : Nat → ClassId) (tN : Nat) (ad : Nat → Nat) (iv : Nat → Int32) (ia : Nat → Nat → Int32) (la : Nat → Nat → Int64) (pt : Nat → Option Nat) (ra : Nat → Nat → Option Nat) (R : va_W) (p0 : Int32) (h2 : (iv 2).toInt = 0) : MI l D (TY ct) tN yX11_syllables cX11_syllables 2 (some .int) ({ frames := 1, cells := 0, slots := 0, locals := 21 } : Room) [.ref (ad 0), .int p0] (XW ct ad iv ia la pt ra R) (fun (v : Int32) (u : va_W) => v.toInt = -1) (fun u => u) 0 0 := by
  intro sz
  refine Met.ofE (Qc := fun A => va_Qi (fun (v : Int32) (u : va_W) => v.toInt = -1) (BW D A (fun u => u)) A) (by decide) (Nat.le_of_ble_eq_true rfl) ?_
  intro p e s m args below meth c A ls hsz E hr hlk hnm B hl
  have hl : lv_has ls 2 [(0, .ref (ad 0)), (1, .int p0)] := hl
  refine lv_aload_n E.1.1 E.1.2.1 dX11_syllables_0 rfl (lv_at hl 0 rfl) ?_
  refine row_get (v := .ref (ad 3)) E B iX11 rfl 2 (by decide) mw_387 0 rfl rfl dX11_syllables_1 ?_
  refine lv_iload_n E.1.1 E.1.2.1 dX11_syllables_4 rfl (lv_at hl 1 rfl) ?_
  refine call_VI (kn := 1) E B (x_10_has l D ct tN ad iv ia la pt ra R  p0 h2) (good_V mw_510 mw_511 mw_512 mw_2 mw_513) 3 rfl rfl ⟨rfl, by decide +kernel⟩ rfl rfl rfl ⟨by decide, by decide⟩ rfl hl (Nat.le_of_ble_eq_true rfl) dX11_syllables_5 ⟨Nat.le_of_ble_eq_true rfl, Nat.le_of_ble_eq_true rfl⟩ (fun v_1 u_2 H locs w_3 B => ?_)
  have w_3 : v_1.toInt = 0 := w_3
  have B : Hp D A s.heap (XW ct ad iv ia la pt ra R) H locs := B
  refine at_n (n := 8) (k1 := 0) (k2 := 0) rfl rfl rfl ?_
  refine b_eq (tgt := 22) E w_3 dX11_syllables_8 (by decide) (fun c_4 => ?_) (fun c_4 => ?_)
  · skip
    refine lv_iconst (v := -1) E.1.1 E.1.2.1 dX11_syllables_22 (by decide) ?_
    have r_5 : (-1 : Int32).toInt = -1 := tI_m1
    exact ret_I (u := _) E hr hlk rfl B (by omega) dX11_syllables_23
  · exfalso; omega
set_option maxHeartbeats 4000000 in
set_option maxRecDepth 100000 in
theorem x_11_company (l : Launch) (D : va_G) (ct : Nat → ClassId) (tN : Nat) (ad : Nat → Nat) (iv : Nat → Int32) (ia : Nat → Nat → Int32) (la : Nat → Nat → Int64) (pt : Nat → Option Nat) (ra : Nat → Nat → Option Nat) (R : va_W) (p0 : Int32) (p1 : Int32) (h6 : (iv 6).toInt = 0) : MI l D (TY ct) tN yX11_company cX11_company 3 (some .int) ({ frames := 1, cells := 0, slots := 0, locals := 22 } : Room) [.ref (ad 0), .int p0, .int p1] (XW ct ad iv ia la pt ra R) (fun (v : Int32) (u : va_W) => (0 ≤ p0.toInt ∧ p0.toInt ≤ 255 ∧ 0 ≤ p1.toInt ∧ p1.toInt ≤ 99 ∧ v.toInt = 0) ∨ ((p0.toInt < 0 ∨ 255 < p0.toInt ∨ p1.toInt < 0 ∨ 99 < p1.toInt) ∧ v.toInt = -1)) (fun u => u) 0 0 := by
  intro sz
  refine Met.ofE (Qc := fun A => va_Qi (fun (v : Int32) (u : va_W) => (0 ≤ p0.toInt ∧ p0.toInt ≤ 255 ∧ 0 ≤ p1.toInt ∧ p1.toInt ≤ 99 ∧ v.toInt = 0) ∨ ((p0.toInt < 0 ∨ 255 < p0.toInt ∨ p1.toInt < 0 ∨ 99 < p1.toInt) ∧ v.toInt = -1)) (BW D A (fun u => u)) A) (by decide) (Nat.le_of_ble_eq_true rfl) ?_
  intro p e s m args below meth c A ls hsz E hr hlk hnm B hl
  have hl : lv_has ls 3 [(0, .ref (ad 0)), (1, .int p0), (2, .int p1)] := hl
  refine lv_iload_n E.1.1 E.1.2.1 dX11_company_0 rfl (lv_at hl 1 rfl) ?_
  refine b_lt (tgt := 18) E rfl dX11_company_1 (by decide) (fun c_1 => ?_) (fun c_1 => ?_)
  · skip
    refine lv_iconst (v := -1) E.1.1 E.1.2.1 dX11_company_18 (by decide) ?_
    have r_2 : (-1 : Int32).toInt = -1 := tI_m1
    exact ret_I (u := _) E hr hlk rfl B (by omega) dX11_company_19
  · skip
    refine lv_iload_n E.1.1 E.1.2.1 dX11_company_4 rfl (lv_at hl 1 rfl) ?_
    refine lv_sipush (v := 255) E.1.1 E.1.2.1 dX11_company_5 (by decide) ?_
    refine c_gt (tgt := 18) E rfl tI_255 dX11_company_8 (by decide) (fun c_3 => ?_) (fun c_3 => ?_)
    · skip
      refine lv_iconst (v := -1) E.1.1 E.1.2.1 dX11_company_18 (by decide) ?_
      have r_4 : (-1 : Int32).toInt = -1 := tI_m1
      exact ret_I (u := _) E hr hlk rfl B (by omega) dX11_company_19
    · skip
      refine lv_iload_n E.1.1 E.1.2.1 dX11_company_11 rfl (lv_at hl 2 rfl) ?_
      refine call_SI (kn := 1) E B (x_11_isRate l D ct tN ad iv ia la pt ra R  p1 ) (good_S mw_538 mw_539 mw_1 mw_540) (by decide +kernel) rfl rfl rfl ⟨by decide, by decide⟩ rfl hl (Nat.le_of_ble_eq_true rfl) dX11_company_12 ⟨Nat.le_of_ble_eq_true rfl, Nat.le_of_ble_eq_true rfl⟩ (fun v_5 u_6 H locs w_7 B => ?_)
      have w_7 : (0 ≤ p1.toInt ∧ p1.toInt ≤ 99 ∧ v_5.toInt = 1) ∨ ((p1.toInt < 0 ∨ 99 < p1.toInt) ∧ v_5.toInt = 0) := w_7
      have B : Hp D A s.heap (XW ct ad iv ia la pt ra R) H locs := B
      refine at_n (n := 15) (k1 := 0) (k2 := 0) rfl rfl rfl ?_
      refine b_ne (tgt := 20) E rfl dX11_company_15 (by decide) (fun c_8 => ?_) (fun c_8 => ?_)
      · skip
        refine lv_aload_n E.1.1 E.1.2.1 dX11_company_20 rfl (lv_at hl 0 rfl) ?_
        refine row_get (v := .ref (ad 12)) E B iX11 rfl 4 (by decide) mw_389 0 rfl rfl dX11_company_21 ?_
        refine lv_iload_n E.1.1 E.1.2.1 dX11_company_24 rfl (lv_at hl 1 rfl) ?_
        refine lv_iload_n E.1.1 E.1.2.1 dX11_company_25 rfl (lv_at hl 2 rfl) ?_
        refine call_VI (kn := 2) E B (x_4_enterCompany l D ct tN ad iv ia la pt ra R  p0 p1 h6) (good_V mw_541 mw_542 mw_543 mw_4 mw_544) 12 rfl rfl ⟨rfl, by decide +kernel⟩ rfl rfl rfl ⟨by decide, by decide⟩ rfl hl (Nat.le_of_ble_eq_true rfl) dX11_company_26 ⟨Nat.le_of_ble_eq_true rfl, Nat.le_of_ble_eq_true rfl⟩ (fun v_9 u_10 H locs w_11 B => ?_)
        have w_11 : v_9.toInt = 0 := w_11
        have B : Hp D A s.heap (_) H locs := B
        refine at_n (n := 29) (k1 := 0) (k2 := 0) rfl rfl rfl ?_
        have r_12 : v_9.toInt = 0 := w_11
        exact ret_I (u := _) E hr hlk rfl B (by omega) dX11_company_29
      · skip
        refine lv_iconst (v := -1) E.1.1 E.1.2.1 dX11_company_18 (by decide) ?_
        have r_13 : (-1 : Int32).toInt = -1 := tI_m1
        exact ret_I (u := _) E hr hlk rfl B (by omega) dX11_company_19
set_option maxHeartbeats 4000000 in
set_option maxRecDepth 100000 in
theorem x_11_centre (l : Launch) (D : va_G) (ct : Nat → ClassId) (tN : Nat) (ad : Nat → Nat) (iv : Nat → Int32) (ia : Nat → Nat → Int32) (la : Nat → Nat → Int64) (pt : Nat → Option Nat) (ra : Nat → Nat → Option Nat) (R : va_W) (p0 : Int32)  : MI l D (TY ct) tN yX11_centre cX11_centre 2 (some .boolean) ({ frames := 1, cells := 0, slots := 0, locals := 21 } : Room) [.ref (ad 0), .int p0] (XW ct ad iv ia la pt ra R) (fun (v : Int32) (u : va_W) => (0 ≤ p0.toInt ∧ p0.toInt ≤ 99 ∧ v.toInt = 1) ∨ ((p0.toInt < 0 ∨ 99 < p0.toInt) ∧ v.toInt = 0)) (fun u => u) 0 0 := by
  intro sz
  refine Met.ofE (Qc := fun A => va_Qi (fun (v : Int32) (u : va_W) => (0 ≤ p0.toInt ∧ p0.toInt ≤ 99 ∧ v.toInt = 1) ∨ ((p0.toInt < 0 ∨ 99 < p0.toInt) ∧ v.toInt = 0)) (BW D A (fun u => u)) A) (by decide) (Nat.le_of_ble_eq_true rfl) ?_
  intro p e s m args below meth c A ls hsz E hr hlk hnm B hl
  have hl : lv_has ls 2 [(0, .ref (ad 0)), (1, .int p0)] := hl
  refine lv_iload_n E.1.1 E.1.2.1 dX11_centre_0 rfl (lv_at hl 1 rfl) ?_
  refine call_SI (kn := 1) E B (x_11_isRate l D ct tN ad iv ia la pt ra R  p0 ) (good_S mw_538 mw_539 mw_1 mw_540) (by decide +kernel) rfl rfl rfl ⟨by decide, by decide⟩ rfl hl (Nat.le_of_ble_eq_true rfl) dX11_centre_1 ⟨Nat.le_of_ble_eq_true rfl, Nat.le_of_ble_eq_true rfl⟩ (fun v_1 u_2 H locs w_3 B => ?_)
  have w_3 : (0 ≤ p0.toInt ∧ p0.toInt ≤ 99 ∧ v_1.toInt = 1) ∨ ((p0.toInt < 0 ∨ 99 < p0.toInt) ∧ v_1.toInt = 0) := w_3
  have B : Hp D A s.heap (XW ct ad iv ia la pt ra R) H locs := B
  refine at_n (n := 4) (k1 := 0) (k2 := 0) rfl rfl rfl ?_
  refine b_ne (tgt := 9) E rfl dX11_centre_4 (by decide) (fun c_4 => ?_) (fun c_4 => ?_)
  · skip
    refine lv_aload_n E.1.1 E.1.2.1 dX11_centre_9 rfl (lv_at hl 0 rfl) ?_
    refine row_get (v := .ref (ad 12)) E B iX11 rfl 4 (by decide) mw_389 0 rfl rfl dX11_centre_10 ?_
    refine lv_iload_n E.1.1 E.1.2.1 dX11_centre_13 rfl (lv_at hl 1 rfl) ?_
    refine call_VV (kn := 1) E B (x_4_setCentreRate l D ct tN ad iv ia la pt ra R  p0 ) (good_V mw_549 mw_550 mw_551 mw_4 mw_552) 12 rfl rfl ⟨rfl, by decide +kernel⟩ rfl rfl rfl ⟨by decide, by decide⟩ rfl hl (Nat.le_of_ble_eq_true rfl) dX11_centre_14 ⟨Nat.le_of_ble_eq_true rfl, Nat.le_of_ble_eq_true rfl⟩ (fun u_6 H locs w_7 B => ?_)
    have B : Hp D A s.heap (_) H locs := B
    refine at_n (n := 17) (k1 := 0) (k2 := 0) rfl rfl rfl ?_
    refine lv_iconst (v := 1) E.1.1 E.1.2.1 dX11_centre_17 (by decide) ?_
    have r_8 : (1 : Int32).toInt = 1 := tI_1
    exact ret_I (u := _) E hr hlk (narrow_z (by omega)) B (by omega) dX11_centre_18
  · skip
    refine lv_iconst (v := 0) E.1.1 E.1.2.1 dX11_centre_7 (by decide) ?_
    have r_9 : (0 : Int32).toInt = 0 := tI_0
    exact ret_I (u := _) E hr hlk (narrow_z (by omega)) B (by omega) dX11_centre_8
set_option maxHeartbeats 4000000 in
set_option maxRecDepth 100000 in
theorem x_11_scholar (l : Launch) (D : va_G) (ct : Nat → ClassId) (tN : Nat) (ad : Nat → Nat) (iv : Nat → Int32) (ia : Nat → Nat → Int32) (la : Nat → Nat → Int64) (pt : Nat → Option Nat) (ra : Nat → Nat → Option Nat) (R : va_W) (p0 : Int32) (p1 : Int32) (h6 : (iv 6).toInt = 0) : MI l D (TY ct) tN yX11_scholar cX11_scholar 3 (some .int) ({ frames := 1, cells := 0, slots := 0, locals := 21 } : Room) [.ref (ad 0), .int p0, .int p1] (XW ct ad iv ia la pt ra R) (fun (v : Int32) (u : va_W) => v.toInt = -1) (fun u => u) 0 0 := by
  intro sz
  refine Met.ofE (Qc := fun A => va_Qi (fun (v : Int32) (u : va_W) => v.toInt = -1) (BW D A (fun u => u)) A) (by decide) (Nat.le_of_ble_eq_true rfl) ?_
  intro p e s m args below meth c A ls hsz E hr hlk hnm B hl
  have hl : lv_has ls 3 [(0, .ref (ad 0)), (1, .int p0), (2, .int p1)] := hl
  refine lv_aload_n E.1.1 E.1.2.1 dX11_scholar_0 rfl (lv_at hl 0 rfl) ?_
  refine row_get (v := .ref (ad 12)) E B iX11 rfl 4 (by decide) mw_389 0 rfl rfl dX11_scholar_1 ?_
  refine lv_iload_n E.1.1 E.1.2.1 dX11_scholar_4 rfl (lv_at hl 1 rfl) ?_
  refine call_VI (kn := 1) E B (x_4_hasCompany l D ct tN ad iv ia la pt ra R  p0 h6) (good_V mw_557 mw_558 mw_559 mw_4 mw_560) 12 rfl rfl ⟨rfl, by decide +kernel⟩ rfl rfl rfl ⟨by decide, by decide⟩ rfl hl (Nat.le_of_ble_eq_true rfl) dX11_scholar_5 ⟨Nat.le_of_ble_eq_true rfl, Nat.le_of_ble_eq_true rfl⟩ (fun v_1 u_2 H locs w_3 B => ?_)
  have w_3 : v_1.toInt = 0 := w_3
  have B : Hp D A s.heap (XW ct ad iv ia la pt ra R) H locs := B
  refine at_n (n := 8) (k1 := 0) (k2 := 0) rfl rfl rfl ?_
  refine b_eq (tgt := 23) E w_3 dX11_scholar_8 (by decide) (fun c_4 => ?_) (fun c_4 => ?_)
  · skip
    refine lv_iconst (v := -1) E.1.1 E.1.2.1 dX11_scholar_23 (by decide) ?_
    have r_5 : (-1 : Int32).toInt = -1 := tI_m1
    exact ret_I (u := _) E hr hlk rfl B (by omega) dX11_scholar_24
  · exfalso; omega
set_option maxHeartbeats 4000000 in
set_option maxRecDepth 100000 in
theorem x_11_rules (l : Launch) (D : va_G) (ct : Nat → ClassId) (tN : Nat) (ad : Nat → Nat) (iv : Nat → Int32) (ia : Nat → Nat → Int32) (la : Nat → Nat → Int64) (pt : Nat → Option Nat) (ra : Nat → Nat → Option Nat) (R : va_W) (p0 : Int32) (p1 : Int32) (p2 : Int32) (p3 : Int32) (h0 : (iv 0).toInt = 0) (h6 : (iv 6).toInt = 0) (h9 : (iv 9).toInt = 0) : MI l D (TY ct) tN yX11_rules cX11_rules 6 (some .int) ({ frames := 1, cells := 0, slots := 0, locals := 22 } : Room) [.ref (ad 0), .int p0, .int p1, .int p2, .int p3] (XW ct ad iv ia la pt ra R) (fun (v : Int32) (u : va_W) => v.toInt = -1) (fun u => u) 0 0 := by
  intro sz
  refine Met.ofE (Qc := fun A => va_Qi (fun (v : Int32) (u : va_W) => v.toInt = -1) (BW D A (fun u => u)) A) (by decide) (Nat.le_of_ble_eq_true rfl) ?_
  intro p e s m args below meth c A ls hsz E hr hlk hnm B hl
  have hl : lv_has ls 6 [(0, .ref (ad 0)), (1, .int p0), (2, .int p1), (3, .int p2), (4, .int p3)] := hl
  refine lv_iload_n E.1.1 E.1.2.1 dX11_rules_0 rfl (lv_at hl 1 rfl) ?_
  refine lv_iconst (v := -1) E.1.1 E.1.2.1 dX11_rules_1 (by decide) ?_
  refine c_eq (tgt := 18) E rfl tI_m1 dX11_rules_2 (by decide) (fun c_1 => ?_) (fun c_1 => ?_)
  · skip
    refine lv_iload_n E.1.1 E.1.2.1 dX11_rules_18 rfl (lv_at hl 2 rfl) ?_
    refine call_SI (kn := 1) E B (x_11_isDay l D ct tN ad iv ia la pt ra R  p1 ) (good_S mw_432 mw_433 mw_1 mw_434) (by decide +kernel) rfl rfl rfl ⟨by decide, by decide⟩ rfl hl (Nat.le_of_ble_eq_true rfl) dX11_rules_19 ⟨Nat.le_of_ble_eq_true rfl, Nat.le_of_ble_eq_true rfl⟩ (fun v_2 u_3 H locs w_4 B => ?_)
    have w_4 : (0 ≤ p1.toInt ∧ p1.toInt ≤ 3999 ∧ v_2.toInt = 1) ∨ ((p1.toInt < 0 ∨ 3999 < p1.toInt) ∧ v_2.toInt = 0) := w_4
    have B : Hp D A s.heap (XW ct ad iv ia la pt ra R) H locs := B
    refine at_n (n := 22) (k1 := 0) (k2 := 0) rfl rfl rfl ?_
    refine b_eq (tgt := 37) E rfl dX11_rules_22 (by decide) (fun c_5 => ?_) (fun c_5 => ?_)
    · skip
      refine lv_iconst (v := -1) E.1.1 E.1.2.1 dX11_rules_37 (by decide) ?_
      have r_6 : (-1 : Int32).toInt = -1 := tI_m1
      exact ret_I (u := _) E hr hlk rfl B (by omega) dX11_rules_38
    · skip
      refine lv_iload_n E.1.1 E.1.2.1 dX11_rules_25 rfl (lv_at hl 3 rfl) ?_
      refine call_SI (kn := 1) E B (x_11_isDay l D ct tN ad iv ia la pt ra R  p2 ) (good_S mw_432 mw_433 mw_1 mw_434) (by decide +kernel) rfl rfl rfl ⟨by decide, by decide⟩ rfl hl (Nat.le_of_ble_eq_true rfl) dX11_rules_26 ⟨Nat.le_of_ble_eq_true rfl, Nat.le_of_ble_eq_true rfl⟩ (fun v_7 u_8 H locs w_9 B => ?_)
      have w_9 : (0 ≤ p2.toInt ∧ p2.toInt ≤ 3999 ∧ v_7.toInt = 1) ∨ ((p2.toInt < 0 ∨ 3999 < p2.toInt) ∧ v_7.toInt = 0) := w_9
      have B : Hp D A s.heap (XW ct ad iv ia la pt ra R) H locs := B
      refine at_n (n := 29) (k1 := 0) (k2 := 0) rfl rfl rfl ?_
      refine b_eq (tgt := 37) E rfl dX11_rules_29 (by decide) (fun c_10 => ?_) (fun c_10 => ?_)
      · skip
        refine lv_iconst (v := -1) E.1.1 E.1.2.1 dX11_rules_37 (by decide) ?_
        have r_11 : (-1 : Int32).toInt = -1 := tI_m1
        exact ret_I (u := _) E hr hlk rfl B (by omega) dX11_rules_38
      · skip
        refine lv_iload_n E.1.1 E.1.2.1 dX11_rules_32 rfl (lv_at hl 3 rfl) ?_
        refine lv_iload_n E.1.1 E.1.2.1 dX11_rules_33 rfl (lv_at hl 2 rfl) ?_
        refine c_ge (tgt := 39) E rfl rfl dX11_rules_34 (by decide) (fun c_12 => ?_) (fun c_12 => ?_)
        · skip
          refine lv_aload_n E.1.1 E.1.2.1 dX11_rules_39 rfl (lv_at hl 0 rfl) ?_
          refine row_get (v := .ref (ad 16)) E B iX11 rfl 5 (by decide) mw_390 0 rfl rfl dX11_rules_40 ?_
          refine call_VI (kn := 0) E B (x_2_isFull l D ct tN ad iv ia la pt ra R   h9) (good_V mw_570 mw_571 mw_572 mw_5 mw_573) 16 rfl rfl ⟨rfl, by decide +kernel⟩ rfl rfl rfl ⟨by decide, by decide⟩ rfl hl (Nat.le_of_ble_eq_true rfl) dX11_rules_43 ⟨Nat.le_of_ble_eq_true rfl, Nat.le_of_ble_eq_true rfl⟩ (fun v_13 u_14 H locs w_15 B => ?_)
          have w_15 : v_13.toInt = 0 := w_15
          have B : Hp D A s.heap (XW ct ad iv ia la pt ra R) H locs := B
          refine at_n (n := 46) (k1 := 0) (k2 := 0) rfl rfl rfl ?_
          refine b_ne (tgt := 61) E w_15 dX11_rules_46 (by decide) (fun c_16 => ?_) (fun c_16 => ?_)
          · exfalso; omega
          · skip
            refine lv_aload_n E.1.1 E.1.2.1 dX11_rules_49 rfl (lv_at hl 0 rfl) ?_
            refine lv_iload E.1.1 E.1.2.1 dX11_rules_50 (lv_at hl 4 rfl) ?_
            refine lv_sipush (v := 160) E.1.1 E.1.2.1 dX11_rules_52 (by decide) ?_
            refine call_VI (kn := 2) E B (x_11_tapeHas l D ct tN ad iv ia la pt ra R  p3 ((160 : Int32)) h0) (good_V mw_462 mw_464 ms_1 mw_1 mw_465) 0 rfl rfl ⟨rfl, by decide +kernel⟩ rfl rfl rfl ⟨by decide, by decide⟩ rfl hl (Nat.le_of_ble_eq_true rfl) dX11_rules_55 ⟨Nat.le_of_ble_eq_true rfl, Nat.le_of_ble_eq_true rfl⟩ (fun v_17 u_18 H locs w_19 B => ?_)
            have w_19 : v_17.toInt = 0 := w_19
            have B : Hp D A s.heap (XW ct ad iv ia la pt ra R) H locs := B
            refine at_n (n := 58) (k1 := 0) (k2 := 0) rfl rfl rfl ?_
            refine b_ne (tgt := 63) E w_19 dX11_rules_58 (by decide) (fun c_20 => ?_) (fun c_20 => ?_)
            · exfalso; omega
            · skip
              refine lv_iconst (v := -1) E.1.1 E.1.2.1 dX11_rules_61 (by decide) ?_
              have r_21 : (-1 : Int32).toInt = -1 := tI_m1
              exact ret_I (u := _) E hr hlk rfl B (by omega) dX11_rules_62
        · skip
          refine lv_iconst (v := -1) E.1.1 E.1.2.1 dX11_rules_37 (by decide) ?_
          have r_22 : (-1 : Int32).toInt = -1 := tI_m1
          exact ret_I (u := _) E hr hlk rfl B (by omega) dX11_rules_38
  · skip
    refine lv_aload_n E.1.1 E.1.2.1 dX11_rules_5 rfl (lv_at hl 0 rfl) ?_
    refine row_get (v := .ref (ad 12)) E B iX11 rfl 4 (by decide) mw_389 0 rfl rfl dX11_rules_6 ?_
    refine lv_iload_n E.1.1 E.1.2.1 dX11_rules_9 rfl (lv_at hl 1 rfl) ?_
    refine call_VI (kn := 1) E B (x_4_hasCompany l D ct tN ad iv ia la pt ra R  p0 h6) (good_V mw_557 mw_558 mw_559 mw_4 mw_560) 12 rfl rfl ⟨rfl, by decide +kernel⟩ rfl rfl rfl ⟨by decide, by decide⟩ rfl hl (Nat.le_of_ble_eq_true rfl) dX11_rules_10 ⟨Nat.le_of_ble_eq_true rfl, Nat.le_of_ble_eq_true rfl⟩ (fun v_23 u_24 H locs w_25 B => ?_)
    have w_25 : v_23.toInt = 0 := w_25
    have B : Hp D A s.heap (XW ct ad iv ia la pt ra R) H locs := B
    refine at_n (n := 13) (k1 := 0) (k2 := 0) rfl rfl rfl ?_
    refine b_ne (tgt := 18) E w_25 dX11_rules_13 (by decide) (fun c_26 => ?_) (fun c_26 => ?_)
    · exfalso; omega
    · skip
      refine lv_iconst (v := -1) E.1.1 E.1.2.1 dX11_rules_16 (by decide) ?_
      have r_27 : (-1 : Int32).toInt = -1 := tI_m1
      exact ret_I (u := _) E hr hlk rfl B (by omega) dX11_rules_17
set_option maxHeartbeats 4000000 in
set_option maxRecDepth 100000 in
theorem x_11_holds (l : Launch) (D : va_G) (ct : Nat → ClassId) (tN : Nat) (ad : Nat → Nat) (iv : Nat → Int32) (ia : Nat → Nat → Int32) (la : Nat → Nat → Int64) (pt : Nat → Option Nat) (ra : Nat → Nat → Option Nat) (R : va_W) (p0 : Int32) (p1 : Int32) (p2 : Int32) (p3 : Int32) (h9 : (iv 9).toInt = 0) : MI l D (TY ct) tN yX11_holds cX11_holds 5 (some .int) ({ frames := 2, cells := 0, slots := 0, locals := 43 } : Room) [.ref (ad 0), .int p0, .int p1, .int p2, .int p3] (XW ct ad iv ia la pt ra R) (fun (v : Int32) (u : va_W) => v.toInt = -1) (fun u => u) 0 0 := by
  intro sz
  refine Met.ofE (Qc := fun A => va_Qi (fun (v : Int32) (u : va_W) => v.toInt = -1) (BW D A (fun u => u)) A) (by decide) (Nat.le_of_ble_eq_true rfl) ?_
  intro p e s m args below meth c A ls hsz E hr hlk hnm B hl
  have hl : lv_has ls 5 [(0, .ref (ad 0)), (1, .int p0), (2, .int p1), (3, .int p2), (4, .int p3)] := hl
  refine lv_aload_n E.1.1 E.1.2.1 dX11_holds_0 rfl (lv_at hl 0 rfl) ?_
  refine row_get (v := .ref (ad 16)) E B iX11 rfl 5 (by decide) mw_390 0 rfl rfl dX11_holds_1 ?_
  refine lv_iload_n E.1.1 E.1.2.1 dX11_holds_4 rfl (lv_at hl 1 rfl) ?_
  refine lv_iload_n E.1.1 E.1.2.1 dX11_holds_5 rfl (lv_at hl 2 rfl) ?_
  refine call_VI (kn := 2) E B (x_2_hasClause l D ct tN ad iv ia la pt ra R  p0 p1 h9) (good_V mw_686 mw_687 mw_688 mw_5 mw_689) 16 rfl rfl ⟨rfl, by decide +kernel⟩ rfl rfl rfl ⟨by decide, by decide⟩ rfl hl (Nat.le_of_ble_eq_true rfl) dX11_holds_6 ⟨Nat.le_of_ble_eq_true rfl, Nat.le_of_ble_eq_true rfl⟩ (fun v_1 u_2 H locs w_3 B => ?_)
  have w_3 : v_1.toInt = 0 := w_3
  have B : Hp D A s.heap (XW ct ad iv ia la pt ra R) H locs := B
  refine at_n (n := 9) (k1 := 0) (k2 := 0) rfl rfl rfl ?_
  refine b_eq (tgt := 31) E w_3 dX11_holds_9 (by decide) (fun c_4 => ?_) (fun c_4 => ?_)
  · skip
    refine lv_iconst (v := -1) E.1.1 E.1.2.1 dX11_holds_31 (by decide) ?_
    have r_5 : (-1 : Int32).toInt = -1 := tI_m1
    exact ret_I (u := _) E hr hlk rfl B (by omega) dX11_holds_32
  · exfalso; omega
set_option maxHeartbeats 4000000 in
set_option maxRecDepth 100000 in
theorem x_11_asks (l : Launch) (D : va_G) (ct : Nat → ClassId) (tN : Nat) (ad : Nat → Nat) (iv : Nat → Int32) (ia : Nat → Nat → Int32) (la : Nat → Nat → Int64) (pt : Nat → Option Nat) (ra : Nat → Nat → Option Nat) (R : va_W) (p0 : Int32) (p1 : Int32) (p2 : Int32) (h3 : (iv 3).toInt = 0) : MI l D (TY ct) tN yX11_asks cX11_asks 4 (some .int) ({ frames := 1, cells := 0, slots := 0, locals := 21 } : Room) [.ref (ad 0), .int p0, .int p1, .int p2] (XW ct ad iv ia la pt ra R) (fun (v : Int32) (u : va_W) => v.toInt = -1) (fun u => u) 0 0 := by
  intro sz
  refine Met.ofE (Qc := fun A => va_Qi (fun (v : Int32) (u : va_W) => v.toInt = -1) (BW D A (fun u => u)) A) (by decide) (Nat.le_of_ble_eq_true rfl) ?_
  intro p e s m args below meth c A ls hsz E hr hlk hnm B hl
  have hl : lv_has ls 4 [(0, .ref (ad 0)), (1, .int p0), (2, .int p1), (3, .int p2)] := hl
  refine lv_aload_n E.1.1 E.1.2.1 dX11_asks_0 rfl (lv_at hl 0 rfl) ?_
  refine row_get (v := .ref (ad 6)) E B iX11 rfl 3 (by decide) mw_388 0 rfl rfl dX11_asks_1 ?_
  refine lv_iload_n E.1.1 E.1.2.1 dX11_asks_4 rfl (lv_at hl 1 rfl) ?_
  refine call_VI (kn := 1) E B (x_9_has l D ct tN ad iv ia la pt ra R  p0 h3) (good_V mw_455 mw_456 mw_457 mw_3 mw_458) 6 rfl rfl ⟨rfl, by decide +kernel⟩ rfl rfl rfl ⟨by decide, by decide⟩ rfl hl (Nat.le_of_ble_eq_true rfl) dX11_asks_5 ⟨Nat.le_of_ble_eq_true rfl, Nat.le_of_ble_eq_true rfl⟩ (fun v_1 u_2 H locs w_3 B => ?_)
  have w_3 : v_1.toInt = 0 := w_3
  have B : Hp D A s.heap (XW ct ad iv ia la pt ra R) H locs := B
  refine at_n (n := 8) (k1 := 0) (k2 := 0) rfl rfl rfl ?_
  refine b_eq (tgt := 18) E w_3 dX11_asks_8 (by decide) (fun c_4 => ?_) (fun c_4 => ?_)
  · skip
    refine lv_iconst (v := -1) E.1.1 E.1.2.1 dX11_asks_18 (by decide) ?_
    have r_5 : (-1 : Int32).toInt = -1 := tI_m1
    exact ret_I (u := _) E hr hlk rfl B (by omega) dX11_asks_19
  · exfalso; omega
set_option maxHeartbeats 4000000 in
set_option maxRecDepth 100000 in
theorem x_11_token (l : Launch) (D : va_G) (ct : Nat → ClassId) (tN : Nat) (ad : Nat → Nat) (iv : Nat → Int32) (ia : Nat → Nat → Int32) (la : Nat → Nat → Int64) (pt : Nat → Option Nat) (ra : Nat → Nat → Option Nat) (R : va_W) (p0 : Int32) (p1 : Int32) (p2 : Int32) (h3 : (iv 3).toInt = 0) : MI l D (TY ct) tN yX11_token cX11_token 5 (some .int) ({ frames := 1, cells := 0, slots := 0, locals := 21 } : Room) [.ref (ad 0), .int p0, .int p1, .int p2] (XW ct ad iv ia la pt ra R) (fun (v : Int32) (u : va_W) => v.toInt = -1) (fun u => u) 0 0 := by
  intro sz
  refine Met.ofE (Qc := fun A => va_Qi (fun (v : Int32) (u : va_W) => v.toInt = -1) (BW D A (fun u => u)) A) (by decide) (Nat.le_of_ble_eq_true rfl) ?_
  intro p e s m args below meth c A ls hsz E hr hlk hnm B hl
  have hl : lv_has ls 5 [(0, .ref (ad 0)), (1, .int p0), (2, .int p1), (3, .int p2)] := hl
  refine lv_aload_n E.1.1 E.1.2.1 dX11_token_0 rfl (lv_at hl 0 rfl) ?_
  refine row_get (v := .ref (ad 6)) E B iX11 rfl 3 (by decide) mw_388 0 rfl rfl dX11_token_1 ?_
  refine lv_iload_n E.1.1 E.1.2.1 dX11_token_4 rfl (lv_at hl 1 rfl) ?_
  refine call_VI (kn := 1) E B (x_9_has l D ct tN ad iv ia la pt ra R  p0 h3) (good_V mw_455 mw_456 mw_457 mw_3 mw_458) 6 rfl rfl ⟨rfl, by decide +kernel⟩ rfl rfl rfl ⟨by decide, by decide⟩ rfl hl (Nat.le_of_ble_eq_true rfl) dX11_token_5 ⟨Nat.le_of_ble_eq_true rfl, Nat.le_of_ble_eq_true rfl⟩ (fun v_1 u_2 H locs w_3 B => ?_)
  have w_3 : v_1.toInt = 0 := w_3
  have B : Hp D A s.heap (XW ct ad iv ia la pt ra R) H locs := B
  refine at_n (n := 8) (k1 := 0) (k2 := 0) rfl rfl rfl ?_
  refine b_eq (tgt := 18) E w_3 dX11_token_8 (by decide) (fun c_4 => ?_) (fun c_4 => ?_)
  · skip
    refine lv_iconst (v := -1) E.1.1 E.1.2.1 dX11_token_18 (by decide) ?_
    have r_5 : (-1 : Int32).toInt = -1 := tI_m1
    exact ret_I (u := _) E hr hlk rfl B (by omega) dX11_token_19
  · exfalso; omega
set_option maxHeartbeats 4000000 in
set_option maxRecDepth 100000 in
theorem x_11_differ (l : Launch) (D : va_G) (ct : Nat → ClassId) (tN : Nat) (ad : Nat → Nat) (iv : Nat → Int32) (ia : Nat → Nat → Int32) (la : Nat → Nat → Int64) (pt : Nat → Option Nat) (ra : Nat → Nat → Option Nat) (R : va_W) (p0 : Int32) (p1 : Int32) (p2 : Int32) (h3 : (iv 3).toInt = 0) : MI l D (TY ct) tN yX11_differ cX11_differ 6 (some .int) ({ frames := 1, cells := 0, slots := 0, locals := 21 } : Room) [.ref (ad 0), .int p0, .int p1, .int p2] (XW ct ad iv ia la pt ra R) (fun (v : Int32) (u : va_W) => v.toInt = -1) (fun u => u) 0 0 := by
  intro sz
  refine Met.ofE (Qc := fun A => va_Qi (fun (v : Int32) (u : va_W) => v.toInt = -1) (BW D A (fun u => u)) A) (by decide) (Nat.le_of_ble_eq_true rfl) ?_
  intro p e s m args below meth c A ls hsz E hr hlk hnm B hl
  have hl : lv_has ls 6 [(0, .ref (ad 0)), (1, .int p0), (2, .int p1), (3, .int p2)] := hl
  refine lv_aload_n E.1.1 E.1.2.1 dX11_differ_0 rfl (lv_at hl 0 rfl) ?_
  refine row_get (v := .ref (ad 6)) E B iX11 rfl 3 (by decide) mw_388 0 rfl rfl dX11_differ_1 ?_
  refine lv_iload_n E.1.1 E.1.2.1 dX11_differ_4 rfl (lv_at hl 1 rfl) ?_
  refine call_VI (kn := 1) E B (x_9_has l D ct tN ad iv ia la pt ra R  p0 h3) (good_V mw_455 mw_456 mw_457 mw_3 mw_458) 6 rfl rfl ⟨rfl, by decide +kernel⟩ rfl rfl rfl ⟨by decide, by decide⟩ rfl hl (Nat.le_of_ble_eq_true rfl) dX11_differ_5 ⟨Nat.le_of_ble_eq_true rfl, Nat.le_of_ble_eq_true rfl⟩ (fun v_1 u_2 H locs w_3 B => ?_)
  have w_3 : v_1.toInt = 0 := w_3
  have B : Hp D A s.heap (XW ct ad iv ia la pt ra R) H locs := B
  refine at_n (n := 8) (k1 := 0) (k2 := 0) rfl rfl rfl ?_
  refine b_eq (tgt := 25) E w_3 dX11_differ_8 (by decide) (fun c_4 => ?_) (fun c_4 => ?_)
  · skip
    refine lv_iconst (v := -1) E.1.1 E.1.2.1 dX11_differ_25 (by decide) ?_
    have r_5 : (-1 : Int32).toInt = -1 := tI_m1
    exact ret_I (u := _) E hr hlk rfl B (by omega) dX11_differ_26
  · exfalso; omega
set_option maxHeartbeats 4000000 in
set_option maxRecDepth 100000 in
theorem x_11_render (l : Launch) (D : va_G) (ct : Nat → ClassId) (tN : Nat) (ad : Nat → Nat) (iv : Nat → Int32) (ia : Nat → Nat → Int32) (la : Nat → Nat → Int64) (pt : Nat → Option Nat) (ra : Nat → Nat → Option Nat) (R : va_W) (p0 : Int32) (p1 : Int32) (p2 : Int32) (h7 : (iv 7).toInt = 0) : MI l D (TY ct) tN yX11_render cX11_render 6 (some .int) ({ frames := 1, cells := 0, slots := 0, locals := 21 } : Room) [.ref (ad 0), .int p0, .int p1, .int p2] (XW ct ad iv ia la pt ra R) (fun (v : Int32) (u : va_W) => v.toInt = -1) (fun u => u) 0 0 := by
  intro sz
  refine Met.ofE (Qc := fun A => va_Qi (fun (v : Int32) (u : va_W) => v.toInt = -1) (BW D A (fun u => u)) A) (by decide) (Nat.le_of_ble_eq_true rfl) ?_
  intro p e s m args below meth c A ls hsz E hr hlk hnm B hl
  have hl : lv_has ls 6 [(0, .ref (ad 0)), (1, .int p0), (2, .int p1), (3, .int p2)] := hl
  refine lv_aload_n E.1.1 E.1.2.1 dX11_render_0 rfl (lv_at hl 0 rfl) ?_
  refine row_get (v := .ref (ad 12)) E B iX11 rfl 4 (by decide) mw_389 0 rfl rfl dX11_render_1 ?_
  refine lv_iload_n E.1.1 E.1.2.1 dX11_render_4 rfl (lv_at hl 1 rfl) ?_
  refine call_VI (kn := 1) E B (x_4_hasScholar l D ct tN ad iv ia la pt ra R  p0 h7) (good_V mw_857 mw_858 mw_859 mw_4 mw_860) 12 rfl rfl ⟨rfl, by decide +kernel⟩ rfl rfl rfl ⟨by decide, by decide⟩ rfl hl (Nat.le_of_ble_eq_true rfl) dX11_render_5 ⟨Nat.le_of_ble_eq_true rfl, Nat.le_of_ble_eq_true rfl⟩ (fun v_1 u_2 H locs w_3 B => ?_)
  have w_3 : v_1.toInt = 0 := w_3
  have B : Hp D A s.heap (XW ct ad iv ia la pt ra R) H locs := B
  refine at_n (n := 8) (k1 := 0) (k2 := 0) rfl rfl rfl ?_
  refine b_eq (tgt := 43) E w_3 dX11_render_8 (by decide) (fun c_4 => ?_) (fun c_4 => ?_)
  · skip
    refine lv_iconst (v := -1) E.1.1 E.1.2.1 dX11_render_43 (by decide) ?_
    have r_5 : (-1 : Int32).toInt = -1 := tI_m1
    exact ret_I (u := _) E hr hlk rfl B (by omega) dX11_render_44
  · exfalso; omega
set_option maxHeartbeats 4000000 in
set_option maxRecDepth 100000 in
theorem x_11_vote (l : Launch) (D : va_G) (ct : Nat → ClassId) (tN : Nat) (ad : Nat → Nat) (iv : Nat → Int32) (ia : Nat → Nat → Int32) (la : Nat → Nat → Int64) (pt : Nat → Option Nat) (ra : Nat → Nat → Option Nat) (R : va_W) (p0 : Int32) (p1 : Int32) (p2 : Int32) (h10 : (iv 10).toInt = 0) : MI l D (TY ct) tN yX11_vote cX11_vote 5 (some .boolean) ({ frames := 1, cells := 0, slots := 0, locals := 21 } : Room) [.ref (ad 0), .int p0, .int p1, .int p2] (XW ct ad iv ia la pt ra R) (fun (v : Int32) (u : va_W) => v.toInt = 0) (fun u => u) 0 0 := by
  intro sz
  refine Met.ofE (Qc := fun A => va_Qi (fun (v : Int32) (u : va_W) => v.toInt = 0) (BW D A (fun u => u)) A) (by decide) (Nat.le_of_ble_eq_true rfl) ?_
  intro p e s m args below meth c A ls hsz E hr hlk hnm B hl
  have hl : lv_has ls 5 [(0, .ref (ad 0)), (1, .int p0), (2, .int p1), (3, .int p2)] := hl
  refine lv_aload_n E.1.1 E.1.2.1 dX11_vote_0 rfl (lv_at hl 0 rfl) ?_
  refine row_get (v := .ref (ad 27)) E B iX11 rfl 6 (by decide) mw_391 0 rfl rfl dX11_vote_1 ?_
  refine lv_iload_n E.1.1 E.1.2.1 dX11_vote_4 rfl (lv_at hl 2 rfl) ?_
  refine call_VQ (kn := 1) E B (x_8_at l D ct tN ad iv ia la pt ra R  p1 h10) (good_V mw_936 mw_937 mw_938 mw_6 mw_939) 27 rfl rfl ⟨rfl, by decide +kernel⟩ rfl rfl rfl ⟨by decide, by decide⟩ rfl hl (Nat.le_of_ble_eq_true rfl) dX11_vote_5 ⟨Nat.le_of_ble_eq_true rfl, Nat.le_of_ble_eq_true rfl⟩ (fun v_1 u_2 H locs w_3 B => ?_)
  have w_3 : v_1 = none := w_3
  subst w_3
  have B : Hp D A s.heap (XW ct ad iv ia la pt ra R) H locs := B
  refine at_n (n := 8) (k1 := 0) (k2 := 0) rfl rfl rfl ?_
  refine lv_astoreN (lv' := [(4, .null), (0, .ref (ad 0)), (1, .int p0), (2, .int p1), (3, .int p2)]) E.1.1 E.1.2.1 dX11_vote_8 hl (by decide) rfl (fun ls hl => ?_)
  refine lv_aloadN E.1.1 E.1.2.1 dX11_vote_10 (lv_at hl 0 rfl) ?_
  refine lv_ifnullN (tgt := 34) E.1.1 E.1.2.1 dX11_vote_12 (by decide) ?_
  refine lv_iconst (v := 0) E.1.1 E.1.2.1 dX11_vote_34 (by decide) ?_
  have r_4 : (0 : Int32).toInt = 0 := tI_0
  exact ret_I (u := _) E hr hlk (narrow_z (by omega)) B (by omega) dX11_vote_35
set_option maxHeartbeats 4000000 in
set_option maxRecDepth 100000 in
theorem x_11_close (l : Launch) (D : va_G) (ct : Nat → ClassId) (tN : Nat) (ad : Nat → Nat) (iv : Nat → Int32) (ia : Nat → Nat → Int32) (la : Nat → Nat → Int64) (pt : Nat → Option Nat) (ra : Nat → Nat → Option Nat) (R : va_W) (p0 : Int32) (h10 : (iv 10).toInt = 0) : MI l D (TY ct) tN yX11_close cX11_close 7 (some .int) ({ frames := 1, cells := 0, slots := 0, locals := 21 } : Room) [.ref (ad 0), .int p0] (XW ct ad iv ia la pt ra R) (fun (v : Int32) (u : va_W) => v.toInt = -1) (fun u => u) 0 0 := by
  intro sz
  refine Met.ofE (Qc := fun A => va_Qi (fun (v : Int32) (u : va_W) => v.toInt = -1) (BW D A (fun u => u)) A) (by decide) (Nat.le_of_ble_eq_true rfl) ?_
  intro p e s m args below meth c A ls hsz E hr hlk hnm B hl
  have hl : lv_has ls 7 [(0, .ref (ad 0)), (1, .int p0)] := hl
  refine lv_aload_n E.1.1 E.1.2.1 dX11_close_0 rfl (lv_at hl 0 rfl) ?_
  refine row_get (v := .ref (ad 27)) E B iX11 rfl 6 (by decide) mw_391 0 rfl rfl dX11_close_1 ?_
  refine lv_iload_n E.1.1 E.1.2.1 dX11_close_4 rfl (lv_at hl 1 rfl) ?_
  refine call_VQ (kn := 1) E B (x_8_at l D ct tN ad iv ia la pt ra R  p0 h10) (good_V mw_936 mw_937 mw_938 mw_6 mw_939) 27 rfl rfl ⟨rfl, by decide +kernel⟩ rfl rfl rfl ⟨by decide, by decide⟩ rfl hl (Nat.le_of_ble_eq_true rfl) dX11_close_5 ⟨Nat.le_of_ble_eq_true rfl, Nat.le_of_ble_eq_true rfl⟩ (fun v_1 u_2 H locs w_3 B => ?_)
  have w_3 : v_1 = none := w_3
  subst w_3
  have B : Hp D A s.heap (XW ct ad iv ia la pt ra R) H locs := B
  refine at_n (n := 8) (k1 := 0) (k2 := 0) rfl rfl rfl ?_
  refine lv_astore_nN (lv' := [(2, .null), (0, .ref (ad 0)), (1, .int p0)]) E.1.1 E.1.2.1 dX11_close_8 rfl hl (by decide) rfl (fun ls hl => ?_)
  refine lv_aload_nN E.1.1 E.1.2.1 dX11_close_9 rfl (lv_at hl 0 rfl) ?_
  refine lv_ifnullN (tgt := 20) E.1.1 E.1.2.1 dX11_close_10 (by decide) ?_
  refine lv_iconst (v := -1) E.1.1 E.1.2.1 dX11_close_20 (by decide) ?_
  have r_4 : (-1 : Int32).toInt = -1 := tI_m1
  exact ret_I (u := _) E hr hlk rfl B (by omega) dX11_close_21
set_option maxHeartbeats 4000000 in
set_option maxRecDepth 100000 in
theorem x_11_voids (l : Launch) (D : va_G) (ct : Nat → ClassId) (tN : Nat) (ad : Nat → Nat) (iv : Nat → Int32) (ia : Nat → Nat → Int32) (la : Nat → Nat → Int64) (pt : Nat → Option Nat) (ra : Nat → Nat → Option Nat) (R : va_W) (p0 : Int32) (h7 : (iv 7).toInt = 0) : MI l D (TY ct) tN yX11_voids cX11_voids 2 (some .int) ({ frames := 1, cells := 0, slots := 0, locals := 21 } : Room) [.ref (ad 0), .int p0] (XW ct ad iv ia la pt ra R) (fun (v : Int32) (u : va_W) => v.toInt = -1) (fun u => u) 0 0 := by
  intro sz
  refine Met.ofE (Qc := fun A => va_Qi (fun (v : Int32) (u : va_W) => v.toInt = -1) (BW D A (fun u => u)) A) (by decide) (Nat.le_of_ble_eq_true rfl) ?_
  intro p e s m args below meth c A ls hsz E hr hlk hnm B hl
  have hl : lv_has ls 2 [(0, .ref (ad 0)), (1, .int p0)] := hl
  refine lv_aload_n E.1.1 E.1.2.1 dX11_voids_0 rfl (lv_at hl 0 rfl) ?_
  refine row_get (v := .ref (ad 12)) E B iX11 rfl 4 (by decide) mw_389 0 rfl rfl dX11_voids_1 ?_
  refine lv_iload_n E.1.1 E.1.2.1 dX11_voids_4 rfl (lv_at hl 1 rfl) ?_
  refine call_VI (kn := 1) E B (x_4_hasScholar l D ct tN ad iv ia la pt ra R  p0 h7) (good_V mw_857 mw_858 mw_859 mw_4 mw_860) 12 rfl rfl ⟨rfl, by decide +kernel⟩ rfl rfl rfl ⟨by decide, by decide⟩ rfl hl (Nat.le_of_ble_eq_true rfl) dX11_voids_5 ⟨Nat.le_of_ble_eq_true rfl, Nat.le_of_ble_eq_true rfl⟩ (fun v_1 u_2 H locs w_3 B => ?_)
  have w_3 : v_1.toInt = 0 := w_3
  have B : Hp D A s.heap (XW ct ad iv ia la pt ra R) H locs := B
  refine at_n (n := 8) (k1 := 0) (k2 := 0) rfl rfl rfl ?_
  refine b_eq (tgt := 22) E w_3 dX11_voids_8 (by decide) (fun c_4 => ?_) (fun c_4 => ?_)
  · skip
    refine lv_iconst (v := -1) E.1.1 E.1.2.1 dX11_voids_22 (by decide) ?_
    have r_5 : (-1 : Int32).toInt = -1 := tI_m1
    exact ret_I (u := _) E hr hlk rfl B (by omega) dX11_voids_23
  · exfalso; omega
set_option maxHeartbeats 4000000 in
set_option maxRecDepth 100000 in
theorem x_11_fixed (l : Launch) (D : va_G) (ct : Nat → ClassId) (tN : Nat) (ad : Nat → Nat) (iv : Nat → Int32) (ia : Nat → Nat → Int32) (la : Nat → Nat → Int64) (pt : Nat → Option Nat) (ra : Nat → Nat → Option Nat) (R : va_W) (p0 : Int32) (g29 : ∀ j, (ia 29 j).toInt = -1) : MI l D (TY ct) tN yX11_fixed cX11_fixed 2 (some .int) ({ frames := 1, cells := 0, slots := 0, locals := 21 } : Room) [.ref (ad 0), .int p0] (XW ct ad iv ia la pt ra R) (fun (v : Int32) (u : va_W) => v.toInt = -1) (fun u => u) 0 0 := by
  intro sz
  refine Met.ofE (Qc := fun A => va_Qi (fun (v : Int32) (u : va_W) => v.toInt = -1) (BW D A (fun u => u)) A) (by decide) (Nat.le_of_ble_eq_true rfl) ?_
  intro p e s m args below meth c A ls hsz E hr hlk hnm B hl
  have hl : lv_has ls 2 [(0, .ref (ad 0)), (1, .int p0)] := hl
  refine lv_aload_n E.1.1 E.1.2.1 dX11_fixed_0 rfl (lv_at hl 0 rfl) ?_
  refine row_get (v := .ref (ad 27)) E B iX11 rfl 6 (by decide) mw_391 0 rfl rfl dX11_fixed_1 ?_
  refine lv_iload_n E.1.1 E.1.2.1 dX11_fixed_4 rfl (lv_at hl 1 rfl) ?_
  refine call_VI (kn := 1) E B (x_8_fixedNumber l D ct tN ad iv ia la pt ra R  p0 g29) (good_V mw_1056 mw_993 mw_994 mw_6 mw_995) 27 rfl rfl ⟨rfl, by decide +kernel⟩ rfl rfl rfl ⟨by decide, by decide⟩ rfl hl (Nat.le_of_ble_eq_true rfl) dX11_fixed_5 ⟨Nat.le_of_ble_eq_true rfl, Nat.le_of_ble_eq_true rfl⟩ (fun v_1 u_2 H locs w_3 B => ?_)
  have w_3 : v_1.toInt = -1 := w_3
  have B : Hp D A s.heap (XW ct ad iv ia la pt ra R) H locs := B
  refine at_n (n := 8) (k1 := 0) (k2 := 0) rfl rfl rfl ?_
  have r_4 : v_1.toInt = -1 := w_3
  exact ret_I (u := _) E hr hlk rfl B (by omega) dX11_fixed_8
set_option maxHeartbeats 4000000 in
set_option maxRecDepth 100000 in
theorem x_11_fixedOn (l : Launch) (D : va_G) (ct : Nat → ClassId) (tN : Nat) (ad : Nat → Nat) (iv : Nat → Int32) (ia : Nat → Nat → Int32) (la : Nat → Nat → Int64) (pt : Nat → Option Nat) (ra : Nat → Nat → Option Nat) (R : va_W) (p0 : Int32) (p1 : Int32) (h1 : (iv 1).toInt = 0) (h11 : (iv 11).toInt = 0) : MI l D (TY ct) tN yX11_fixedOn cX11_fixedOn 3 (some .int) ({ frames := 1, cells := 0, slots := 0, locals := 23 } : Room) [.ref (ad 0), .int p0, .int p1] (XW ct ad iv ia la pt ra R) (fun (v : Int32) (u : va_W) => v.toInt = -1) (fun u => u) 0 0 := by
  intro sz
  refine Met.ofE (Qc := fun A => va_Qi (fun (v : Int32) (u : va_W) => v.toInt = -1) (BW D A (fun u => u)) A) (by decide) (Nat.le_of_ble_eq_true rfl) ?_
  intro p e s m args below meth c A ls hsz E hr hlk hnm B hl
  have hl : lv_has ls 3 [(0, .ref (ad 0)), (1, .int p0), (2, .int p1)] := hl
  refine lv_aload_n E.1.1 E.1.2.1 dX11_fixedOn_0 rfl (lv_at hl 0 rfl) ?_
  refine lv_iload_n E.1.1 E.1.2.1 dX11_fixedOn_1 rfl (lv_at hl 2 rfl) ?_
  refine call_VI (kn := 1) E B (x_11_isPastDay l D ct tN ad iv ia la pt ra R  p1 h1) (good_V mw_1061 mw_1063 ms_42 mw_1 mw_1064) 0 rfl rfl ⟨rfl, by decide +kernel⟩ rfl rfl rfl ⟨by decide, by decide⟩ rfl hl (Nat.le_of_ble_eq_true rfl) dX11_fixedOn_2 ⟨Nat.le_of_ble_eq_true rfl, Nat.le_of_ble_eq_true rfl⟩ (fun v_1 u_2 H locs w_3 B => ?_)
  have w_3 : (p1.toInt = 0 ∧ v_1.toInt = 1) ∨ (¬ p1.toInt = 0 ∧ v_1.toInt = 0) := w_3
  have B : Hp D A s.heap (XW ct ad iv ia la pt ra R) H locs := B
  refine at_n (n := 5) (k1 := 0) (k2 := 0) rfl rfl rfl ?_
  refine b_eq (tgt := 20) E rfl dX11_fixedOn_5 (by decide) (fun c_4 => ?_) (fun c_4 => ?_)
  · skip
    refine lv_iconst (v := -1) E.1.1 E.1.2.1 dX11_fixedOn_20 (by decide) ?_
    have r_5 : (-1 : Int32).toInt = -1 := tI_m1
    exact ret_I (u := _) E hr hlk rfl B (by omega) dX11_fixedOn_21
  · skip
    refine lv_aload_n E.1.1 E.1.2.1 dX11_fixedOn_8 rfl (lv_at hl 0 rfl) ?_
    refine row_get (v := .ref (ad 27)) E B iX11 rfl 6 (by decide) mw_391 0 rfl rfl dX11_fixedOn_9 ?_
    refine lv_iload_n E.1.1 E.1.2.1 dX11_fixedOn_12 rfl (lv_at hl 1 rfl) ?_
    refine lv_iload_n E.1.1 E.1.2.1 dX11_fixedOn_13 rfl (lv_at hl 2 rfl) ?_
    refine call_VI (kn := 2) E B (x_8_fixedThen l D ct tN ad iv ia la pt ra R  p0 p1 h11) (good_V mw_1065 mw_1066 mw_1067 mw_6 mw_1068) 27 rfl rfl ⟨rfl, by decide +kernel⟩ rfl rfl rfl ⟨by decide, by decide⟩ rfl hl (Nat.le_of_ble_eq_true rfl) dX11_fixedOn_14 ⟨Nat.le_of_ble_eq_true rfl, Nat.le_of_ble_eq_true rfl⟩ (fun v_6 u_7 H locs w_8 B => ?_)
    have w_8 : v_6.toInt = -1 := w_8
    have B : Hp D A s.heap (XW ct ad iv ia la pt ra R) H locs := B
    refine at_n (n := 17) (k1 := 0) (k2 := 0) rfl rfl rfl ?_
    refine lv_goto (tgt := 21) E.1.1 E.1.2.1 dX11_fixedOn_17 (by decide) ?_
    have r_9 : v_6.toInt = -1 := w_8
    exact ret_I (u := _) E hr hlk rfl B (by omega) dX11_fixedOn_21
set_option maxHeartbeats 4000000 in
set_option maxRecDepth 100000 in
theorem x_11_breaches (l : Launch) (D : va_G) (ct : Nat → ClassId) (tN : Nat) (ad : Nat → Nat) (iv : Nat → Int32) (ia : Nat → Nat → Int32) (la : Nat → Nat → Int64) (pt : Nat → Option Nat) (ra : Nat → Nat → Option Nat) (R : va_W) (p0 : Int32) (h10 : (iv 10).toInt = 0) : MI l D (TY ct) tN yX11_breaches cX11_breaches 3 (some .int) ({ frames := 1, cells := 0, slots := 0, locals := 21 } : Room) [.ref (ad 0), .int p0] (XW ct ad iv ia la pt ra R) (fun (v : Int32) (u : va_W) => v.toInt = -1) (fun u => u) 0 0 := by
  intro sz
  refine Met.ofE (Qc := fun A => va_Qi (fun (v : Int32) (u : va_W) => v.toInt = -1) (BW D A (fun u => u)) A) (by decide) (Nat.le_of_ble_eq_true rfl) ?_
  intro p e s m args below meth c A ls hsz E hr hlk hnm B hl
  have hl : lv_has ls 3 [(0, .ref (ad 0)), (1, .int p0)] := hl
  refine lv_aload_n E.1.1 E.1.2.1 dX11_breaches_0 rfl (lv_at hl 0 rfl) ?_
  refine row_get (v := .ref (ad 27)) E B iX11 rfl 6 (by decide) mw_391 0 rfl rfl dX11_breaches_1 ?_
  refine lv_iload_n E.1.1 E.1.2.1 dX11_breaches_4 rfl (lv_at hl 1 rfl) ?_
  refine call_VQ (kn := 1) E B (x_8_at l D ct tN ad iv ia la pt ra R  p0 h10) (good_V mw_936 mw_937 mw_938 mw_6 mw_939) 27 rfl rfl ⟨rfl, by decide +kernel⟩ rfl rfl rfl ⟨by decide, by decide⟩ rfl hl (Nat.le_of_ble_eq_true rfl) dX11_breaches_5 ⟨Nat.le_of_ble_eq_true rfl, Nat.le_of_ble_eq_true rfl⟩ (fun v_1 u_2 H locs w_3 B => ?_)
  have w_3 : v_1 = none := w_3
  subst w_3
  have B : Hp D A s.heap (XW ct ad iv ia la pt ra R) H locs := B
  refine at_n (n := 8) (k1 := 0) (k2 := 0) rfl rfl rfl ?_
  refine lv_astore_nN (lv' := [(2, .null), (0, .ref (ad 0)), (1, .int p0)]) E.1.1 E.1.2.1 dX11_breaches_8 rfl hl (by decide) rfl (fun ls hl => ?_)
  refine lv_aload_nN E.1.1 E.1.2.1 dX11_breaches_9 rfl (lv_at hl 0 rfl) ?_
  refine lv_ifnonnullN E.1.1 E.1.2.1 dX11_breaches_10 ?_
  refine lv_iconst (v := -1) E.1.1 E.1.2.1 dX11_breaches_13 (by decide) ?_
  have r_4 : (-1 : Int32).toInt = -1 := tI_m1
  exact ret_I (u := _) E hr hlk rfl B (by omega) dX11_breaches_14
set_option maxHeartbeats 4000000 in
set_option maxRecDepth 100000 in
theorem x_11_breach (l : Launch) (D : va_G) (ct : Nat → ClassId) (tN : Nat) (ad : Nat → Nat) (iv : Nat → Int32) (ia : Nat → Nat → Int32) (la : Nat → Nat → Int64) (pt : Nat → Option Nat) (ra : Nat → Nat → Option Nat) (R : va_W) (p0 : Int32) (p1 : Int32) (p2 : Int32) (h10 : (iv 10).toInt = 0) : MI l D (TY ct) tN yX11_breach cX11_breach 5 (some .int) ({ frames := 1, cells := 0, slots := 0, locals := 21 } : Room) [.ref (ad 0), .int p0, .int p1, .int p2] (XW ct ad iv ia la pt ra R) (fun (v : Int32) (u : va_W) => v.toInt = -1) (fun u => u) 0 0 := by
  intro sz
  refine Met.ofE (Qc := fun A => va_Qi (fun (v : Int32) (u : va_W) => v.toInt = -1) (BW D A (fun u => u)) A) (by decide) (Nat.le_of_ble_eq_true rfl) ?_
  intro p e s m args below meth c A ls hsz E hr hlk hnm B hl
  have hl : lv_has ls 5 [(0, .ref (ad 0)), (1, .int p0), (2, .int p1), (3, .int p2)] := hl
  refine lv_aload_n E.1.1 E.1.2.1 dX11_breach_0 rfl (lv_at hl 0 rfl) ?_
  refine row_get (v := .ref (ad 27)) E B iX11 rfl 6 (by decide) mw_391 0 rfl rfl dX11_breach_1 ?_
  refine lv_iload_n E.1.1 E.1.2.1 dX11_breach_4 rfl (lv_at hl 1 rfl) ?_
  refine call_VQ (kn := 1) E B (x_8_at l D ct tN ad iv ia la pt ra R  p0 h10) (good_V mw_936 mw_937 mw_938 mw_6 mw_939) 27 rfl rfl ⟨rfl, by decide +kernel⟩ rfl rfl rfl ⟨by decide, by decide⟩ rfl hl (Nat.le_of_ble_eq_true rfl) dX11_breach_5 ⟨Nat.le_of_ble_eq_true rfl, Nat.le_of_ble_eq_true rfl⟩ (fun v_1 u_2 H locs w_3 B => ?_)
  have w_3 : v_1 = none := w_3
  subst w_3
  have B : Hp D A s.heap (XW ct ad iv ia la pt ra R) H locs := B
  refine at_n (n := 8) (k1 := 0) (k2 := 0) rfl rfl rfl ?_
  refine lv_astoreN (lv' := [(4, .null), (0, .ref (ad 0)), (1, .int p0), (2, .int p1), (3, .int p2)]) E.1.1 E.1.2.1 dX11_breach_8 hl (by decide) rfl (fun ls hl => ?_)
  refine lv_aloadN E.1.1 E.1.2.1 dX11_breach_10 (lv_at hl 0 rfl) ?_
  refine lv_ifnullN (tgt := 28) E.1.1 E.1.2.1 dX11_breach_12 (by decide) ?_
  refine lv_iconst (v := -1) E.1.1 E.1.2.1 dX11_breach_28 (by decide) ?_
  have r_4 : (-1 : Int32).toInt = -1 := tI_m1
  exact ret_I (u := _) E hr hlk rfl B (by omega) dX11_breach_29
set_option maxHeartbeats 4000000 in
set_option maxRecDepth 100000 in
theorem x_11_quarrel (l : Launch) (D : va_G) (ct : Nat → ClassId) (tN : Nat) (ad : Nat → Nat) (iv : Nat → Int32) (ia : Nat → Nat → Int32) (la : Nat → Nat → Int64) (pt : Nat → Option Nat) (ra : Nat → Nat → Option Nat) (R : va_W) (p0 : Int32) (p1 : Int32) (p2 : Int32) (h3 : (iv 3).toInt = 0) : MI l D (TY ct) tN yX11_quarrel cX11_quarrel 4 (some .int) ({ frames := 1, cells := 0, slots := 0, locals := 21 } : Room) [.ref (ad 0), .int p0, .int p1, .int p2] (XW ct ad iv ia la pt ra R) (fun (v : Int32) (u : va_W) => v.toInt = -1) (fun u => u) 0 0 := by
  intro sz
  refine Met.ofE (Qc := fun A => va_Qi (fun (v : Int32) (u : va_W) => v.toInt = -1) (BW D A (fun u => u)) A) (by decide) (Nat.le_of_ble_eq_true rfl) ?_
  intro p e s m args below meth c A ls hsz E hr hlk hnm B hl
  have hl : lv_has ls 4 [(0, .ref (ad 0)), (1, .int p0), (2, .int p1), (3, .int p2)] := hl
  refine lv_aload_n E.1.1 E.1.2.1 dX11_quarrel_0 rfl (lv_at hl 0 rfl) ?_
  refine row_get (v := .ref (ad 6)) E B iX11 rfl 3 (by decide) mw_388 0 rfl rfl dX11_quarrel_1 ?_
  refine lv_iload_n E.1.1 E.1.2.1 dX11_quarrel_4 rfl (lv_at hl 1 rfl) ?_
  refine call_VI (kn := 1) E B (x_9_has l D ct tN ad iv ia la pt ra R  p0 h3) (good_V mw_455 mw_456 mw_457 mw_3 mw_458) 6 rfl rfl ⟨rfl, by decide +kernel⟩ rfl rfl rfl ⟨by decide, by decide⟩ rfl hl (Nat.le_of_ble_eq_true rfl) dX11_quarrel_5 ⟨Nat.le_of_ble_eq_true rfl, Nat.le_of_ble_eq_true rfl⟩ (fun v_1 u_2 H locs w_3 B => ?_)
  have w_3 : v_1.toInt = 0 := w_3
  have B : Hp D A s.heap (XW ct ad iv ia la pt ra R) H locs := B
  refine at_n (n := 8) (k1 := 0) (k2 := 0) rfl rfl rfl ?_
  refine b_eq (tgt := 24) E w_3 dX11_quarrel_8 (by decide) (fun c_4 => ?_) (fun c_4 => ?_)
  · skip
    refine lv_iconst (v := -1) E.1.1 E.1.2.1 dX11_quarrel_24 (by decide) ?_
    have r_5 : (-1 : Int32).toInt = -1 := tI_m1
    exact ret_I (u := _) E hr hlk rfl B (by omega) dX11_quarrel_25
  · exfalso; omega
set_option maxHeartbeats 4000000 in
set_option maxRecDepth 100000 in
theorem x_11_unlike (l : Launch) (D : va_G) (ct : Nat → ClassId) (tN : Nat) (ad : Nat → Nat) (iv : Nat → Int32) (ia : Nat → Nat → Int32) (la : Nat → Nat → Int64) (pt : Nat → Option Nat) (ra : Nat → Nat → Option Nat) (R : va_W) (p0 : Int32) (p1 : Int32) (h1 : (iv 1).toInt = 0) (h3 : (iv 3).toInt = 0) : MI l D (TY ct) tN yX11_unlike cX11_unlike 3 (some .int) ({ frames := 2, cells := 0, slots := 0, locals := 44 } : Room) [.ref (ad 0), .int p0, .int p1] (XW ct ad iv ia la pt ra R) (fun (v : Int32) (u : va_W) => v.toInt = -1) (fun u => u) 0 0 := by
  intro sz
  refine Met.ofE (Qc := fun A => va_Qi (fun (v : Int32) (u : va_W) => v.toInt = -1) (BW D A (fun u => u)) A) (by decide) (Nat.le_of_ble_eq_true rfl) ?_
  intro p e s m args below meth c A ls hsz E hr hlk hnm B hl
  have hl : lv_has ls 3 [(0, .ref (ad 0)), (1, .int p0), (2, .int p1)] := hl
  refine lv_iload_n E.1.1 E.1.2.1 dX11_unlike_0 rfl (lv_at hl 1 rfl) ?_
  refine b_lt (tgt := 13) E rfl dX11_unlike_1 (by decide) (fun c_1 => ?_) (fun c_1 => ?_)
  · skip
    refine lv_iconst (v := -1) E.1.1 E.1.2.1 dX11_unlike_13 (by decide) ?_
    have r_2 : (-1 : Int32).toInt = -1 := tI_m1
    exact ret_I (u := _) E hr hlk rfl B (by omega) dX11_unlike_14
  · skip
    refine lv_iload_n E.1.1 E.1.2.1 dX11_unlike_4 rfl (lv_at hl 2 rfl) ?_
    refine b_lt (tgt := 13) E rfl dX11_unlike_5 (by decide) (fun c_3 => ?_) (fun c_3 => ?_)
    · skip
      refine lv_iconst (v := -1) E.1.1 E.1.2.1 dX11_unlike_13 (by decide) ?_
      have r_4 : (-1 : Int32).toInt = -1 := tI_m1
      exact ret_I (u := _) E hr hlk rfl B (by omega) dX11_unlike_14
    · skip
      refine lv_iload_n E.1.1 E.1.2.1 dX11_unlike_8 rfl (lv_at hl 2 rfl) ?_
      refine lv_iconst (v := 3) E.1.1 E.1.2.1 dX11_unlike_9 (by decide) ?_
      refine c_le (tgt := 15) E rfl tI_3 dX11_unlike_10 (by decide) (fun c_5 => ?_) (fun c_5 => ?_)
      · skip
        refine lv_aload_n E.1.1 E.1.2.1 dX11_unlike_15 rfl (lv_at hl 0 rfl) ?_
        refine row_get (v := .ref (ad 35)) E B iX11 rfl 9 (by decide) mw_394 0 rfl rfl dX11_unlike_16 ?_
        refine lv_aload_n E.1.1 E.1.2.1 dX11_unlike_19 rfl (lv_at hl 0 rfl) ?_
        refine row_get (v := .int (iv 1)) E B iX11 rfl 13 (by decide) mw_398 0 rfl rfl dX11_unlike_20 ?_
        refine lv_iload_n E.1.1 E.1.2.1 dX11_unlike_23 rfl (lv_at hl 1 rfl) ?_
        refine call_VI (kn := 2) E B (x_1_seekUnlike l D ct tN ad iv ia la pt ra R  ((iv 1)) p0 h3) (good_V mw_1145 mw_1146 mw_1147 mw_9 mw_1148) 35 rfl rfl ⟨rfl, by decide +kernel⟩ rfl rfl rfl ⟨by decide, by decide⟩ rfl hl (Nat.le_of_ble_eq_true rfl) dX11_unlike_24 ⟨Nat.le_of_ble_eq_true rfl, Nat.le_of_ble_eq_true rfl⟩ (fun v_6 u_7 H locs w_8 B => ?_)
        obtain ⟨w_8, h_9⟩ := w_8
        have h_9 : (u_7 29).toInt = 0 := h_9
        have w_8 : v_6.toInt = 0 := w_8
        have B : Hp D A s.heap (XW ct ad u_7 ia la pt ra R) H locs := B
        refine at_n (n := 27) (k1 := 0) (k2 := 0) rfl rfl rfl ?_
        refine b_eq (tgt := 41) E w_8 dX11_unlike_27 (by decide) (fun c_10 => ?_) (fun c_10 => ?_)
        · skip
          refine lv_iconst (v := -1) E.1.1 E.1.2.1 dX11_unlike_41 (by decide) ?_
          have r_11 : (-1 : Int32).toInt = -1 := tI_m1
          exact ret_I (u := _) E hr hlk rfl B (by omega) dX11_unlike_42
        · exfalso; omega
      · skip
        refine lv_iconst (v := -1) E.1.1 E.1.2.1 dX11_unlike_13 (by decide) ?_
        have r_12 : (-1 : Int32).toInt = -1 := tI_m1
        exact ret_I (u := _) E hr hlk rfl B (by omega) dX11_unlike_14
set_option maxHeartbeats 4000000 in
set_option maxRecDepth 100000 in
theorem x_11_option (l : Launch) (D : va_G) (ct : Nat → ClassId) (tN : Nat) (ad : Nat → Nat) (iv : Nat → Int32) (ia : Nat → Nat → Int32) (la : Nat → Nat → Int64) (pt : Nat → Option Nat) (ra : Nat → Nat → Option Nat) (R : va_W) (p0 : Int32) (p1 : Int32) (h2 : (iv 2).toInt = 0) : MI l D (TY ct) tN yX11_option cX11_option 3 (some .boolean) ({ frames := 1, cells := 0, slots := 0, locals := 21 } : Room) [.ref (ad 0), .int p0, .int p1] (XW ct ad iv ia la pt ra R) (fun (v : Int32) (u : va_W) => v.toInt = 0) (fun u => u) 0 0 := by
  intro sz
  refine Met.ofE (Qc := fun A => va_Qi (fun (v : Int32) (u : va_W) => v.toInt = 0) (BW D A (fun u => u)) A) (by decide) (Nat.le_of_ble_eq_true rfl) ?_
  intro p e s m args below meth c A ls hsz E hr hlk hnm B hl
  have hl : lv_has ls 3 [(0, .ref (ad 0)), (1, .int p0), (2, .int p1)] := hl
  refine lv_iload_n E.1.1 E.1.2.1 dX11_option_0 rfl (lv_at hl 1 rfl) ?_
  refine call_SI (kn := 1) E B (x_11_isSign l D ct tN ad iv ia la pt ra R  p0 ) (good_S mw_1190 mw_1191 mw_1 mw_1192) (by decide +kernel) rfl rfl rfl ⟨by decide, by decide⟩ rfl hl (Nat.le_of_ble_eq_true rfl) dX11_option_1 ⟨Nat.le_of_ble_eq_true rfl, Nat.le_of_ble_eq_true rfl⟩ (fun v_1 u_2 H locs w_3 B => ?_)
  have w_3 : (0 ≤ p0.toInt ∧ p0.toInt ≤ 39 ∧ v_1.toInt = 1) ∨ ((p0.toInt < 0 ∨ 39 < p0.toInt) ∧ v_1.toInt = 0) := w_3
  have B : Hp D A s.heap (XW ct ad iv ia la pt ra R) H locs := B
  refine at_n (n := 4) (k1 := 0) (k2 := 0) rfl rfl rfl ?_
  refine b_eq (tgt := 34) E rfl dX11_option_4 (by decide) (fun c_4 => ?_) (fun c_4 => ?_)
  · skip
    refine lv_iconst (v := 0) E.1.1 E.1.2.1 dX11_option_34 (by decide) ?_
    have r_5 : (0 : Int32).toInt = 0 := tI_0
    exact ret_I (u := _) E hr hlk (narrow_z (by omega)) B (by omega) dX11_option_35
  · skip
    refine lv_aload_n E.1.1 E.1.2.1 dX11_option_7 rfl (lv_at hl 0 rfl) ?_
    refine row_get (v := .ref (ad 3)) E B iX11 rfl 2 (by decide) mw_387 0 rfl rfl dX11_option_8 ?_
    refine lv_iload_n E.1.1 E.1.2.1 dX11_option_11 rfl (lv_at hl 2 rfl) ?_
    refine call_VI (kn := 1) E B (x_10_has l D ct tN ad iv ia la pt ra R  p1 h2) (good_V mw_510 mw_511 mw_512 mw_2 mw_513) 3 rfl rfl ⟨rfl, by decide +kernel⟩ rfl rfl rfl ⟨by decide, by decide⟩ rfl hl (Nat.le_of_ble_eq_true rfl) dX11_option_12 ⟨Nat.le_of_ble_eq_true rfl, Nat.le_of_ble_eq_true rfl⟩ (fun v_6 u_7 H locs w_8 B => ?_)
    have w_8 : v_6.toInt = 0 := w_8
    have B : Hp D A s.heap (XW ct ad iv ia la pt ra R) H locs := B
    refine at_n (n := 15) (k1 := 0) (k2 := 0) rfl rfl rfl ?_
    refine b_eq (tgt := 34) E w_8 dX11_option_15 (by decide) (fun c_9 => ?_) (fun c_9 => ?_)
    · skip
      refine lv_iconst (v := 0) E.1.1 E.1.2.1 dX11_option_34 (by decide) ?_
      have r_10 : (0 : Int32).toInt = 0 := tI_0
      exact ret_I (u := _) E hr hlk (narrow_z (by omega)) B (by omega) dX11_option_35
    · exfalso; omega
set_option maxHeartbeats 4000000 in
set_option maxRecDepth 100000 in
theorem x_11_apart (l : Launch) (D : va_G) (ct : Nat → ClassId) (tN : Nat) (ad : Nat → Nat) (iv : Nat → Int32) (ia : Nat → Nat → Int32) (la : Nat → Nat → Int64) (pt : Nat → Option Nat) (ra : Nat → Nat → Option Nat) (R : va_W) (p0 : Int32) (p1 : Int32) (l46 : ∀ j, la 46 j = 0) : MI l D (TY ct) tN yX11_apart cX11_apart 3 (some .boolean) ({ frames := 2, cells := 0, slots := 0, locals := 44 } : Room) [.ref (ad 0), .int p0, .int p1] (XW ct ad iv ia la pt ra R) (fun (v : Int32) (u : va_W) => ((0 ≤ p0.toInt ∧ p0.toInt ≤ 39 ∧ 0 ≤ p1.toInt ∧ p1.toInt ≤ 39 ∧ ¬ p0.toInt = p1.toInt) ∧ v.toInt = 1) ∨ (¬ (0 ≤ p0.toInt ∧ p0.toInt ≤ 39 ∧ 0 ≤ p1.toInt ∧ p1.toInt ≤ 39 ∧ ¬ p0.toInt = p1.toInt) ∧ v.toInt = 0)) (fun u => u) 0 0 := by
  intro sz
  refine Met.ofE (Qc := fun A => va_Qi (fun (v : Int32) (u : va_W) => ((0 ≤ p0.toInt ∧ p0.toInt ≤ 39 ∧ 0 ≤ p1.toInt ∧ p1.toInt ≤ 39 ∧ ¬ p0.toInt = p1.toInt) ∧ v.toInt = 1) ∨ (¬ (0 ≤ p0.toInt ∧ p0.toInt ≤ 39 ∧ 0 ≤ p1.toInt ∧ p1.toInt ≤ 39 ∧ ¬ p0.toInt = p1.toInt) ∧ v.toInt = 0)) (BW D A (fun u => u)) A) (by decide) (Nat.le_of_ble_eq_true rfl) ?_
  intro p e s m args below meth c A ls hsz E hr hlk hnm B hl
  have hl : lv_has ls 3 [(0, .ref (ad 0)), (1, .int p0), (2, .int p1)] := hl
  refine lv_iload_n E.1.1 E.1.2.1 dX11_apart_0 rfl (lv_at hl 1 rfl) ?_
  refine call_SI (kn := 1) E B (x_11_isSign l D ct tN ad iv ia la pt ra R  p0 ) (good_S mw_1190 mw_1191 mw_1 mw_1192) (by decide +kernel) rfl rfl rfl ⟨by decide, by decide⟩ rfl hl (Nat.le_of_ble_eq_true rfl) dX11_apart_1 ⟨Nat.le_of_ble_eq_true rfl, Nat.le_of_ble_eq_true rfl⟩ (fun v_1 u_2 H locs w_3 B => ?_)
  have w_3 : (0 ≤ p0.toInt ∧ p0.toInt ≤ 39 ∧ v_1.toInt = 1) ∨ ((p0.toInt < 0 ∨ 39 < p0.toInt) ∧ v_1.toInt = 0) := w_3
  have B : Hp D A s.heap (XW ct ad iv ia la pt ra R) H locs := B
  refine at_n (n := 4) (k1 := 0) (k2 := 0) rfl rfl rfl ?_
  refine b_eq (tgt := 35) E rfl dX11_apart_4 (by decide) (fun c_4 => ?_) (fun c_4 => ?_)
  · skip
    refine lv_iconst (v := 0) E.1.1 E.1.2.1 dX11_apart_35 (by decide) ?_
    have r_5 : (0 : Int32).toInt = 0 := tI_0
    exact ret_I (u := _) E hr hlk (narrow_z (by omega)) B (by omega) dX11_apart_36
  · skip
    refine lv_iload_n E.1.1 E.1.2.1 dX11_apart_7 rfl (lv_at hl 2 rfl) ?_
    refine call_SI (kn := 1) E B (x_11_isSign l D ct tN ad iv ia la pt ra R  p1 ) (good_S mw_1190 mw_1191 mw_1 mw_1192) (by decide +kernel) rfl rfl rfl ⟨by decide, by decide⟩ rfl hl (Nat.le_of_ble_eq_true rfl) dX11_apart_8 ⟨Nat.le_of_ble_eq_true rfl, Nat.le_of_ble_eq_true rfl⟩ (fun v_6 u_7 H locs w_8 B => ?_)
    have w_8 : (0 ≤ p1.toInt ∧ p1.toInt ≤ 39 ∧ v_6.toInt = 1) ∨ ((p1.toInt < 0 ∨ 39 < p1.toInt) ∧ v_6.toInt = 0) := w_8
    have B : Hp D A s.heap (XW ct ad iv ia la pt ra R) H locs := B
    refine at_n (n := 11) (k1 := 0) (k2 := 0) rfl rfl rfl ?_
    refine b_eq (tgt := 35) E rfl dX11_apart_11 (by decide) (fun c_9 => ?_) (fun c_9 => ?_)
    · skip
      refine lv_iconst (v := 0) E.1.1 E.1.2.1 dX11_apart_35 (by decide) ?_
      have r_10 : (0 : Int32).toInt = 0 := tI_0
      exact ret_I (u := _) E hr hlk (narrow_z (by omega)) B (by omega) dX11_apart_36
    · skip
      refine lv_iload_n E.1.1 E.1.2.1 dX11_apart_14 rfl (lv_at hl 1 rfl) ?_
      refine lv_iload_n E.1.1 E.1.2.1 dX11_apart_15 rfl (lv_at hl 2 rfl) ?_
      refine c_eq (tgt := 35) E rfl rfl dX11_apart_16 (by decide) (fun c_11 => ?_) (fun c_11 => ?_)
      · skip
        refine lv_iconst (v := 0) E.1.1 E.1.2.1 dX11_apart_35 (by decide) ?_
        have r_12 : (0 : Int32).toInt = 0 := tI_0
        exact ret_I (u := _) E hr hlk (narrow_z (by omega)) B (by omega) dX11_apart_36
      · skip
        refine lv_aload_n E.1.1 E.1.2.1 dX11_apart_19 rfl (lv_at hl 0 rfl) ?_
        refine row_get (v := .ref (ad 42)) E B iX11 rfl 10 (by decide) mw_395 0 rfl rfl dX11_apart_20 ?_
        refine lv_iload_n E.1.1 E.1.2.1 dX11_apart_23 rfl (lv_at hl 1 rfl) ?_
        refine lv_iload_n E.1.1 E.1.2.1 dX11_apart_24 rfl (lv_at hl 2 rfl) ?_
        refine call_VI (kn := 2) E B (x_0_part l D ct tN ad iv ia la pt ra R  p0 p1 l46 (by omega) (by omega) (by omega) (by omega)) (good_V mw_1209 mw_1210 mw_1211 mw_10 mw_1212) 42 rfl rfl ⟨rfl, by decide +kernel⟩ rfl rfl rfl ⟨by decide, by decide⟩ rfl hl (Nat.le_of_ble_eq_true rfl) dX11_apart_25 ⟨Nat.le_of_ble_eq_true rfl, Nat.le_of_ble_eq_true rfl⟩ (fun v_13 u_14 H locs w_15 B => ?_)
        have w_15 : v_13.toInt = 1 := w_15
        have B : Hp D A s.heap (_) H locs := B
        refine at_n (n := 28) (k1 := 0) (k2 := 0) rfl rfl rfl ?_
        refine b_eq (tgt := 35) E w_15 dX11_apart_28 (by decide) (fun c_16 => ?_) (fun c_16 => ?_)
        · exfalso; omega
        · skip
          refine lv_iconst (v := 1) E.1.1 E.1.2.1 dX11_apart_31 (by decide) ?_
          refine lv_goto (tgt := 36) E.1.1 E.1.2.1 dX11_apart_32 (by decide) ?_
          have r_17 : (1 : Int32).toInt = 1 := tI_1
          exact ret_I (u := _) E hr hlk (narrow_z (by omega)) B (by omega) dX11_apart_36
set_option maxHeartbeats 4000000 in
set_option maxRecDepth 100000 in
theorem x_11_cost (l : Launch) (D : va_G) (ct : Nat → ClassId) (tN : Nat) (ad : Nat → Nat) (iv : Nat → Int32) (ia : Nat → Nat → Int32) (la : Nat → Nat → Int64) (pt : Nat → Option Nat) (ra : Nat → Nat → Option Nat) (R : va_W) (p0 : Int32) (h1 : (iv 1).toInt = 0) (h30 : (iv 30).toInt = 0) : MI l D (TY ct) tN yX11_cost cX11_cost 2 (some .int) ({ frames := 1, cells := 0, slots := 0, locals := 23 } : Room) [.ref (ad 0), .int p0] (XW ct ad iv ia la pt ra R) (fun (v : Int32) (u : va_W) => (p0.toInt = 0 ∧ v.toInt = 0) ∨ (¬ p0.toInt = 0 ∧ v.toInt = -1)) (fun u => u) 0 0 := by
  intro sz
  refine Met.ofE (Qc := fun A => va_Qi (fun (v : Int32) (u : va_W) => (p0.toInt = 0 ∧ v.toInt = 0) ∨ (¬ p0.toInt = 0 ∧ v.toInt = -1)) (BW D A (fun u => u)) A) (by decide) (Nat.le_of_ble_eq_true rfl) ?_
  intro p e s m args below meth c A ls hsz E hr hlk hnm B hl
  have hl : lv_has ls 2 [(0, .ref (ad 0)), (1, .int p0)] := hl
  refine lv_aload_n E.1.1 E.1.2.1 dX11_cost_0 rfl (lv_at hl 0 rfl) ?_
  refine row_get (v := .ref (ad 42)) E B iX11 rfl 10 (by decide) mw_395 0 rfl rfl dX11_cost_1 ?_
  refine lv_iload_n E.1.1 E.1.2.1 dX11_cost_4 rfl (lv_at hl 1 rfl) ?_
  refine call_VI (kn := 1) E B (x_0_readRow l D ct tN ad iv ia la pt ra R  p0 h30) (good_V mw_1221 mw_1222 mw_1223 mw_10 mw_1224) 42 rfl rfl ⟨rfl, by decide +kernel⟩ rfl rfl rfl ⟨by decide, by decide⟩ rfl hl (Nat.le_of_ble_eq_true rfl) dX11_cost_5 ⟨Nat.le_of_ble_eq_true rfl, Nat.le_of_ble_eq_true rfl⟩ (fun v_1 u_2 H locs w_3 B => ?_)
  have w_3 : (p0.toInt = 0 ∧ v_1.toInt = 1) ∨ (¬ p0.toInt = 0 ∧ v_1.toInt = 0) := w_3
  have B : Hp D A s.heap (XW ct ad iv ia la pt ra R) H locs := B
  refine at_n (n := 8) (k1 := 0) (k2 := 0) rfl rfl rfl ?_
  refine b_ne (tgt := 13) E rfl dX11_cost_8 (by decide) (fun c_4 => ?_) (fun c_4 => ?_)
  · skip
    refine lv_aload_n E.1.1 E.1.2.1 dX11_cost_13 rfl (lv_at hl 0 rfl) ?_
    refine row_get (v := .ref (ad 42)) E B iX11 rfl 10 (by decide) mw_395 0 rfl rfl dX11_cost_14 ?_
    refine lv_aload_n E.1.1 E.1.2.1 dX11_cost_17 rfl (lv_at hl 0 rfl) ?_
    refine row_get (v := .int (iv 1)) E B iX11 rfl 13 (by decide) mw_398 0 rfl rfl dX11_cost_18 ?_
    refine call_VV (kn := 1) E B (x_0_reckon l D ct tN ad iv ia la pt ra R  ((iv 1)) h30) (good_V mw_1225 mw_1226 mw_1227 mw_10 mw_1228) 42 rfl rfl ⟨rfl, by decide +kernel⟩ rfl rfl rfl ⟨by decide, by decide⟩ rfl hl (Nat.le_of_ble_eq_true rfl) dX11_cost_21 ⟨Nat.le_of_ble_eq_true rfl, Nat.le_of_ble_eq_true rfl⟩ (fun u_6 H locs w_7 B => ?_)
    have B : Hp D A s.heap (XW ct ad iv u_6 la pt ra R) H locs := B
    refine at_n (n := 24) (k1 := 0) (k2 := 0) rfl rfl rfl ?_
    refine lv_aload_n E.1.1 E.1.2.1 dX11_cost_24 rfl (lv_at hl 0 rfl) ?_
    refine row_get (v := .ref (ad 42)) E B iX11 rfl 10 (by decide) mw_395 0 rfl rfl dX11_cost_25 ?_
    refine call_VI (kn := 0) E B (x_0_priceOfRow l D ct tN ad iv u_6 la pt ra R   h30) (good_V mw_1260 mw_1261 mw_1262 mw_10 mw_1263) 42 rfl rfl ⟨rfl, by decide +kernel⟩ rfl rfl rfl ⟨by decide, by decide⟩ rfl hl (Nat.le_of_ble_eq_true rfl) dX11_cost_28 ⟨Nat.le_of_ble_eq_true rfl, Nat.le_of_ble_eq_true rfl⟩ (fun v_8 u_9 H locs w_10 B => ?_)
    have w_10 : v_8.toInt = 0 := w_10
    have B : Hp D A s.heap (XW ct ad iv u_6 la pt ra R) H locs := B
    refine at_n (n := 31) (k1 := 0) (k2 := 0) rfl rfl rfl ?_
    have r_11 : v_8.toInt = 0 := w_10
    exact ret_I (u := _) E hr hlk rfl B (by omega) dX11_cost_31
  · skip
    refine lv_iconst (v := -1) E.1.1 E.1.2.1 dX11_cost_11 (by decide) ?_
    have r_12 : (-1 : Int32).toInt = -1 := tI_m1
    exact ret_I (u := _) E hr hlk rfl B (by omega) dX11_cost_12
set_option maxHeartbeats 4000000 in
set_option maxRecDepth 100000 in
theorem x_11_one (l : Launch) (D : va_G) (ct : Nat → ClassId) (tN : Nat) (ad : Nat → Nat) (iv : Nat → Int32) (ia : Nat → Nat → Int32) (la : Nat → Nat → Int64) (pt : Nat → Option Nat) (ra : Nat → Nat → Option Nat) (R : va_W)  (h1 : (iv 1).toInt = 0) (h30 : (iv 30).toInt = 0) : MI l D (TY ct) tN yX11_one cX11_one 1 (some .int) ({ frames := 3, cells := 0, slots := 0, locals := 65 } : Room) [.ref (ad 0)] (XW ct ad iv ia la pt ra R) (fun (v : Int32) (u : va_W) => v.toInt = 0) (fun u => u) 0 0 := by
  intro sz
  refine Met.ofE (Qc := fun A => va_Qi (fun (v : Int32) (u : va_W) => v.toInt = 0) (BW D A (fun u => u)) A) (by decide) (Nat.le_of_ble_eq_true rfl) ?_
  intro p e s m args below meth c A ls hsz E hr hlk hnm B hl
  have hl : lv_has ls 1 [(0, .ref (ad 0))] := hl
  refine lv_aload_n E.1.1 E.1.2.1 dX11_one_0 rfl (lv_at hl 0 rfl) ?_
  refine row_get (v := .ref (ad 42)) E B iX11 rfl 10 (by decide) mw_395 0 rfl rfl dX11_one_1 ?_
  refine lv_aload_n E.1.1 E.1.2.1 dX11_one_4 rfl (lv_at hl 0 rfl) ?_
  refine row_get (v := .int (iv 1)) E B iX11 rfl 13 (by decide) mw_398 0 rfl rfl dX11_one_5 ?_
  refine call_VV (kn := 1) E B (x_0_reckon l D ct tN ad iv ia la pt ra R  ((iv 1)) h30) (good_V mw_1225 mw_1226 mw_1227 mw_10 mw_1228) 42 rfl rfl ⟨rfl, by decide +kernel⟩ rfl rfl rfl ⟨by decide, by decide⟩ rfl hl (Nat.le_of_ble_eq_true rfl) dX11_one_8 ⟨Nat.le_of_ble_eq_true rfl, Nat.le_of_ble_eq_true rfl⟩ (fun u_2 H locs w_3 B => ?_)
  have B : Hp D A s.heap (XW ct ad iv u_2 la pt ra R) H locs := B
  refine at_n (n := 11) (k1 := 0) (k2 := 0) rfl rfl rfl ?_
  refine lv_aload_n E.1.1 E.1.2.1 dX11_one_11 rfl (lv_at hl 0 rfl) ?_
  refine row_get (v := .ref (ad 42)) E B iX11 rfl 10 (by decide) mw_395 0 rfl rfl dX11_one_12 ?_
  refine call_VI (kn := 0) E B (x_0_leastPriced l D ct tN ad iv u_2 la pt ra R   h30) (good_V mw_1276 mw_1277 mw_1278 mw_10 mw_1279) 42 rfl rfl ⟨rfl, by decide +kernel⟩ rfl rfl rfl ⟨by decide, by decide⟩ rfl hl (Nat.le_of_ble_eq_true rfl) dX11_one_15 ⟨Nat.le_of_ble_eq_true rfl, Nat.le_of_ble_eq_true rfl⟩ (fun v_4 u_5 H locs w_6 B => ?_)
  have w_6 : v_4.toInt = 0 := w_6
  have B : Hp D A s.heap (_) H locs := B
  refine at_n (n := 18) (k1 := 0) (k2 := 0) rfl rfl rfl ?_
  have r_7 : v_4.toInt = 0 := w_6
  exact ret_I (u := _) E hr hlk rfl B (by omega) dX11_one_18
set_option maxHeartbeats 4000000 in
set_option maxRecDepth 100000 in
theorem x_11_line (l : Launch) (D : va_G) (ct : Nat → ClassId) (tN : Nat) (ad : Nat → Nat) (iv : Nat → Int32) (ia : Nat → Nat → Int32) (la : Nat → Nat → Int64) (pt : Nat → Option Nat) (ra : Nat → Nat → Option Nat) (R : va_W) (p0 : Int32) (h3 : (iv 3).toInt = 0) : MI l D (TY ct) tN yX11_line cX11_line 5 (some .int) ({ frames := 1, cells := 0, slots := 0, locals := 20 } : Room) [.ref (ad 0), .int p0] (XW ct ad iv ia la pt ra R) (fun (v : Int32) (u : va_W) => v.toInt = -1) (fun u => u) 0 0 := by
  intro sz
  refine Met.ofE (Qc := fun A => va_Qi (fun (v : Int32) (u : va_W) => v.toInt = -1) (BW D A (fun u => u)) A) (by decide) (Nat.le_of_ble_eq_true rfl) ?_
  intro p e s m args below meth c A ls hsz E hr hlk hnm B hl
  have hl : lv_has ls 5 [(0, .ref (ad 0)), (1, .int p0)] := hl
  refine lv_iconst (v := 0) E.1.1 E.1.2.1 dX11_line_0 (by decide) ?_
  refine lv_istore_n (lv' := [(2, .int (0 : Int32)), (0, .ref (ad 0)), (1, .int p0)]) E.1.1 E.1.2.1 dX11_line_1 rfl hl (by decide) rfl (fun ls hl => ?_)
  refine lv_iconst (v := 0) E.1.1 E.1.2.1 dX11_line_2 (by decide) ?_
  refine lv_istore_n (lv' := [(3, .int (0 : Int32)), (2, .int (0 : Int32)), (0, .ref (ad 0)), (1, .int p0)]) E.1.1 E.1.2.1 dX11_line_3 rfl hl (by decide) rfl (fun ls hl => ?_)
  refine lv_iload_n E.1.1 E.1.2.1 dX11_line_4 rfl (lv_at hl 0 rfl) ?_
  refine lv_aload_n E.1.1 E.1.2.1 dX11_line_5 rfl (lv_at hl 2 rfl) ?_
  refine at_pc (n := 6) rfl ?_
  refine row_get (v := .ref (ad 6)) E B iX11 rfl 3 (by decide) mw_388 0 rfl rfl dX11_line_6 ?_
  refine call_VI (kn := 0) E B (x_9_size l D ct tN ad iv ia la pt ra R   h3) (good_V mw_1297 mw_1150 mw_1151 mw_3 mw_1152) 6 rfl rfl ⟨rfl, by decide +kernel⟩ rfl rfl rfl ⟨by decide, by decide⟩ rfl hl (Nat.le_of_ble_eq_true rfl) dX11_line_9 ⟨Nat.le_of_ble_eq_true rfl, Nat.le_of_ble_eq_true rfl⟩ (fun v_1 u_2 H locs w_3 B => ?_)
  have w_3 : v_1.toInt = 0 := w_3
  have B : Hp D A s.heap (XW ct ad iv ia la pt ra R) H locs := B
  refine at_n (n := 12) (k1 := 0) (k2 := 0) rfl rfl rfl ?_
  refine c_ge (tgt := 73) E tI_0 w_3 dX11_line_12 (by decide) (fun c_4 => ?_) (fun c_4 => ?_)
  · skip
    refine lv_iconst (v := -1) E.1.1 E.1.2.1 dX11_line_73 (by decide) ?_
    have r_5 : (-1 : Int32).toInt = -1 := tI_m1
    exact ret_I (u := _) E hr hlk rfl B (by omega) dX11_line_74
  · exfalso; omega
set_option maxHeartbeats 4000000 in
set_option maxRecDepth 100000 in
theorem x_11_reads (l : Launch) (D : va_G) (ct : Nat → ClassId) (tN : Nat) (ad : Nat → Nat) (iv : Nat → Int32) (ia : Nat → Nat → Int32) (la : Nat → Nat → Int64) (pt : Nat → Option Nat) (ra : Nat → Nat → Option Nat) (R : va_W) (p0 : Int32) (p1 : Int32) (p2 : Int32) (p3 : Int32) (h3 : (iv 3).toInt = 0) : MI l D (TY ct) tN yX11_reads cX11_reads 5 (some .boolean) ({ frames := 1, cells := 0, slots := 0, locals := 21 } : Room) [.ref (ad 0), .int p0, .int p1, .int p2, .int p3] (XW ct ad iv ia la pt ra R) (fun (v : Int32) (u : va_W) => v.toInt = 0) (fun u => u) 0 0 := by
  intro sz
  refine Met.ofE (Qc := fun A => va_Qi (fun (v : Int32) (u : va_W) => v.toInt = 0) (BW D A (fun u => u)) A) (by decide) (Nat.le_of_ble_eq_true rfl) ?_
  intro p e s m args below meth c A ls hsz E hr hlk hnm B hl
  have hl : lv_has ls 5 [(0, .ref (ad 0)), (1, .int p0), (2, .int p1), (3, .int p2), (4, .int p3)] := hl
  refine lv_iload_n E.1.1 E.1.2.1 dX11_reads_0 rfl (lv_at hl 1 rfl) ?_
  refine b_lt (tgt := 31) E rfl dX11_reads_1 (by decide) (fun c_1 => ?_) (fun c_1 => ?_)
  · skip
    refine lv_iconst (v := 0) E.1.1 E.1.2.1 dX11_reads_31 (by decide) ?_
    have r_2 : (0 : Int32).toInt = 0 := tI_0
    exact ret_I (u := _) E hr hlk (narrow_z (by omega)) B (by omega) dX11_reads_32
  · skip
    refine lv_iload_n E.1.1 E.1.2.1 dX11_reads_4 rfl (lv_at hl 1 rfl) ?_
    refine lv_bipush (v := 9) E.1.1 E.1.2.1 dX11_reads_5 (by decide) ?_
    refine c_gt (tgt := 31) E rfl tI_9 dX11_reads_7 (by decide) (fun c_3 => ?_) (fun c_3 => ?_)
    · skip
      refine lv_iconst (v := 0) E.1.1 E.1.2.1 dX11_reads_31 (by decide) ?_
      have r_4 : (0 : Int32).toInt = 0 := tI_0
      exact ret_I (u := _) E hr hlk (narrow_z (by omega)) B (by omega) dX11_reads_32
    · skip
      refine lv_aload_n E.1.1 E.1.2.1 dX11_reads_10 rfl (lv_at hl 0 rfl) ?_
      refine row_get (v := .ref (ad 6)) E B iX11 rfl 3 (by decide) mw_388 0 rfl rfl dX11_reads_11 ?_
      refine lv_iload_n E.1.1 E.1.2.1 dX11_reads_14 rfl (lv_at hl 2 rfl) ?_
      refine call_VI (kn := 1) E B (x_9_has l D ct tN ad iv ia la pt ra R  p1 h3) (good_V mw_455 mw_456 mw_457 mw_3 mw_458) 6 rfl rfl ⟨rfl, by decide +kernel⟩ rfl rfl rfl ⟨by decide, by decide⟩ rfl hl (Nat.le_of_ble_eq_true rfl) dX11_reads_15 ⟨Nat.le_of_ble_eq_true rfl, Nat.le_of_ble_eq_true rfl⟩ (fun v_5 u_6 H locs w_7 B => ?_)
      have w_7 : v_5.toInt = 0 := w_7
      have B : Hp D A s.heap (XW ct ad iv ia la pt ra R) H locs := B
      refine at_n (n := 18) (k1 := 0) (k2 := 0) rfl rfl rfl ?_
      refine b_eq (tgt := 31) E w_7 dX11_reads_18 (by decide) (fun c_8 => ?_) (fun c_8 => ?_)
      · skip
        refine lv_iconst (v := 0) E.1.1 E.1.2.1 dX11_reads_31 (by decide) ?_
        have r_9 : (0 : Int32).toInt = 0 := tI_0
        exact ret_I (u := _) E hr hlk (narrow_z (by omega)) B (by omega) dX11_reads_32
      · exfalso; omega
set_option maxHeartbeats 4000000 in
set_option maxRecDepth 100000 in
theorem x_11_missed (l : Launch) (D : va_G) (ct : Nat → ClassId) (tN : Nat) (ad : Nat → Nat) (iv : Nat → Int32) (ia : Nat → Nat → Int32) (la : Nat → Nat → Int64) (pt : Nat → Option Nat) (ra : Nat → Nat → Option Nat) (R : va_W) (p0 : Int32) (h3 : (iv 3).toInt = 0) : MI l D (TY ct) tN yX11_missed cX11_missed 2 (some .int) ({ frames := 1, cells := 0, slots := 0, locals := 21 } : Room) [.ref (ad 0), .int p0] (XW ct ad iv ia la pt ra R) (fun (v : Int32) (u : va_W) => v.toInt = -1) (fun u => u) 0 0 := by
  intro sz
  refine Met.ofE (Qc := fun A => va_Qi (fun (v : Int32) (u : va_W) => v.toInt = -1) (BW D A (fun u => u)) A) (by decide) (Nat.le_of_ble_eq_true rfl) ?_
  intro p e s m args below meth c A ls hsz E hr hlk hnm B hl
  have hl : lv_has ls 2 [(0, .ref (ad 0)), (1, .int p0)] := hl
  refine lv_aload_n E.1.1 E.1.2.1 dX11_missed_0 rfl (lv_at hl 0 rfl) ?_
  refine row_get (v := .ref (ad 6)) E B iX11 rfl 3 (by decide) mw_388 0 rfl rfl dX11_missed_1 ?_
  refine lv_iload_n E.1.1 E.1.2.1 dX11_missed_4 rfl (lv_at hl 1 rfl) ?_
  refine call_VI (kn := 1) E B (x_9_has l D ct tN ad iv ia la pt ra R  p0 h3) (good_V mw_455 mw_456 mw_457 mw_3 mw_458) 6 rfl rfl ⟨rfl, by decide +kernel⟩ rfl rfl rfl ⟨by decide, by decide⟩ rfl hl (Nat.le_of_ble_eq_true rfl) dX11_missed_5 ⟨Nat.le_of_ble_eq_true rfl, Nat.le_of_ble_eq_true rfl⟩ (fun v_1 u_2 H locs w_3 B => ?_)
  have w_3 : v_1.toInt = 0 := w_3
  have B : Hp D A s.heap (XW ct ad iv ia la pt ra R) H locs := B
  refine at_n (n := 8) (k1 := 0) (k2 := 0) rfl rfl rfl ?_
  refine b_eq (tgt := 22) E w_3 dX11_missed_8 (by decide) (fun c_4 => ?_) (fun c_4 => ?_)
  · skip
    refine lv_iconst (v := -1) E.1.1 E.1.2.1 dX11_missed_22 (by decide) ?_
    have r_5 : (-1 : Int32).toInt = -1 := tI_m1
    exact ret_I (u := _) E hr hlk rfl B (by omega) dX11_missed_23
  · exfalso; omega
set_option maxHeartbeats 4000000 in
set_option maxRecDepth 100000 in
theorem x_11_changes (l : Launch) (D : va_G) (ct : Nat → ClassId) (tN : Nat) (ad : Nat → Nat) (iv : Nat → Int32) (ia : Nat → Nat → Int32) (la : Nat → Nat → Int64) (pt : Nat → Option Nat) (ra : Nat → Nat → Option Nat) (R : va_W) (p0 : Int32) (p1 : Int32) (p2 : Int32) (h3 : (iv 3).toInt = 0) : MI l D (TY ct) tN yX11_changes cX11_changes 4 (some .int) ({ frames := 1, cells := 0, slots := 0, locals := 21 } : Room) [.ref (ad 0), .int p0, .int p1, .int p2] (XW ct ad iv ia la pt ra R) (fun (v : Int32) (u : va_W) => v.toInt = -1) (fun u => u) 0 0 := by
  intro sz
  refine Met.ofE (Qc := fun A => va_Qi (fun (v : Int32) (u : va_W) => v.toInt = -1) (BW D A (fun u => u)) A) (by decide) (Nat.le_of_ble_eq_true rfl) ?_
  intro p e s m args below meth c A ls hsz E hr hlk hnm B hl
  have hl : lv_has ls 4 [(0, .ref (ad 0)), (1, .int p0), (2, .int p1), (3, .int p2)] := hl
  refine lv_aload_n E.1.1 E.1.2.1 dX11_changes_0 rfl (lv_at hl 0 rfl) ?_
  refine row_get (v := .ref (ad 6)) E B iX11 rfl 3 (by decide) mw_388 0 rfl rfl dX11_changes_1 ?_
  refine lv_iload_n E.1.1 E.1.2.1 dX11_changes_4 rfl (lv_at hl 1 rfl) ?_
  refine call_VI (kn := 1) E B (x_9_has l D ct tN ad iv ia la pt ra R  p0 h3) (good_V mw_455 mw_456 mw_457 mw_3 mw_458) 6 rfl rfl ⟨rfl, by decide +kernel⟩ rfl rfl rfl ⟨by decide, by decide⟩ rfl hl (Nat.le_of_ble_eq_true rfl) dX11_changes_5 ⟨Nat.le_of_ble_eq_true rfl, Nat.le_of_ble_eq_true rfl⟩ (fun v_1 u_2 H locs w_3 B => ?_)
  have w_3 : v_1.toInt = 0 := w_3
  have B : Hp D A s.heap (XW ct ad iv ia la pt ra R) H locs := B
  refine at_n (n := 8) (k1 := 0) (k2 := 0) rfl rfl rfl ?_
  refine b_eq (tgt := 27) E w_3 dX11_changes_8 (by decide) (fun c_4 => ?_) (fun c_4 => ?_)
  · skip
    refine lv_iconst (v := -1) E.1.1 E.1.2.1 dX11_changes_27 (by decide) ?_
    have r_5 : (-1 : Int32).toInt = -1 := tI_m1
    exact ret_I (u := _) E hr hlk rfl B (by omega) dX11_changes_28
  · exfalso; omega
set_option maxHeartbeats 4000000 in
set_option maxRecDepth 100000 in
theorem x_11_printed (l : Launch) (D : va_G) (ct : Nat → ClassId) (tN : Nat) (ad : Nat → Nat) (iv : Nat → Int32) (ia : Nat → Nat → Int32) (la : Nat → Nat → Int64) (pt : Nat → Option Nat) (ra : Nat → Nat → Option Nat) (R : va_W) (p0 : Int32) (p1 : Int32) (p2 : Int32) (h10 : (iv 10).toInt = 0) (g29 : ∀ j, (ia 29 j).toInt = -1) : MI l D (TY ct) tN yX11_printed cX11_printed 9 (some .int) ({ frames := 2, cells := 0, slots := 0, locals := 42 } : Room) [.ref (ad 0), .int p0, .int p1, .int p2] (XW ct ad iv ia la pt ra R) (fun (v : Int32) (u : va_W) => v.toInt = -1) (fun u => u) 0 0 := by
  intro sz
  refine Met.ofE (Qc := fun A => va_Qi (fun (v : Int32) (u : va_W) => v.toInt = -1) (BW D A (fun u => u)) A) (by decide) (Nat.le_of_ble_eq_true rfl) ?_
  intro p e s m args below meth c A ls hsz E hr hlk hnm B hl
  have hl : lv_has ls 9 [(0, .ref (ad 0)), (1, .int p0), (2, .int p1), (3, .int p2)] := hl
  refine lv_aload_n E.1.1 E.1.2.1 dX11_printed_0 rfl (lv_at hl 0 rfl) ?_
  refine row_get (v := .ref (ad 27)) E B iX11 rfl 6 (by decide) mw_391 0 rfl rfl dX11_printed_1 ?_
  refine lv_iload_n E.1.1 E.1.2.1 dX11_printed_4 rfl (lv_at hl 2 rfl) ?_
  refine call_VQ (kn := 1) E B (x_8_fixedAt l D ct tN ad iv ia la pt ra R  p1 h10 g29) (good_V mw_1298 mw_989 mw_990 mw_6 mw_991) 27 rfl rfl ⟨rfl, by decide +kernel⟩ rfl rfl rfl ⟨by decide, by decide⟩ rfl hl (Nat.le_of_ble_eq_true rfl) dX11_printed_5 ⟨Nat.le_of_ble_eq_true rfl, Nat.le_of_ble_eq_true rfl⟩ (fun v_1 u_2 H locs w_3 B => ?_)
  have w_3 : v_1 = none := w_3
  subst w_3
  have B : Hp D A s.heap (XW ct ad iv ia la pt ra R) H locs := B
  refine at_n (n := 8) (k1 := 0) (k2 := 0) rfl rfl rfl ?_
  refine lv_astoreN (lv' := [(4, .null), (0, .ref (ad 0)), (1, .int p0), (2, .int p1), (3, .int p2)]) E.1.1 E.1.2.1 dX11_printed_8 hl (by decide) rfl (fun ls hl => ?_)
  refine lv_aloadN E.1.1 E.1.2.1 dX11_printed_10 (lv_at hl 0 rfl) ?_
  refine lv_ifnullN (tgt := 26) E.1.1 E.1.2.1 dX11_printed_12 (by decide) ?_
  refine lv_iconst (v := -1) E.1.1 E.1.2.1 dX11_printed_26 (by decide) ?_
  have r_4 : (-1 : Int32).toInt = -1 := tI_m1
  exact ret_I (u := _) E hr hlk rfl B (by omega) dX11_printed_27
set_option maxHeartbeats 4000000 in
set_option maxRecDepth 100000 in
theorem x_11_plan (l : Launch) (D : va_G) (ct : Nat → ClassId) (tN : Nat) (ad : Nat → Nat) (iv : Nat → Int32) (ia : Nat → Nat → Int32) (la : Nat → Nat → Int64) (pt : Nat → Option Nat) (ra : Nat → Nat → Option Nat) (R : va_W) (p0 : Int32) (h3 : (iv 3).toInt = 0) (g51 : ∀ j, (ia 51 j).toInt = 0) : MI l D (TY ct) tN yX11_plan cX11_plan 2 (some .int) ({ frames := 3, cells := 0, slots := 0, locals := 64 } : Room) [.ref (ad 0), .int p0] (XW ct ad iv ia la pt ra R) (fun (v : Int32) (u : va_W) => (p0.toInt = -1 ∧ v.toInt = 0) ∨ (¬ p0.toInt = -1 ∧ v.toInt = -1)) (fun u => u) 0 0 := by
  intro sz
  refine Met.ofE (Qc := fun A => va_Qi (fun (v : Int32) (u : va_W) => (p0.toInt = -1 ∧ v.toInt = 0) ∨ (¬ p0.toInt = -1 ∧ v.toInt = -1)) (BW D A (fun u => u)) A) (by decide) (Nat.le_of_ble_eq_true rfl) ?_
  intro p e s m args below meth c A ls hsz E hr hlk hnm B hl
  have hl : lv_has ls 2 [(0, .ref (ad 0)), (1, .int p0)] := hl
  refine lv_aload_n E.1.1 E.1.2.1 dX11_plan_0 rfl (lv_at hl 0 rfl) ?_
  refine row_get (v := .ref (ad 50)) E B iX11 rfl 11 (by decide) mw_396 0 rfl rfl dX11_plan_1 ?_
  refine lv_iload_n E.1.1 E.1.2.1 dX11_plan_4 rfl (lv_at hl 1 rfl) ?_
  refine call_VI (kn := 1) E B (x_5_answer l D ct tN ad iv ia la pt ra R  p0 h3 g51) (good_V mw_1362 mw_1363 mw_1364 mw_11 mw_1365) 50 rfl rfl ⟨rfl, by decide +kernel⟩ rfl rfl rfl ⟨by decide, by decide⟩ rfl hl (Nat.le_of_ble_eq_true rfl) dX11_plan_5 ⟨Nat.le_of_ble_eq_true rfl, Nat.le_of_ble_eq_true rfl⟩ (fun v_1 u_2 H locs w_3 B => ?_)
  have w_3 : (p0.toInt = -1 ∧ v_1.toInt = 0) ∨ (¬ p0.toInt = -1 ∧ v_1.toInt = -1) := w_3
  have B : Hp D A s.heap (_) H locs := B
  refine at_n (n := 8) (k1 := 0) (k2 := 0) rfl rfl rfl ?_
  have r_4 : v_1.toInt = v_1.toInt := rfl
  exact ret_I (u := _) E hr hlk rfl B (by omega) dX11_plan_8
set_option maxHeartbeats 4000000 in
set_option maxRecDepth 100000 in
theorem x_11_judge (l : Launch) (D : va_G) (ct : Nat → ClassId) (tN : Nat) (ad : Nat → Nat) (iv : Nat → Int32) (ia : Nat → Nat → Int32) (la : Nat → Nat → Int64) (pt : Nat → Option Nat) (ra : Nat → Nat → Option Nat) (R : va_W) (p0 : Int32) (h3 : (iv 3).toInt = 0) (g51 : ∀ j, (ia 51 j).toInt = 0) : MI l D (TY ct) tN yX11_judge cX11_judge 2 (some .int) ({ frames := 3, cells := 0, slots := 0, locals := 67 } : Room) [.ref (ad 0), .int p0] (XW ct ad iv ia la pt ra R) (fun (v : Int32) (u : va_W) => (p0.toInt = 0 ∧ v.toInt = 0) ∨ (¬ p0.toInt = 0 ∧ v.toInt = -1)) (fun u => u) 0 0 := by
  intro sz
  refine Met.ofE (Qc := fun A => va_Qi (fun (v : Int32) (u : va_W) => (p0.toInt = 0 ∧ v.toInt = 0) ∨ (¬ p0.toInt = 0 ∧ v.toInt = -1)) (BW D A (fun u => u)) A) (by decide) (Nat.le_of_ble_eq_true rfl) ?_
  intro p e s m args below meth c A ls hsz E hr hlk hnm B hl
  have hl : lv_has ls 2 [(0, .ref (ad 0)), (1, .int p0)] := hl
  refine lv_aload_n E.1.1 E.1.2.1 dX11_judge_0 rfl (lv_at hl 0 rfl) ?_
  refine row_get (v := .ref (ad 50)) E B iX11 rfl 11 (by decide) mw_396 0 rfl rfl dX11_judge_1 ?_
  refine lv_iload_n E.1.1 E.1.2.1 dX11_judge_4 rfl (lv_at hl 1 rfl) ?_
  refine call_VI (kn := 1) E B (x_5_daysOf l D ct tN ad iv ia la pt ra R  p0 h3 g51) (good_V mw_1411 mw_1412 mw_1413 mw_11 mw_1414) 50 rfl rfl ⟨rfl, by decide +kernel⟩ rfl rfl rfl ⟨by decide, by decide⟩ rfl hl (Nat.le_of_ble_eq_true rfl) dX11_judge_5 ⟨Nat.le_of_ble_eq_true rfl, Nat.le_of_ble_eq_true rfl⟩ (fun v_1 u_2 H locs w_3 B => ?_)
  have w_3 : (p0.toInt = 0 ∧ v_1.toInt = 0) ∨ (¬ p0.toInt = 0 ∧ v_1.toInt = -1) := w_3
  have B : Hp D A s.heap (_) H locs := B
  refine at_n (n := 8) (k1 := 0) (k2 := 0) rfl rfl rfl ?_
  have r_4 : v_1.toInt = v_1.toInt := rfl
  exact ret_I (u := _) E hr hlk rfl B (by omega) dX11_judge_8
set_option maxHeartbeats 4000000 in
set_option maxRecDepth 100000 in
theorem x_11_firstWrongByte (l : Launch) (D : va_G) (ct : Nat → ClassId) (tN : Nat) (ad : Nat → Nat) (iv : Nat → Int32) (ia : Nat → Nat → Int32) (la : Nat → Nat → Int64) (pt : Nat → Option Nat) (ra : Nat → Nat → Option Nat) (R : va_W) (p0 : Int32) (h3 : (iv 3).toInt = 0) (q0 : p0.toInt = 0) : MI l D (TY ct) tN yX11_firstWrongByte cX11_firstWrongByte 5 (some .int) ({ frames := 1, cells := 0, slots := 0, locals := 20 } : Room) [.ref (ad 0), .int p0] (XW ct ad iv ia la pt ra R) (fun (v : Int32) (u : Unit) => v.toInt = -1) (fun _ => XW ct ad iv ia la pt ra R) 0 0 := by
  intro sz
  refine Met.ofE (Qc := fun A => va_Qi (fun (v : Int32) (u : Unit) => v.toInt = -1) (BW D A (fun _ => XW ct ad iv ia la pt ra R)) A) (by decide) (Nat.le_of_ble_eq_true rfl) ?_
  intro p e s m args below meth c A ls hsz E hr hlk hnm B hl
  have hl : lv_has ls 5 [(0, .ref (ad 0)), (1, .int p0)] := hl
  refine lv_iconst (v := 0) E.1.1 E.1.2.1 dX11_firstWrongByte_0 (by decide) ?_
  refine lv_istore_n (lv' := [(2, .int (0 : Int32)), (0, .ref (ad 0)), (1, .int p0)]) E.1.1 E.1.2.1 dX11_firstWrongByte_1 rfl hl (by decide) rfl (fun ls hl => ?_)
  refine lv_iconst (v := 0) E.1.1 E.1.2.1 dX11_firstWrongByte_2 (by decide) ?_
  refine lv_istore_n (lv' := [(3, .int (0 : Int32)), (2, .int (0 : Int32)), (0, .ref (ad 0)), (1, .int p0)]) E.1.1 E.1.2.1 dX11_firstWrongByte_3 rfl hl (by decide) rfl (fun ls hl => ?_)
  refine lv_iload_n E.1.1 E.1.2.1 dX11_firstWrongByte_4 rfl (lv_at hl 0 rfl) ?_
  refine lv_aload_n E.1.1 E.1.2.1 dX11_firstWrongByte_5 rfl (lv_at hl 2 rfl) ?_
  refine at_pc (n := 6) rfl ?_
  refine row_get (v := .ref (ad 6)) E B iX11 rfl 3 (by decide) mw_388 0 rfl rfl dX11_firstWrongByte_6 ?_
  refine call_VI (kn := 0) E B (x_9_size l D ct tN ad iv ia la pt ra R   h3) (good_V mw_1297 mw_1150 mw_1151 mw_3 mw_1152) 6 rfl rfl ⟨rfl, by decide +kernel⟩ rfl rfl rfl ⟨by decide, by decide⟩ rfl hl (Nat.le_of_ble_eq_true rfl) dX11_firstWrongByte_9 ⟨Nat.le_of_ble_eq_true rfl, Nat.le_of_ble_eq_true rfl⟩ (fun v_1 u_2 H locs w_3 B => ?_)
  have w_3 : v_1.toInt = 0 := w_3
  have B : Hp D A s.heap (XW ct ad iv ia la pt ra R) H locs := B
  refine at_n (n := 12) (k1 := 0) (k2 := 0) rfl rfl rfl ?_
  refine c_ge (tgt := 81) E tI_0 w_3 dX11_firstWrongByte_12 (by decide) (fun c_4 => ?_) (fun c_4 => ?_)
  · skip
    refine lv_iload_n E.1.1 E.1.2.1 dX11_firstWrongByte_81 rfl (lv_at hl 1 rfl) ?_
    refine lv_iload_n E.1.1 E.1.2.1 dX11_firstWrongByte_82 rfl (lv_at hl 3 rfl) ?_
    refine c_ge (tgt := 90) E tI_0 q0 dX11_firstWrongByte_83 (by decide) (fun c_5 => ?_) (fun c_5 => ?_)
    · skip
      refine lv_iconst (v := -1) E.1.1 E.1.2.1 dX11_firstWrongByte_90 (by decide) ?_
      have r_6 : (-1 : Int32).toInt = -1 := tI_m1
      exact ret_I (u := ()) E hr hlk rfl B (by omega) dX11_firstWrongByte_91
    · exfalso; omega
  · exfalso; omega
set_option maxHeartbeats 4000000 in
set_option maxRecDepth 100000 in
theorem x_11_check (l : Launch) (D : va_G) (ct : Nat → ClassId) (tN : Nat) (ad : Nat → Nat) (iv : Nat → Int32) (ia : Nat → Nat → Int32) (la : Nat → Nat → Int64) (pt : Nat → Option Nat) (ra : Nat → Nat → Option Nat) (R : va_W) (p0 : Int32) (h0 : (iv 0).toInt = 0) (h3 : (iv 3).toInt = 0) : MI l D (TY ct) tN yX11_check cX11_check 2 (some .int) ({ frames := 2, cells := 0, slots := 0, locals := 44 } : Room) [.ref (ad 0), .int p0] (XW ct ad iv ia la pt ra R) (fun (v : Int32) (u : va_W) => (p0.toInt = 0 ∧ v.toInt = -1) ∨ (¬ p0.toInt = 0 ∧ v.toInt = -2)) (fun u => u) 0 0 := by
  intro sz
  refine Met.ofE (Qc := fun A => va_Qi (fun (v : Int32) (u : va_W) => (p0.toInt = 0 ∧ v.toInt = -1) ∨ (¬ p0.toInt = 0 ∧ v.toInt = -2)) (BW D A (fun u => u)) A) (by decide) (Nat.le_of_ble_eq_true rfl) ?_
  intro p e s m args below meth c A ls hsz E hr hlk hnm B hl
  have hl : lv_has ls 2 [(0, .ref (ad 0)), (1, .int p0)] := hl
  refine lv_iload_n E.1.1 E.1.2.1 dX11_check_0 rfl (lv_at hl 1 rfl) ?_
  refine b_lt (tgt := 20) E rfl dX11_check_1 (by decide) (fun c_1 => ?_) (fun c_1 => ?_)
  · skip
    refine lv_bipush (v := -2) E.1.1 E.1.2.1 dX11_check_20 (by decide) ?_
    have r_2 : (-2 : Int32).toInt = -2 := tI_m2
    exact ret_I (u := _) E hr hlk rfl B (by omega) dX11_check_22
  · skip
    refine lv_iload_n E.1.1 E.1.2.1 dX11_check_4 rfl (lv_at hl 1 rfl) ?_
    refine lv_bipush (v := 60) E.1.1 E.1.2.1 dX11_check_5 (by decide) ?_
    refine c_gt (tgt := 20) E rfl tI_60 dX11_check_7 (by decide) (fun c_3 => ?_) (fun c_3 => ?_)
    · skip
      refine lv_bipush (v := -2) E.1.1 E.1.2.1 dX11_check_20 (by decide) ?_
      have r_4 : (-2 : Int32).toInt = -2 := tI_m2
      exact ret_I (u := _) E hr hlk rfl B (by omega) dX11_check_22
    · skip
      refine lv_iconst (v := 2) E.1.1 E.1.2.1 dX11_check_10 (by decide) ?_
      refine lv_iload_n E.1.1 E.1.2.1 dX11_check_11 rfl (lv_at hl 1 rfl) ?_
      refine i_mul (z0 := 2 * p0.toInt) E tI_2 rfl (by omega) (by omega) (by omega) dX11_check_12 (fun z_5 ez_5 => ?_)
      have ez_5 : z_5.toInt = 2 * p0.toInt := by omega
      refine lv_aload_n E.1.1 E.1.2.1 dX11_check_13 rfl (lv_at hl 0 rfl) ?_
      refine row_get (v := .int (iv 0)) E B iX11 rfl 12 (by decide) mw_397 0 rfl rfl dX11_check_14 ?_
      refine c_le (tgt := 23) E ez_5 h0 dX11_check_17 (by decide) (fun c_6 => ?_) (fun c_6 => ?_)
      · skip
        refine lv_aload_n E.1.1 E.1.2.1 dX11_check_23 rfl (lv_at hl 0 rfl) ?_
        refine lv_iconst (v := 0) E.1.1 E.1.2.1 dX11_check_24 (by decide) ?_
        refine row_put E B iX11 rfl tyX11 tyX11_ok nmX11 12 (by decide) mw_397 rfl 0 rfl rfl rfl (Nat.le_of_ble_eq_true rfl) dX11_check_25 (fun H locs B => ?_)
        have B := Hp.eq (sx_iv_0 ct ad iv ia la pt ra R ((0 : Int32))) B
        have h_8 : ((va_up iv 0 (0 : Int32)) 3).toInt = 0 := h3
        have h_9 : ((va_up iv 0 (0 : Int32)) 0).toInt = 0 := tI_0
        generalize va_up iv 0 (0 : Int32) = iv_7 at B h_8 h_9
        refine lv_aload_n E.1.1 E.1.2.1 dX11_check_28 rfl (lv_at hl 0 rfl) ?_
        refine lv_iconst (v := 2) E.1.1 E.1.2.1 dX11_check_29 (by decide) ?_
        refine lv_iload_n E.1.1 E.1.2.1 dX11_check_30 rfl (lv_at hl 1 rfl) ?_
        refine at_pc (n := 31) rfl ?_
        refine i_mul (z0 := 2 * p0.toInt) E tI_2 rfl (by omega) (by omega) (by omega) dX11_check_31 (fun z_10 ez_10 => ?_)
        have ez_10 : z_10.toInt = 2 * p0.toInt := by omega
        refine call_VI (kn := 1) E B (x_11_firstWrongByte l D ct tN ad iv_7 ia la pt ra R  z_10 h_8 (by have := ez_10; omega)) (good_V mw_1419 mw_1421 ms_71 mw_1 mw_1422) 0 rfl rfl ⟨rfl, by decide +kernel⟩ rfl rfl rfl ⟨by decide, by decide⟩ rfl hl (Nat.le_of_ble_eq_true rfl) dX11_check_32 ⟨Nat.le_of_ble_eq_true rfl, Nat.le_of_ble_eq_true rfl⟩ (fun v_11 u_12 H locs w_13 B => ?_)
        have w_13 : v_11.toInt = -1 := w_13
        have B : Hp D A s.heap (XW ct ad iv_7 ia la pt ra R) H locs := B
        refine at_n (n := 35) (k1 := 0) (k2 := 0) rfl rfl rfl ?_
        have r_14 : v_11.toInt = -1 := w_13
        exact ret_I (u := _) E hr hlk rfl B (by omega) dX11_check_35
      · skip
        refine lv_bipush (v := -2) E.1.1 E.1.2.1 dX11_check_20 (by decide) ?_
        have r_15 : (-2 : Int32).toInt = -2 := tI_m2
        exact ret_I (u := _) E hr hlk rfl B (by omega) dX11_check_22
set_option maxHeartbeats 4000000 in
set_option maxRecDepth 100000 in
theorem x_11_look (l : Launch) (D : va_G) (ct : Nat → ClassId) (tN : Nat) (ad : Nat → Nat) (iv : Nat → Int32) (ia : Nat → Nat → Int32) (la : Nat → Nat → Int64) (pt : Nat → Option Nat) (ra : Nat → Nat → Option Nat) (R : va_W) (p0 : Int32) (p1 : Int32) (h10 : (iv 10).toInt = 0) : MI l D (TY ct) tN yX11_look cX11_look 4 (some .int) ({ frames := 1, cells := 0, slots := 0, locals := 21 } : Room) [.ref (ad 0), .int p0, .int p1] (XW ct ad iv ia la pt ra R) (fun (v : Int32) (u : va_W) => v.toInt = -1) (fun u => u) 0 0 := by
  intro sz
  refine Met.ofE (Qc := fun A => va_Qi (fun (v : Int32) (u : va_W) => v.toInt = -1) (BW D A (fun u => u)) A) (by decide) (Nat.le_of_ble_eq_true rfl) ?_
  intro p e s m args below meth c A ls hsz E hr hlk hnm B hl
  have hl : lv_has ls 4 [(0, .ref (ad 0)), (1, .int p0), (2, .int p1)] := hl
  refine lv_aload_n E.1.1 E.1.2.1 dX11_look_0 rfl (lv_at hl 0 rfl) ?_
  refine row_get (v := .ref (ad 27)) E B iX11 rfl 6 (by decide) mw_391 0 rfl rfl dX11_look_1 ?_
  refine lv_iload_n E.1.1 E.1.2.1 dX11_look_4 rfl (lv_at hl 1 rfl) ?_
  refine call_VQ (kn := 1) E B (x_8_at l D ct tN ad iv ia la pt ra R  p0 h10) (good_V mw_936 mw_937 mw_938 mw_6 mw_939) 27 rfl rfl ⟨rfl, by decide +kernel⟩ rfl rfl rfl ⟨by decide, by decide⟩ rfl hl (Nat.le_of_ble_eq_true rfl) dX11_look_5 ⟨Nat.le_of_ble_eq_true rfl, Nat.le_of_ble_eq_true rfl⟩ (fun v_1 u_2 H locs w_3 B => ?_)
  have w_3 : v_1 = none := w_3
  subst w_3
  have B : Hp D A s.heap (XW ct ad iv ia la pt ra R) H locs := B
  refine at_n (n := 8) (k1 := 0) (k2 := 0) rfl rfl rfl ?_
  refine lv_astore_nN (lv' := [(3, .null), (0, .ref (ad 0)), (1, .int p0), (2, .int p1)]) E.1.1 E.1.2.1 dX11_look_8 rfl hl (by decide) rfl (fun ls hl => ?_)
  refine lv_aload_nN E.1.1 E.1.2.1 dX11_look_9 rfl (lv_at hl 0 rfl) ?_
  refine lv_ifnonnullN E.1.1 E.1.2.1 dX11_look_10 ?_
  refine lv_iconst (v := -1) E.1.1 E.1.2.1 dX11_look_13 (by decide) ?_
  refine lv_goto (tgt := 22) E.1.1 E.1.2.1 dX11_look_14 (by decide) ?_
  have r_4 : (-1 : Int32).toInt = -1 := tI_m1
  exact ret_I (u := _) E hr hlk rfl B (by omega) dX11_look_22
set_option maxHeartbeats 4000000 in
set_option maxRecDepth 100000 in
theorem x_11_count (l : Launch) (D : va_G) (ct : Nat → ClassId) (tN : Nat) (ad : Nat → Nat) (iv : Nat → Int32) (ia : Nat → Nat → Int32) (la : Nat → Nat → Int64) (pt : Nat → Option Nat) (ra : Nat → Nat → Option Nat) (R : va_W) (p0 : Int32) (h0 : (iv 0).toInt = 0) (h1 : (iv 1).toInt = 0) (h2 : (iv 2).toInt = 0) (h3 : (iv 3).toInt = 0) (h6 : (iv 6).toInt = 0) (h7 : (iv 7).toInt = 0) (h9 : (iv 9).toInt = 0) (h10 : (iv 10).toInt = 0) (h30 : (iv 30).toInt = 0) (g29 : ∀ j, (ia 29 j).toInt = -1) : MI l D (TY ct) tN yX11_count cX11_count 2 (some .int) ({ frames := 2, cells := 0, slots := 0, locals := 44 } : Room) [.ref (ad 0), .int p0] (XW ct ad iv ia la pt ra R) (fun (v : Int32) (u : va_W) => (((0 ≤ p0.toInt ∧ p0.toInt ≤ 10) ∨ (20 ≤ p0.toInt ∧ p0.toInt ≤ 24)) ∧ v.toInt = 0) ∨ (¬ ((0 ≤ p0.toInt ∧ p0.toInt ≤ 10) ∨ (20 ≤ p0.toInt ∧ p0.toInt ≤ 24)) ∧ v.toInt = -1)) (fun u => u) 0 0 := by
  intro sz
  refine Met.ofE (Qc := fun A => va_Qi (fun (v : Int32) (u : va_W) => (((0 ≤ p0.toInt ∧ p0.toInt ≤ 10) ∨ (20 ≤ p0.toInt ∧ p0.toInt ≤ 24)) ∧ v.toInt = 0) ∨ (¬ ((0 ≤ p0.toInt ∧ p0.toInt ≤ 10) ∨ (20 ≤ p0.toInt ∧ p0.toInt ≤ 24)) ∧ v.toInt = -1)) (BW D A (fun u => u)) A) (by decide) (Nat.le_of_ble_eq_true rfl) ?_
  intro p e s m args below meth c A ls hsz E hr hlk hnm B hl
  have hl : lv_has ls 2 [(0, .ref (ad 0)), (1, .int p0)] := hl
  refine lv_iload_n E.1.1 E.1.2.1 dX11_count_0 rfl (lv_at hl 1 rfl) ?_
  have xc_1 : p0.toInt = p0.toInt := rfl
  rcases (show (p0.toInt < 0 ∨ 10 < p0.toInt) ∨ (p0.toInt = 0 ∨ p0.toInt = 1 ∨ p0.toInt = 2 ∨ p0.toInt = 3 ∨ p0.toInt = 4 ∨ p0.toInt = 5 ∨ p0.toInt = 6 ∨ p0.toInt = 7 ∨ p0.toInt = 8 ∨ p0.toInt = 9 ∨ p0.toInt = 10) by omega) with c_1 | c_1 | c_1 | c_1 | c_1 | c_1 | c_1 | c_1 | c_1 | c_1 | c_1 | c_1
  · refine lv_tableOut (tgt := 155) E.1.1 E.1.2.1 dX11_count_1 (by omega) (by decide) ?_
    refine lv_iload_n E.1.1 E.1.2.1 dX11_count_155 rfl (lv_at hl 1 rfl) ?_
    refine lv_bipush (v := 20) E.1.1 E.1.2.1 dX11_count_156 (by decide) ?_
    refine c_lt (tgt := 181) E rfl tI_20 dX11_count_158 (by decide) (fun c_2 => ?_) (fun c_2 => ?_)
    · skip
      refine lv_iconst (v := -1) E.1.1 E.1.2.1 dX11_count_181 (by decide) ?_
      have r_3 : (-1 : Int32).toInt = -1 := tI_m1
      exact ret_I (u := _) E hr hlk rfl B (by omega) dX11_count_182
    · skip
      refine lv_iload_n E.1.1 E.1.2.1 dX11_count_161 rfl (lv_at hl 1 rfl) ?_
      refine lv_bipush (v := 24) E.1.1 E.1.2.1 dX11_count_162 (by decide) ?_
      refine c_gt (tgt := 181) E rfl tI_24 dX11_count_164 (by decide) (fun c_4 => ?_) (fun c_4 => ?_)
      · skip
        refine lv_iconst (v := -1) E.1.1 E.1.2.1 dX11_count_181 (by decide) ?_
        have r_5 : (-1 : Int32).toInt = -1 := tI_m1
        exact ret_I (u := _) E hr hlk rfl B (by omega) dX11_count_182
      · skip
        refine lv_aload_n E.1.1 E.1.2.1 dX11_count_167 rfl (lv_at hl 0 rfl) ?_
        refine row_get (v := .ref (ad 27)) E B iX11 rfl 6 (by decide) mw_391 0 rfl rfl dX11_count_168 ?_
        refine lv_iload_n E.1.1 E.1.2.1 dX11_count_171 rfl (lv_at hl 1 rfl) ?_
        refine lv_bipush (v := 20) E.1.1 E.1.2.1 dX11_count_172 (by decide) ?_
        refine i_sub E rfl tI_20 (by omega) (by omega) dX11_count_174 (fun z_6 ez_6 => ?_)
        have ez_6 : z_6.toInt = p0.toInt - 20 := by omega
        refine call_VI (kn := 1) E B (x_8_inState l D ct tN ad iv ia la pt ra R  z_6 h10) (good_V mw_1466 mw_1467 mw_1468 mw_6 mw_1469) 27 rfl rfl ⟨rfl, by decide +kernel⟩ rfl rfl rfl ⟨by decide, by decide⟩ rfl hl (Nat.le_of_ble_eq_true rfl) dX11_count_175 ⟨Nat.le_of_ble_eq_true rfl, Nat.le_of_ble_eq_true rfl⟩ (fun v_7 u_8 H locs w_9 B => ?_)
        have w_9 : v_7.toInt = 0 := w_9
        have B : Hp D A s.heap (XW ct ad iv ia la pt ra R) H locs := B
        refine at_n (n := 178) (k1 := 0) (k2 := 0) rfl rfl rfl ?_
        refine lv_goto (tgt := 182) E.1.1 E.1.2.1 dX11_count_178 (by decide) ?_
        have r_10 : v_7.toInt = 0 := w_9
        exact ret_I (u := _) E hr hlk rfl B (by omega) dX11_count_182
  · refine lv_tableIn (off := 59) (tgt := 60) E.1.1 E.1.2.1 dX11_count_1 (by omega) (by omega) (by rw [xc_1, c_1]; rfl) (by decide) ?_
    refine lv_aload_n E.1.1 E.1.2.1 dX11_count_60 rfl (lv_at hl 0 rfl) ?_
    refine row_get (v := .int (iv 1)) E B iX11 rfl 13 (by decide) mw_398 0 rfl rfl dX11_count_61 ?_
    have r_11 : (iv 1).toInt = 0 := h1
    exact ret_I (u := _) E hr hlk rfl B (by omega) dX11_count_64
  · refine lv_tableIn (off := 64) (tgt := 65) E.1.1 E.1.2.1 dX11_count_1 (by omega) (by omega) (by rw [xc_1, c_1]; rfl) (by decide) ?_
    refine lv_aload_n E.1.1 E.1.2.1 dX11_count_65 rfl (lv_at hl 0 rfl) ?_
    refine row_get (v := .ref (ad 6)) E B iX11 rfl 3 (by decide) mw_388 0 rfl rfl dX11_count_66 ?_
    refine call_VI (kn := 0) E B (x_9_size l D ct tN ad iv ia la pt ra R   h3) (good_V mw_1297 mw_1150 mw_1151 mw_3 mw_1152) 6 rfl rfl ⟨rfl, by decide +kernel⟩ rfl rfl rfl ⟨by decide, by decide⟩ rfl hl (Nat.le_of_ble_eq_true rfl) dX11_count_69 ⟨Nat.le_of_ble_eq_true rfl, Nat.le_of_ble_eq_true rfl⟩ (fun v_12 u_13 H locs w_14 B => ?_)
    have w_14 : v_12.toInt = 0 := w_14
    have B : Hp D A s.heap (XW ct ad iv ia la pt ra R) H locs := B
    refine at_n (n := 72) (k1 := 0) (k2 := 0) rfl rfl rfl ?_
    have r_15 : v_12.toInt = 0 := w_14
    exact ret_I (u := _) E hr hlk rfl B (by omega) dX11_count_72
  · refine lv_tableIn (off := 72) (tgt := 73) E.1.1 E.1.2.1 dX11_count_1 (by omega) (by omega) (by rw [xc_1, c_1]; rfl) (by decide) ?_
    refine lv_aload_n E.1.1 E.1.2.1 dX11_count_73 rfl (lv_at hl 0 rfl) ?_
    refine row_get (v := .ref (ad 3)) E B iX11 rfl 2 (by decide) mw_387 0 rfl rfl dX11_count_74 ?_
    refine call_VI (kn := 0) E B (x_10_size l D ct tN ad iv ia la pt ra R   h2) (good_V mw_1444 mw_1445 mw_1446 mw_2 mw_1447) 3 rfl rfl ⟨rfl, by decide +kernel⟩ rfl rfl rfl ⟨by decide, by decide⟩ rfl hl (Nat.le_of_ble_eq_true rfl) dX11_count_77 ⟨Nat.le_of_ble_eq_true rfl, Nat.le_of_ble_eq_true rfl⟩ (fun v_16 u_17 H locs w_18 B => ?_)
    have w_18 : v_16.toInt = 0 := w_18
    have B : Hp D A s.heap (XW ct ad iv ia la pt ra R) H locs := B
    refine at_n (n := 80) (k1 := 0) (k2 := 0) rfl rfl rfl ?_
    have r_19 : v_16.toInt = 0 := w_18
    exact ret_I (u := _) E hr hlk rfl B (by omega) dX11_count_80
  · refine lv_tableIn (off := 80) (tgt := 81) E.1.1 E.1.2.1 dX11_count_1 (by omega) (by omega) (by rw [xc_1, c_1]; rfl) (by decide) ?_
    refine lv_aload_n E.1.1 E.1.2.1 dX11_count_81 rfl (lv_at hl 0 rfl) ?_
    refine row_get (v := .ref (ad 12)) E B iX11 rfl 4 (by decide) mw_389 0 rfl rfl dX11_count_82 ?_
    refine call_VI (kn := 0) E B (x_4_companies l D ct tN ad iv ia la pt ra R   h6) (good_V mw_1448 mw_1390 mw_1391 mw_4 mw_1392) 12 rfl rfl ⟨rfl, by decide +kernel⟩ rfl rfl rfl ⟨by decide, by decide⟩ rfl hl (Nat.le_of_ble_eq_true rfl) dX11_count_85 ⟨Nat.le_of_ble_eq_true rfl, Nat.le_of_ble_eq_true rfl⟩ (fun v_20 u_21 H locs w_22 B => ?_)
    have w_22 : v_20.toInt = 0 := w_22
    have B : Hp D A s.heap (XW ct ad iv ia la pt ra R) H locs := B
    refine at_n (n := 88) (k1 := 0) (k2 := 0) rfl rfl rfl ?_
    have r_23 : v_20.toInt = 0 := w_22
    exact ret_I (u := _) E hr hlk rfl B (by omega) dX11_count_88
  · refine lv_tableIn (off := 88) (tgt := 89) E.1.1 E.1.2.1 dX11_count_1 (by omega) (by omega) (by rw [xc_1, c_1]; rfl) (by decide) ?_
    refine lv_aload_n E.1.1 E.1.2.1 dX11_count_89 rfl (lv_at hl 0 rfl) ?_
    refine row_get (v := .ref (ad 12)) E B iX11 rfl 4 (by decide) mw_389 0 rfl rfl dX11_count_90 ?_
    refine call_VI (kn := 0) E B (x_4_scholars l D ct tN ad iv ia la pt ra R   h7) (good_V mw_1449 mw_1450 mw_1451 mw_4 mw_1452) 12 rfl rfl ⟨rfl, by decide +kernel⟩ rfl rfl rfl ⟨by decide, by decide⟩ rfl hl (Nat.le_of_ble_eq_true rfl) dX11_count_93 ⟨Nat.le_of_ble_eq_true rfl, Nat.le_of_ble_eq_true rfl⟩ (fun v_24 u_25 H locs w_26 B => ?_)
    have w_26 : v_24.toInt = 0 := w_26
    have B : Hp D A s.heap (XW ct ad iv ia la pt ra R) H locs := B
    refine at_n (n := 96) (k1 := 0) (k2 := 0) rfl rfl rfl ?_
    have r_27 : v_24.toInt = 0 := w_26
    exact ret_I (u := _) E hr hlk rfl B (by omega) dX11_count_96
  · refine lv_tableIn (off := 96) (tgt := 97) E.1.1 E.1.2.1 dX11_count_1 (by omega) (by omega) (by rw [xc_1, c_1]; rfl) (by decide) ?_
    refine lv_aload_n E.1.1 E.1.2.1 dX11_count_97 rfl (lv_at hl 0 rfl) ?_
    refine row_get (v := .ref (ad 16)) E B iX11 rfl 5 (by decide) mw_390 0 rfl rfl dX11_count_98 ?_
    refine call_VI (kn := 0) E B (x_2_size l D ct tN ad iv ia la pt ra R   h9) (good_V mw_1453 mw_715 mw_716 mw_5 mw_717) 16 rfl rfl ⟨rfl, by decide +kernel⟩ rfl rfl rfl ⟨by decide, by decide⟩ rfl hl (Nat.le_of_ble_eq_true rfl) dX11_count_101 ⟨Nat.le_of_ble_eq_true rfl, Nat.le_of_ble_eq_true rfl⟩ (fun v_28 u_29 H locs w_30 B => ?_)
    have w_30 : v_28.toInt = 0 := w_30
    have B : Hp D A s.heap (XW ct ad iv ia la pt ra R) H locs := B
    refine at_n (n := 104) (k1 := 0) (k2 := 0) rfl rfl rfl ?_
    have r_31 : v_28.toInt = 0 := w_30
    exact ret_I (u := _) E hr hlk rfl B (by omega) dX11_count_104
  · refine lv_tableIn (off := 104) (tgt := 105) E.1.1 E.1.2.1 dX11_count_1 (by omega) (by omega) (by rw [xc_1, c_1]; rfl) (by decide) ?_
    refine lv_aload_n E.1.1 E.1.2.1 dX11_count_105 rfl (lv_at hl 0 rfl) ?_
    refine row_get (v := .ref (ad 27)) E B iX11 rfl 6 (by decide) mw_391 0 rfl rfl dX11_count_106 ?_
    refine call_VI (kn := 0) E B (x_8_size l D ct tN ad iv ia la pt ra R   h10) (good_V mw_1454 mw_1455 mw_1456 mw_6 mw_1457) 27 rfl rfl ⟨rfl, by decide +kernel⟩ rfl rfl rfl ⟨by decide, by decide⟩ rfl hl (Nat.le_of_ble_eq_true rfl) dX11_count_109 ⟨Nat.le_of_ble_eq_true rfl, Nat.le_of_ble_eq_true rfl⟩ (fun v_32 u_33 H locs w_34 B => ?_)
    have w_34 : v_32.toInt = 0 := w_34
    have B : Hp D A s.heap (XW ct ad iv ia la pt ra R) H locs := B
    refine at_n (n := 112) (k1 := 0) (k2 := 0) rfl rfl rfl ?_
    have r_35 : v_32.toInt = 0 := w_34
    exact ret_I (u := _) E hr hlk rfl B (by omega) dX11_count_112
  · refine lv_tableIn (off := 112) (tgt := 113) E.1.1 E.1.2.1 dX11_count_1 (by omega) (by omega) (by rw [xc_1, c_1]; rfl) (by decide) ?_
    refine lv_aload_n E.1.1 E.1.2.1 dX11_count_113 rfl (lv_at hl 0 rfl) ?_
    refine row_get (v := .int (iv 0)) E B iX11 rfl 12 (by decide) mw_397 0 rfl rfl dX11_count_114 ?_
    have r_36 : (iv 0).toInt = 0 := h0
    exact ret_I (u := _) E hr hlk rfl B (by omega) dX11_count_117
  · refine lv_tableIn (off := 117) (tgt := 118) E.1.1 E.1.2.1 dX11_count_1 (by omega) (by omega) (by rw [xc_1, c_1]; rfl) (by decide) ?_
    refine lv_aload_n E.1.1 E.1.2.1 dX11_count_118 rfl (lv_at hl 0 rfl) ?_
    refine row_get (v := .ref (ad 42)) E B iX11 rfl 10 (by decide) mw_395 0 rfl rfl dX11_count_119 ?_
    refine call_VI (kn := 0) E B (x_0_size l D ct tN ad iv ia la pt ra R   h30) (good_V mw_1458 mw_1459 mw_1460 mw_10 mw_1461) 42 rfl rfl ⟨rfl, by decide +kernel⟩ rfl rfl rfl ⟨by decide, by decide⟩ rfl hl (Nat.le_of_ble_eq_true rfl) dX11_count_122 ⟨Nat.le_of_ble_eq_true rfl, Nat.le_of_ble_eq_true rfl⟩ (fun v_37 u_38 H locs w_39 B => ?_)
    have w_39 : v_37.toInt = 0 := w_39
    have B : Hp D A s.heap (XW ct ad iv ia la pt ra R) H locs := B
    refine at_n (n := 125) (k1 := 0) (k2 := 0) rfl rfl rfl ?_
    have r_40 : v_37.toInt = 0 := w_39
    exact ret_I (u := _) E hr hlk rfl B (by omega) dX11_count_125
  · refine lv_tableIn (off := 125) (tgt := 126) E.1.1 E.1.2.1 dX11_count_1 (by omega) (by omega) (by rw [xc_1, c_1]; rfl) (by decide) ?_
    refine lv_aload_n E.1.1 E.1.2.1 dX11_count_126 rfl (lv_at hl 0 rfl) ?_
    refine row_get (v := .ref (ad 27)) E B iX11 rfl 6 (by decide) mw_391 0 rfl rfl dX11_count_127 ?_
    refine call_VI (kn := 0) E B (x_8_fixedVerses l D ct tN ad iv ia la pt ra R   g29) (good_V mw_1462 mw_1463 mw_1464 mw_6 mw_1465) 27 rfl rfl ⟨rfl, by decide +kernel⟩ rfl rfl rfl ⟨by decide, by decide⟩ rfl hl (Nat.le_of_ble_eq_true rfl) dX11_count_130 ⟨Nat.le_of_ble_eq_true rfl, Nat.le_of_ble_eq_true rfl⟩ (fun v_41 u_42 H locs w_43 B => ?_)
    have w_43 : v_41.toInt = 0 := w_43
    have B : Hp D A s.heap (XW ct ad iv ia la pt ra R) H locs := B
    refine at_n (n := 133) (k1 := 0) (k2 := 0) rfl rfl rfl ?_
    have r_44 : v_41.toInt = 0 := w_43
    exact ret_I (u := _) E hr hlk rfl B (by omega) dX11_count_133
  · refine lv_tableIn (off := 133) (tgt := 134) E.1.1 E.1.2.1 dX11_count_1 (by omega) (by omega) (by rw [xc_1, c_1]; rfl) (by decide) ?_
    refine lv_aload_n E.1.1 E.1.2.1 dX11_count_134 rfl (lv_at hl 0 rfl) ?_
    refine row_get (v := .ref (ad 35)) E B iX11 rfl 9 (by decide) mw_394 0 rfl rfl dX11_count_135 ?_
    refine lv_aload_n E.1.1 E.1.2.1 dX11_count_138 rfl (lv_at hl 0 rfl) ?_
    refine row_get (v := .int (iv 1)) E B iX11 rfl 13 (by decide) mw_398 0 rfl rfl dX11_count_139 ?_
    refine lv_iconst (v := -1) E.1.1 E.1.2.1 dX11_count_142 (by decide) ?_
    refine call_VI (kn := 2) E B (x_1_seekUnlike l D ct tN ad iv ia la pt ra R  ((iv 1)) ((-1 : Int32)) h3) (good_V mw_1145 mw_1146 mw_1147 mw_9 mw_1148) 35 rfl rfl ⟨rfl, by decide +kernel⟩ rfl rfl rfl ⟨by decide, by decide⟩ rfl hl (Nat.le_of_ble_eq_true rfl) dX11_count_143 ⟨Nat.le_of_ble_eq_true rfl, Nat.le_of_ble_eq_true rfl⟩ (fun v_45 u_46 H locs w_47 B => ?_)
    obtain ⟨w_47, h_48⟩ := w_47
    have h_48 : (u_46 29).toInt = 0 := h_48
    have w_47 : v_45.toInt = 0 := w_47
    have B : Hp D A s.heap (XW ct ad u_46 ia la pt ra R) H locs := B
    refine at_n (n := 146) (k1 := 0) (k2 := 0) rfl rfl rfl ?_
    refine lv_pop E.1.1 E.1.2.1 dX11_count_146 rfl ?_
    refine lv_aload_n E.1.1 E.1.2.1 dX11_count_147 rfl (lv_at hl 0 rfl) ?_
    refine row_get (v := .ref (ad 35)) E B iX11 rfl 9 (by decide) mw_394 0 rfl rfl dX11_count_148 ?_
    refine call_VI (kn := 0) E B (x_1_seen l D ct tN ad u_46 ia la pt ra R   h_48) (good_V mw_1115 mw_1116 mw_1117 mw_9 mw_1118) 35 rfl rfl ⟨rfl, by decide +kernel⟩ rfl rfl rfl ⟨by decide, by decide⟩ rfl hl (Nat.le_of_ble_eq_true rfl) dX11_count_151 ⟨Nat.le_of_ble_eq_true rfl, Nat.le_of_ble_eq_true rfl⟩ (fun v_49 u_50 H locs w_51 B => ?_)
    have w_51 : v_49.toInt = 0 := w_51
    have B : Hp D A s.heap (XW ct ad u_46 ia la pt ra R) H locs := B
    refine at_n (n := 154) (k1 := 0) (k2 := 0) rfl rfl rfl ?_
    have r_52 : v_49.toInt = 0 := w_51
    exact ret_I (u := _) E hr hlk rfl B (by omega) dX11_count_154
