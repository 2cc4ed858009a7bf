theorem dX12_ends_0 : decode cX12_ends 0 = .ok (.aload_n 0, 1) := k42 hC_cX12_ends rfl
theorem dX12_ends_1 : decode cX12_ends 1 = .ok (.invokevirtual 307, 3) := k182 (y := 1) (z := 51) hC_cX12_ends rfl rfl
theorem dX12_ends_10 : decode cX12_ends 10 = .ok (.iconst 2, 1) := k5 hC_cX12_ends rfl
theorem dX12_ends_11 : decode cX12_ends 11 = .ok (.iconst 0, 1) := k3 hC_cX12_ends rfl
theorem dX12_ends_12 : decode cX12_ends 12 = .ok (.invokevirtual 316, 3) := k182 (y := 1) (z := 60) hC_cX12_ends rfl rfl
theorem dX12_ends_15 : decode cX12_ends 15 = .ok (.aload_n 0, 1) := k42 hC_cX12_ends rfl
theorem dX12_ends_16 : decode cX12_ends 16 = .ok (.dup, 1) := k89 hC_cX12_ends rfl
theorem dX12_ends_17 : decode cX12_ends 17 = .ok (.getfield 287, 3) := k180 (y := 1) (z := 31) hC_cX12_ends rfl rfl
theorem dX12_ends_20 : decode cX12_ends 20 = .ok (.iconst 1, 1) := k4 hC_cX12_ends rfl
theorem dX12_ends_21 : decode cX12_ends 21 = .ok (.isub, 1) := k100 hC_cX12_ends rfl
theorem dX12_ends_22 : decode cX12_ends 22 = .ok (.putfield 287, 3) := k181 (y := 1) (z := 31) hC_cX12_ends rfl rfl
theorem dX12_ends_25 : decode cX12_ends 25 = .ok (.aload_n 0, 1) := k42 hC_cX12_ends rfl
theorem dX12_ends_26 : decode cX12_ends 26 = .ok (.dup, 1) := k89 hC_cX12_ends rfl
theorem dX12_ends_27 : decode cX12_ends 27 = .ok (.getfield 290, 3) := k180 (y := 1) (z := 34) hC_cX12_ends rfl rfl
theorem dX12_ends_30 : decode cX12_ends 30 = .ok (.iconst 1, 1) := k4 hC_cX12_ends rfl
theorem dX12_ends_31 : decode cX12_ends 31 = .ok (.isub, 1) := k100 hC_cX12_ends rfl
theorem dX12_ends_32 : decode cX12_ends 32 = .ok (.putfield 290, 3) := k181 (y := 1) (z := 34) hC_cX12_ends rfl rfl
theorem dX12_ends_35 : decode cX12_ends 35 = .ok (.goto (-35), 3) := k167 (y := 255) (z := 221) hC_cX12_ends rfl rfl
theorem dX12_ends_38 : decode cX12_ends 38 = .ok (.return_, 1) := k177 hC_cX12_ends rfl
theorem dX12_ends_4 : decode cX12_ends 4 = .ok (.bipush 33, 2) := k16 (y := 33) hC_cX12_ends rfl rfl
theorem dX12_ends_6 : decode cX12_ends 6 = .ok (.if_icmp .ne 32, 3) := k160 (y := 0) (z := 32) hC_cX12_ends rfl rfl
theorem dX12_ends_9 : decode cX12_ends 9 = .ok (.aload_n 0, 1) := k42 hC_cX12_ends rfl
theorem dX12_factor_0 : decode cX12_factor 0 = .ok (.aload_n 0, 1) := k42 hC_cX12_factor rfl
theorem dX12_factor_1 : decode cX12_factor 1 = .ok (.invokevirtual 277, 3) := k182 (y := 1) (z := 21) hC_cX12_factor rfl rfl
theorem dX12_factor_11 : decode cX12_factor 11 = .ok (.bipush 91, 2) := k16 (y := 91) hC_cX12_factor rfl rfl
theorem dX12_factor_13 : decode cX12_factor 13 = .ok (.if_icmp .ne 10, 3) := k160 (y := 0) (z := 10) hC_cX12_factor rfl rfl
theorem dX12_factor_16 : decode cX12_factor 16 = .ok (.aload_n 0, 1) := k42 hC_cX12_factor rfl
theorem dX12_factor_17 : decode cX12_factor 17 = .ok (.invokevirtual 319, 3) := k182 (y := 1) (z := 63) hC_cX12_factor rfl rfl
theorem dX12_factor_20 : decode cX12_factor 20 = .ok (.goto (-20), 3) := k167 (y := 255) (z := 236) hC_cX12_factor rfl rfl
theorem dX12_factor_23 : decode cX12_factor 23 = .ok (.aload_n 0, 1) := k42 hC_cX12_factor rfl
theorem dX12_factor_24 : decode cX12_factor 24 = .ok (.invokevirtual 277, 3) := k182 (y := 1) (z := 21) hC_cX12_factor rfl rfl
theorem dX12_factor_27 : decode cX12_factor 27 = .ok (.ifCond .ne 4, 3) := k154 (y := 0) (z := 4) hC_cX12_factor rfl rfl
theorem dX12_factor_30 : decode cX12_factor 30 = .ok (.return_, 1) := k177 hC_cX12_factor rfl
theorem dX12_factor_31 : decode cX12_factor 31 = .ok (.aload_n 0, 1) := k42 hC_cX12_factor rfl
theorem dX12_factor_32 : decode cX12_factor 32 = .ok (.invokevirtual 304, 3) := k182 (y := 1) (z := 48) hC_cX12_factor rfl rfl
theorem dX12_factor_35 : decode cX12_factor 35 = .ok (.ifCond .eq 18, 3) := k153 (y := 0) (z := 18) hC_cX12_factor rfl rfl
theorem dX12_factor_38 : decode cX12_factor 38 = .ok (.aload_n 0, 1) := k42 hC_cX12_factor rfl
theorem dX12_factor_39 : decode cX12_factor 39 = .ok (.iconst 0, 1) := k3 hC_cX12_factor rfl
theorem dX12_factor_4 : decode cX12_factor 4 = .ok (.ifCond .eq 19, 3) := k153 (y := 0) (z := 19) hC_cX12_factor rfl rfl
theorem dX12_factor_40 : decode cX12_factor 40 = .ok (.aload_n 0, 1) := k42 hC_cX12_factor rfl
theorem dX12_factor_41 : decode cX12_factor 41 = .ok (.ldc_w 322, 3) := k19 (y := 1) (z := 66) hC_cX12_factor rfl rfl
theorem dX12_factor_44 : decode cX12_factor 44 = .ok (.invokevirtual 323, 3) := k182 (y := 1) (z := 67) hC_cX12_factor rfl rfl
theorem dX12_factor_47 : decode cX12_factor 47 = .ok (.invokevirtual 316, 3) := k182 (y := 1) (z := 60) hC_cX12_factor rfl rfl
theorem dX12_factor_50 : decode cX12_factor 50 = .ok (.goto 44, 3) := k167 (y := 0) (z := 44) hC_cX12_factor rfl rfl
theorem dX12_factor_53 : decode cX12_factor 53 = .ok (.aload_n 0, 1) := k42 hC_cX12_factor rfl
theorem dX12_factor_54 : decode cX12_factor 54 = .ok (.invokevirtual 297, 3) := k182 (y := 1) (z := 41) hC_cX12_factor rfl rfl
theorem dX12_factor_57 : decode cX12_factor 57 = .ok (.invokestatic 326, 3) := k184 (y := 1) (z := 70) hC_cX12_factor rfl rfl
theorem dX12_factor_60 : decode cX12_factor 60 = .ok (.ifCond .eq 25, 3) := k153 (y := 0) (z := 25) hC_cX12_factor rfl rfl
theorem dX12_factor_63 : decode cX12_factor 63 = .ok (.aload_n 0, 1) := k42 hC_cX12_factor rfl
theorem dX12_factor_64 : decode cX12_factor 64 = .ok (.iconst 1, 1) := k4 hC_cX12_factor rfl
theorem dX12_factor_65 : decode cX12_factor 65 = .ok (.aload_n 0, 1) := k42 hC_cX12_factor rfl
theorem dX12_factor_66 : decode cX12_factor 66 = .ok (.invokevirtual 297, 3) := k182 (y := 1) (z := 41) hC_cX12_factor rfl rfl
theorem dX12_factor_69 : decode cX12_factor 69 = .ok (.invokevirtual 316, 3) := k182 (y := 1) (z := 60) hC_cX12_factor rfl rfl
theorem dX12_factor_7 : decode cX12_factor 7 = .ok (.aload_n 0, 1) := k42 hC_cX12_factor rfl
theorem dX12_factor_72 : decode cX12_factor 72 = .ok (.aload_n 0, 1) := k42 hC_cX12_factor rfl
theorem dX12_factor_73 : decode cX12_factor 73 = .ok (.dup, 1) := k89 hC_cX12_factor rfl
theorem dX12_factor_74 : decode cX12_factor 74 = .ok (.getfield 268, 3) := k180 (y := 1) (z := 12) hC_cX12_factor rfl rfl
theorem dX12_factor_77 : decode cX12_factor 77 = .ok (.iconst 1, 1) := k4 hC_cX12_factor rfl
theorem dX12_factor_78 : decode cX12_factor 78 = .ok (.iadd, 1) := k96 hC_cX12_factor rfl
theorem dX12_factor_79 : decode cX12_factor 79 = .ok (.putfield 268, 3) := k181 (y := 1) (z := 12) hC_cX12_factor rfl rfl
theorem dX12_factor_8 : decode cX12_factor 8 = .ok (.invokevirtual 297, 3) := k182 (y := 1) (z := 41) hC_cX12_factor rfl rfl
theorem dX12_factor_82 : decode cX12_factor 82 = .ok (.goto 12, 3) := k167 (y := 0) (z := 12) hC_cX12_factor rfl rfl
theorem dX12_factor_85 : decode cX12_factor 85 = .ok (.aload_n 0, 1) := k42 hC_cX12_factor rfl
theorem dX12_factor_86 : decode cX12_factor 86 = .ok (.iconst 1, 1) := k4 hC_cX12_factor rfl
theorem dX12_factor_87 : decode cX12_factor 87 = .ok (.aload_n 0, 1) := k42 hC_cX12_factor rfl
theorem dX12_factor_88 : decode cX12_factor 88 = .ok (.getfield 268, 3) := k180 (y := 1) (z := 12) hC_cX12_factor rfl rfl
theorem dX12_factor_91 : decode cX12_factor 91 = .ok (.invokevirtual 293, 3) := k182 (y := 1) (z := 37) hC_cX12_factor rfl rfl
theorem dX12_factor_94 : decode cX12_factor 94 = .ok (.return_, 1) := k177 hC_cX12_factor rfl
theorem dX12_goesOn_0 : decode cX12_goesOn 0 = .ok (.aload_n 0, 1) := k42 hC_cX12_goesOn rfl
theorem dX12_goesOn_1 : decode cX12_goesOn 1 = .ok (.invokevirtual 297, 3) := k182 (y := 1) (z := 41) hC_cX12_goesOn rfl rfl
theorem dX12_goesOn_100 : decode cX12_goesOn 100 = .ok (.iconst 1, 1) := k4 hC_cX12_goesOn rfl
theorem dX12_goesOn_101 : decode cX12_goesOn 101 = .ok (.ireturn, 1) := k172 hC_cX12_goesOn rfl
theorem dX12_goesOn_102 : decode cX12_goesOn 102 = .ok (.iload_n 1, 1) := k27 hC_cX12_goesOn rfl
theorem dX12_goesOn_103 : decode cX12_goesOn 103 = .ok (.invokestatic 337, 3) := k184 (y := 1) (z := 81) hC_cX12_goesOn rfl rfl
theorem dX12_goesOn_106 : decode cX12_goesOn 106 = .ok (.ifCond .eq 38, 3) := k153 (y := 0) (z := 38) hC_cX12_goesOn rfl rfl
theorem dX12_goesOn_109 : decode cX12_goesOn 109 = .ok (.aload_n 0, 1) := k42 hC_cX12_goesOn rfl
theorem dX12_goesOn_110 : decode cX12_goesOn 110 = .ok (.invokevirtual 307, 3) := k182 (y := 1) (z := 51) hC_cX12_goesOn rfl rfl
theorem dX12_goesOn_113 : decode cX12_goesOn 113 = .ok (.bipush 91, 2) := k16 (y := 91) hC_cX12_goesOn rfl rfl
theorem dX12_goesOn_115 : decode cX12_goesOn 115 = .ok (.if_icmp .eq 13, 3) := k159 (y := 0) (z := 13) hC_cX12_goesOn rfl rfl
theorem dX12_goesOn_118 : decode cX12_goesOn 118 = .ok (.aload_n 0, 1) := k42 hC_cX12_goesOn rfl
theorem dX12_goesOn_119 : decode cX12_goesOn 119 = .ok (.invokevirtual 307, 3) := k182 (y := 1) (z := 51) hC_cX12_goesOn rfl rfl
theorem dX12_goesOn_12 : decode cX12_goesOn 12 = .ok (.iload_n 1, 1) := k27 hC_cX12_goesOn rfl
theorem dX12_goesOn_122 : decode cX12_goesOn 122 = .ok (.invokestatic 337, 3) := k184 (y := 1) (z := 81) hC_cX12_goesOn rfl rfl
theorem dX12_goesOn_125 : decode cX12_goesOn 125 = .ok (.ifCond .eq 12, 3) := k153 (y := 0) (z := 12) hC_cX12_goesOn rfl rfl
theorem dX12_goesOn_128 : decode cX12_goesOn 128 = .ok (.aload_n 0, 1) := k42 hC_cX12_goesOn rfl
theorem dX12_goesOn_129 : decode cX12_goesOn 129 = .ok (.iconst 1, 1) := k4 hC_cX12_goesOn rfl
theorem dX12_goesOn_13 : decode cX12_goesOn 13 = .ok (.invokestatic 313, 3) := k184 (y := 1) (z := 57) hC_cX12_goesOn rfl rfl
theorem dX12_goesOn_130 : decode cX12_goesOn 130 = .ok (.aload_n 0, 1) := k42 hC_cX12_goesOn rfl
theorem dX12_goesOn_131 : decode cX12_goesOn 131 = .ok (.getfield 268, 3) := k180 (y := 1) (z := 12) hC_cX12_goesOn rfl rfl
theorem dX12_goesOn_134 : decode cX12_goesOn 134 = .ok (.invokevirtual 293, 3) := k182 (y := 1) (z := 37) hC_cX12_goesOn rfl rfl
theorem dX12_goesOn_137 : decode cX12_goesOn 137 = .ok (.aload_n 0, 1) := k42 hC_cX12_goesOn rfl
theorem dX12_goesOn_138 : decode cX12_goesOn 138 = .ok (.iload_n 1, 1) := k27 hC_cX12_goesOn rfl
theorem dX12_goesOn_139 : decode cX12_goesOn 139 = .ok (.invokevirtual 301, 3) := k182 (y := 1) (z := 45) hC_cX12_goesOn rfl rfl
theorem dX12_goesOn_142 : decode cX12_goesOn 142 = .ok (.iconst 1, 1) := k4 hC_cX12_goesOn rfl
theorem dX12_goesOn_143 : decode cX12_goesOn 143 = .ok (.ireturn, 1) := k172 hC_cX12_goesOn rfl
theorem dX12_goesOn_144 : decode cX12_goesOn 144 = .ok (.aload_n 0, 1) := k42 hC_cX12_goesOn rfl
theorem dX12_goesOn_145 : decode cX12_goesOn 145 = .ok (.invokevirtual 307, 3) := k182 (y := 1) (z := 51) hC_cX12_goesOn rfl rfl
theorem dX12_goesOn_148 : decode cX12_goesOn 148 = .ok (.invokestatic 337, 3) := k184 (y := 1) (z := 81) hC_cX12_goesOn rfl rfl
theorem dX12_goesOn_151 : decode cX12_goesOn 151 = .ok (.ifCond .eq 25, 3) := k153 (y := 0) (z := 25) hC_cX12_goesOn rfl rfl
theorem dX12_goesOn_154 : decode cX12_goesOn 154 = .ok (.aload_n 0, 1) := k42 hC_cX12_goesOn rfl
theorem dX12_goesOn_155 : decode cX12_goesOn 155 = .ok (.aload_n 0, 1) := k42 hC_cX12_goesOn rfl
theorem dX12_goesOn_156 : decode cX12_goesOn 156 = .ok (.invokevirtual 307, 3) := k182 (y := 1) (z := 51) hC_cX12_goesOn rfl rfl
theorem dX12_goesOn_159 : decode cX12_goesOn 159 = .ok (.iconst 0, 1) := k3 hC_cX12_goesOn rfl
theorem dX12_goesOn_16 : decode cX12_goesOn 16 = .ok (.ifCond .eq 18, 3) := k153 (y := 0) (z := 18) hC_cX12_goesOn rfl rfl
theorem dX12_goesOn_160 : decode cX12_goesOn 160 = .ok (.invokevirtual 316, 3) := k182 (y := 1) (z := 60) hC_cX12_goesOn rfl rfl
theorem dX12_goesOn_163 : decode cX12_goesOn 163 = .ok (.aload_n 0, 1) := k42 hC_cX12_goesOn rfl
theorem dX12_goesOn_164 : decode cX12_goesOn 164 = .ok (.dup, 1) := k89 hC_cX12_goesOn rfl
theorem dX12_goesOn_165 : decode cX12_goesOn 165 = .ok (.getfield 287, 3) := k180 (y := 1) (z := 31) hC_cX12_goesOn rfl rfl
theorem dX12_goesOn_168 : decode cX12_goesOn 168 = .ok (.iconst 1, 1) := k4 hC_cX12_goesOn rfl
theorem dX12_goesOn_169 : decode cX12_goesOn 169 = .ok (.isub, 1) := k100 hC_cX12_goesOn rfl
theorem dX12_goesOn_170 : decode cX12_goesOn 170 = .ok (.putfield 287, 3) := k181 (y := 1) (z := 31) hC_cX12_goesOn rfl rfl
theorem dX12_goesOn_173 : decode cX12_goesOn 173 = .ok (.goto 12, 3) := k167 (y := 0) (z := 12) hC_cX12_goesOn rfl rfl
theorem dX12_goesOn_176 : decode cX12_goesOn 176 = .ok (.aload_n 0, 1) := k42 hC_cX12_goesOn rfl
theorem dX12_goesOn_177 : decode cX12_goesOn 177 = .ok (.iconst 1, 1) := k4 hC_cX12_goesOn rfl
theorem dX12_goesOn_178 : decode cX12_goesOn 178 = .ok (.aload_n 0, 1) := k42 hC_cX12_goesOn rfl
theorem dX12_goesOn_179 : decode cX12_goesOn 179 = .ok (.getfield 268, 3) := k180 (y := 1) (z := 12) hC_cX12_goesOn rfl rfl
theorem dX12_goesOn_182 : decode cX12_goesOn 182 = .ok (.invokevirtual 293, 3) := k182 (y := 1) (z := 37) hC_cX12_goesOn rfl rfl
theorem dX12_goesOn_185 : decode cX12_goesOn 185 = .ok (.iconst 0, 1) := k3 hC_cX12_goesOn rfl
theorem dX12_goesOn_186 : decode cX12_goesOn 186 = .ok (.ireturn, 1) := k172 hC_cX12_goesOn rfl
theorem dX12_goesOn_19 : decode cX12_goesOn 19 = .ok (.aload_n 0, 1) := k42 hC_cX12_goesOn rfl
theorem dX12_goesOn_20 : decode cX12_goesOn 20 = .ok (.iload_n 1, 1) := k27 hC_cX12_goesOn rfl
theorem dX12_goesOn_21 : decode cX12_goesOn 21 = .ok (.invokestatic 313, 3) := k184 (y := 1) (z := 57) hC_cX12_goesOn rfl rfl
theorem dX12_goesOn_24 : decode cX12_goesOn 24 = .ok (.invokevirtual 329, 3) := k182 (y := 1) (z := 73) hC_cX12_goesOn rfl rfl
theorem dX12_goesOn_27 : decode cX12_goesOn 27 = .ok (.aload_n 0, 1) := k42 hC_cX12_goesOn rfl
theorem dX12_goesOn_28 : decode cX12_goesOn 28 = .ok (.iload_n 1, 1) := k27 hC_cX12_goesOn rfl
theorem dX12_goesOn_29 : decode cX12_goesOn 29 = .ok (.invokevirtual 301, 3) := k182 (y := 1) (z := 45) hC_cX12_goesOn rfl rfl
theorem dX12_goesOn_32 : decode cX12_goesOn 32 = .ok (.iconst 1, 1) := k4 hC_cX12_goesOn rfl
theorem dX12_goesOn_33 : decode cX12_goesOn 33 = .ok (.ireturn, 1) := k172 hC_cX12_goesOn rfl
theorem dX12_goesOn_34 : decode cX12_goesOn 34 = .ok (.aload_n 0, 1) := k42 hC_cX12_goesOn rfl
theorem dX12_goesOn_35 : decode cX12_goesOn 35 = .ok (.iconst 1, 1) := k4 hC_cX12_goesOn rfl
theorem dX12_goesOn_36 : decode cX12_goesOn 36 = .ok (.invokevirtual 329, 3) := k182 (y := 1) (z := 73) hC_cX12_goesOn rfl rfl
theorem dX12_goesOn_39 : decode cX12_goesOn 39 = .ok (.iload_n 1, 1) := k27 hC_cX12_goesOn rfl
theorem dX12_goesOn_4 : decode cX12_goesOn 4 = .ok (.istore_n 1, 1) := k60 hC_cX12_goesOn rfl
theorem dX12_goesOn_40 : decode cX12_goesOn 40 = .ok (.bipush 93, 2) := k16 (y := 93) hC_cX12_goesOn rfl rfl
theorem dX12_goesOn_42 : decode cX12_goesOn 42 = .ok (.if_icmp .ne 60, 3) := k160 (y := 0) (z := 60) hC_cX12_goesOn rfl rfl
theorem dX12_goesOn_45 : decode cX12_goesOn 45 = .ok (.aload_n 0, 1) := k42 hC_cX12_goesOn rfl
theorem dX12_goesOn_46 : decode cX12_goesOn 46 = .ok (.invokevirtual 307, 3) := k182 (y := 1) (z := 51) hC_cX12_goesOn rfl rfl
theorem dX12_goesOn_49 : decode cX12_goesOn 49 = .ok (.bipush 91, 2) := k16 (y := 91) hC_cX12_goesOn rfl rfl
theorem dX12_goesOn_5 : decode cX12_goesOn 5 = .ok (.iload_n 1, 1) := k27 hC_cX12_goesOn rfl
theorem dX12_goesOn_51 : decode cX12_goesOn 51 = .ok (.if_icmp .eq 14, 3) := k159 (y := 0) (z := 14) hC_cX12_goesOn rfl rfl
theorem dX12_goesOn_54 : decode cX12_goesOn 54 = .ok (.aload_n 0, 1) := k42 hC_cX12_goesOn rfl
theorem dX12_goesOn_55 : decode cX12_goesOn 55 = .ok (.iconst 1, 1) := k4 hC_cX12_goesOn rfl
theorem dX12_goesOn_56 : decode cX12_goesOn 56 = .ok (.aload_n 0, 1) := k42 hC_cX12_goesOn rfl
theorem dX12_goesOn_57 : decode cX12_goesOn 57 = .ok (.getfield 268, 3) := k180 (y := 1) (z := 12) hC_cX12_goesOn rfl rfl
theorem dX12_goesOn_6 : decode cX12_goesOn 6 = .ok (.invokestatic 310, 3) := k184 (y := 1) (z := 54) hC_cX12_goesOn rfl rfl
theorem dX12_goesOn_60 : decode cX12_goesOn 60 = .ok (.invokevirtual 293, 3) := k182 (y := 1) (z := 37) hC_cX12_goesOn rfl rfl
theorem dX12_goesOn_63 : decode cX12_goesOn 63 = .ok (.iconst 0, 1) := k3 hC_cX12_goesOn rfl
theorem dX12_goesOn_64 : decode cX12_goesOn 64 = .ok (.ireturn, 1) := k172 hC_cX12_goesOn rfl
theorem dX12_goesOn_65 : decode cX12_goesOn 65 = .ok (.aload_n 0, 1) := k42 hC_cX12_goesOn rfl
theorem dX12_goesOn_66 : decode cX12_goesOn 66 = .ok (.dup, 1) := k89 hC_cX12_goesOn rfl
theorem dX12_goesOn_67 : decode cX12_goesOn 67 = .ok (.getfield 287, 3) := k180 (y := 1) (z := 31) hC_cX12_goesOn rfl rfl
theorem dX12_goesOn_70 : decode cX12_goesOn 70 = .ok (.iconst 1, 1) := k4 hC_cX12_goesOn rfl
theorem dX12_goesOn_71 : decode cX12_goesOn 71 = .ok (.isub, 1) := k100 hC_cX12_goesOn rfl
theorem dX12_goesOn_72 : decode cX12_goesOn 72 = .ok (.putfield 287, 3) := k181 (y := 1) (z := 31) hC_cX12_goesOn rfl rfl
theorem dX12_goesOn_75 : decode cX12_goesOn 75 = .ok (.aload_n 0, 1) := k42 hC_cX12_goesOn rfl
theorem dX12_goesOn_76 : decode cX12_goesOn 76 = .ok (.dup, 1) := k89 hC_cX12_goesOn rfl
theorem dX12_goesOn_77 : decode cX12_goesOn 77 = .ok (.getfield 290, 3) := k180 (y := 1) (z := 34) hC_cX12_goesOn rfl rfl
theorem dX12_goesOn_80 : decode cX12_goesOn 80 = .ok (.iconst 1, 1) := k4 hC_cX12_goesOn rfl
theorem dX12_goesOn_81 : decode cX12_goesOn 81 = .ok (.isub, 1) := k100 hC_cX12_goesOn rfl
theorem dX12_goesOn_82 : decode cX12_goesOn 82 = .ok (.putfield 290, 3) := k181 (y := 1) (z := 34) hC_cX12_goesOn rfl rfl
theorem dX12_goesOn_85 : decode cX12_goesOn 85 = .ok (.aload_n 0, 1) := k42 hC_cX12_goesOn rfl
theorem dX12_goesOn_86 : decode cX12_goesOn 86 = .ok (.dup, 1) := k89 hC_cX12_goesOn rfl
theorem dX12_goesOn_87 : decode cX12_goesOn 87 = .ok (.getfield 268, 3) := k180 (y := 1) (z := 12) hC_cX12_goesOn rfl rfl
theorem dX12_goesOn_9 : decode cX12_goesOn 9 = .ok (.ifCond .ne 10, 3) := k154 (y := 0) (z := 10) hC_cX12_goesOn rfl rfl
theorem dX12_goesOn_90 : decode cX12_goesOn 90 = .ok (.iconst 1, 1) := k4 hC_cX12_goesOn rfl
theorem dX12_goesOn_91 : decode cX12_goesOn 91 = .ok (.iadd, 1) := k96 hC_cX12_goesOn rfl
theorem dX12_goesOn_92 : decode cX12_goesOn 92 = .ok (.putfield 268, 3) := k181 (y := 1) (z := 12) hC_cX12_goesOn rfl rfl
theorem dX12_goesOn_95 : decode cX12_goesOn 95 = .ok (.aload_n 0, 1) := k42 hC_cX12_goesOn rfl
theorem dX12_goesOn_96 : decode cX12_goesOn 96 = .ok (.iconst 1, 1) := k4 hC_cX12_goesOn rfl
theorem dX12_goesOn_97 : decode cX12_goesOn 97 = .ok (.putfield 333, 3) := k181 (y := 1) (z := 77) hC_cX12_goesOn rfl rfl
def f_m12_ends_b_10 (i14 : Int32) (i15 : Int32) : Int32 × Int32 :=
  (i14, i15)
theorem f_m12_ends_b_10_r {i14 : Int32} {i15 : Int32}  : f_m12_ends_b_10 i14 i15 = (i14, i15) := by rfl
def f_m12_ends_b_57 (i14_30 : Int32) (i15_31 : Int32) : Int32 × Int32 :=
  (i14_30, i15_31)
theorem f_m12_ends_b_57_r {i14_30 : Int32} {i15_31 : Int32}  : f_m12_ends_b_57 i14_30 i15_31 = (i14_30, i15_31) := by rfl
def f_m12_ends_b_58 (i14_30 : Int32) (i15_31 : Int32) (self_J_28 : Int32 → Int32 → Int32 × Int32) : Int32 × Int32 :=
  let z_72 : Int32 := i15_31 - (1 : Int32)
  let z_74 : Int32 := i14_30 - (1 : Int32)
  self_J_28 z_74 z_72
theorem f_m12_ends_b_58_g {i14_30 : Int32} {i15_31 : Int32} {self_J_28 : Int32 → Int32 → Int32 × Int32} {z_72 : Int32} {z_74 : Int32} (e_z_72 : z_72 = i15_31 - (1 : Int32)) (e_z_74 : z_74 = i14_30 - (1 : Int32)) : f_m12_ends_b_58 i14_30 i15_31 self_J_28 = self_J_28 z_74 z_72 := by replace e_z_72 := e_z_72.symm; subst e_z_72; replace e_z_74 := e_z_74.symm; subst e_z_74; rfl
def f_m12_ends_J_28 (a27 : Nat → Int32) (i14_30 : Int32) (i15_31 : Int32) (self_J_28 : Int32 → Int32 → Int32 × Int32) : Int32 × Int32 :=
  let v_51 : Int32 := (F_m12_top i15_31 a27)
  if v_51.toInt ≠ 33 then (f_m12_ends_b_57 i14_30 i15_31) else (f_m12_ends_b_58 i14_30 i15_31 self_J_28)
