theorem dX0_init_0 : decode cX0_init 0 = .ok (.aload_n 0, 1) := k42 hC_cX0_init rfl
theorem dX0_init_1 : decode cX0_init 1 = .ok (.invokespecial 3, 3) := k183 (y := 0) (z := 3) hC_cX0_init rfl rfl
theorem dX0_init_12 : decode cX0_init 12 = .ok (.aload_n 0, 1) := k42 hC_cX0_init rfl
theorem dX0_init_13 : decode cX0_init 13 = .ok (.bipush 6, 2) := k16 (y := 6) hC_cX0_init rfl rfl
theorem dX0_init_15 : decode cX0_init 15 = .ok (.newarray .int, 2) := k188_10 hC_cX0_init rfl
theorem dX0_init_17 : decode cX0_init 17 = .ok (.putfield 15, 3) := k181 (y := 0) (z := 15) hC_cX0_init rfl rfl
theorem dX0_init_20 : decode cX0_init 20 = .ok (.aload_n 0, 1) := k42 hC_cX0_init rfl
theorem dX0_init_21 : decode cX0_init 21 = .ok (.bipush 24, 2) := k16 (y := 24) hC_cX0_init rfl rfl
theorem dX0_init_23 : decode cX0_init 23 = .ok (.newarray .int, 2) := k188_10 hC_cX0_init rfl
theorem dX0_init_25 : decode cX0_init 25 = .ok (.putfield 18, 3) := k181 (y := 0) (z := 18) hC_cX0_init rfl rfl
theorem dX0_init_28 : decode cX0_init 28 = .ok (.aload_n 0, 1) := k42 hC_cX0_init rfl
theorem dX0_init_29 : decode cX0_init 29 = .ok (.bipush 40, 2) := k16 (y := 40) hC_cX0_init rfl rfl
theorem dX0_init_31 : decode cX0_init 31 = .ok (.newarray .long, 2) := k188_11 hC_cX0_init rfl
theorem dX0_init_33 : decode cX0_init 33 = .ok (.putfield 21, 3) := k181 (y := 0) (z := 21) hC_cX0_init rfl rfl
theorem dX0_init_36 : decode cX0_init 36 = .ok (.aload_n 0, 1) := k42 hC_cX0_init rfl
theorem dX0_init_37 : decode cX0_init 37 = .ok (.bipush 24, 2) := k16 (y := 24) hC_cX0_init rfl rfl
theorem dX0_init_39 : decode cX0_init 39 = .ok (.newarray .int, 2) := k188_10 hC_cX0_init rfl
theorem dX0_init_4 : decode cX0_init 4 = .ok (.aload_n 0, 1) := k42 hC_cX0_init rfl
theorem dX0_init_41 : decode cX0_init 41 = .ok (.putfield 25, 3) := k181 (y := 0) (z := 25) hC_cX0_init rfl rfl
theorem dX0_init_44 : decode cX0_init 44 = .ok (.aload_n 0, 1) := k42 hC_cX0_init rfl
theorem dX0_init_45 : decode cX0_init 45 = .ok (.bipush 24, 2) := k16 (y := 24) hC_cX0_init rfl rfl
theorem dX0_init_47 : decode cX0_init 47 = .ok (.newarray .boolean, 2) := k188_4 hC_cX0_init rfl
theorem dX0_init_49 : decode cX0_init 49 = .ok (.putfield 28, 3) := k181 (y := 0) (z := 28) hC_cX0_init rfl rfl
theorem dX0_init_5 : decode cX0_init 5 = .ok (.bipush 6, 2) := k16 (y := 6) hC_cX0_init rfl rfl
theorem dX0_init_52 : decode cX0_init 52 = .ok (.aload_n 0, 1) := k42 hC_cX0_init rfl
theorem dX0_init_53 : decode cX0_init 53 = .ok (.bipush 6, 2) := k16 (y := 6) hC_cX0_init rfl rfl
theorem dX0_init_55 : decode cX0_init 55 = .ok (.newarray .int, 2) := k188_10 hC_cX0_init rfl
theorem dX0_init_57 : decode cX0_init 57 = .ok (.putfield 32, 3) := k181 (y := 0) (z := 32) hC_cX0_init rfl rfl
theorem dX0_init_60 : decode cX0_init 60 = .ok (.aload_n 0, 1) := k42 hC_cX0_init rfl
theorem dX0_init_61 : decode cX0_init 61 = .ok (.aload_n 1, 1) := k43 hC_cX0_init rfl
theorem dX0_init_62 : decode cX0_init 62 = .ok (.putfield 35, 3) := k181 (y := 0) (z := 35) hC_cX0_init rfl rfl
theorem dX0_init_65 : decode cX0_init 65 = .ok (.aload_n 0, 1) := k42 hC_cX0_init rfl
theorem dX0_init_66 : decode cX0_init 66 = .ok (.aload_n 2, 1) := k44 hC_cX0_init rfl
theorem dX0_init_67 : decode cX0_init 67 = .ok (.putfield 39, 3) := k181 (y := 0) (z := 39) hC_cX0_init rfl rfl
theorem dX0_init_7 : decode cX0_init 7 = .ok (.newarray .int, 2) := k188_10 hC_cX0_init rfl
theorem dX0_init_70 : decode cX0_init 70 = .ok (.aload_n 0, 1) := k42 hC_cX0_init rfl
theorem dX0_init_71 : decode cX0_init 71 = .ok (.aload_n 3, 1) := k45 hC_cX0_init rfl
theorem dX0_init_72 : decode cX0_init 72 = .ok (.putfield 43, 3) := k181 (y := 0) (z := 43) hC_cX0_init rfl rfl
theorem dX0_init_75 : decode cX0_init 75 = .ok (.aload_n 0, 1) := k42 hC_cX0_init rfl
theorem dX0_init_76 : decode cX0_init 76 = .ok (.aload 4, 2) := k25 hC_cX0_init rfl
theorem dX0_init_78 : decode cX0_init 78 = .ok (.putfield 47, 3) := k181 (y := 0) (z := 47) hC_cX0_init rfl rfl
theorem dX0_init_81 : decode cX0_init 81 = .ok (.return_, 1) := k177 hC_cX0_init rfl
theorem dX0_init_9 : decode cX0_init 9 = .ok (.putfield 11, 3) := k181 (y := 0) (z := 11) hC_cX0_init rfl rfl
theorem dX10_init_0 : decode cX10_init 0 = .ok (.aload_n 0, 1) := k42 hC_cX10_init rfl
theorem dX10_init_1 : decode cX10_init 1 = .ok (.invokespecial 3, 3) := k183 (y := 0) (z := 3) hC_cX10_init rfl rfl
theorem dX10_init_10 : decode cX10_init 10 = .ok (.putfield 11, 3) := k181 (y := 0) (z := 11) hC_cX10_init rfl rfl
theorem dX10_init_13 : decode cX10_init 13 = .ok (.aload_n 0, 1) := k42 hC_cX10_init rfl
theorem dX10_init_14 : decode cX10_init 14 = .ok (.sipush 400, 3) := k17 (y := 1) (z := 144) hC_cX10_init rfl rfl
theorem dX10_init_17 : decode cX10_init 17 = .ok (.newarray .byte, 2) := k188_8 hC_cX10_init rfl
theorem dX10_init_19 : decode cX10_init 19 = .ok (.putfield 15, 3) := k181 (y := 0) (z := 15) hC_cX10_init rfl rfl
theorem dX10_init_22 : decode cX10_init 22 = .ok (.return_, 1) := k177 hC_cX10_init rfl
theorem dX10_init_4 : decode cX10_init 4 = .ok (.aload_n 0, 1) := k42 hC_cX10_init rfl
theorem dX10_init_5 : decode cX10_init 5 = .ok (.sipush 4800, 3) := k17 (y := 18) (z := 192) hC_cX10_init rfl rfl
theorem dX10_init_8 : decode cX10_init 8 = .ok (.newarray .byte, 2) := k188_8 hC_cX10_init rfl
theorem dX11_init_0 : decode cX11_init 0 = .ok (.aload_n 0, 1) := k42 hC_cX11_init rfl
theorem dX11_init_1 : decode cX11_init 1 = .ok (.invokespecial 1, 3) := k183 (y := 0) (z := 1) hC_cX11_init rfl rfl
theorem dX11_init_10 : decode cX11_init 10 = .ok (.putfield 9, 3) := k181 (y := 0) (z := 9) hC_cX11_init rfl rfl
theorem dX11_init_100 : decode cX11_init 100 = .ok (.aload_n 0, 1) := k42 hC_cX11_init rfl
theorem dX11_init_101 : decode cX11_init 101 = .ok (.getfield 26, 3) := k180 (y := 0) (z := 26) hC_cX11_init rfl rfl
theorem dX11_init_104 : decode cX11_init 104 = .ok (.aload_n 0, 1) := k42 hC_cX11_init rfl
theorem dX11_init_105 : decode cX11_init 105 = .ok (.getfield 33, 3) := k180 (y := 0) (z := 33) hC_cX11_init rfl rfl
theorem dX11_init_108 : decode cX11_init 108 = .ok (.invokespecial 62, 3) := k183 (y := 0) (z := 62) hC_cX11_init rfl rfl
theorem dX11_init_111 : decode cX11_init 111 = .ok (.putfield 65, 3) := k181 (y := 0) (z := 65) hC_cX11_init rfl rfl
theorem dX11_init_114 : decode cX11_init 114 = .ok (.aload_n 0, 1) := k42 hC_cX11_init rfl
theorem dX11_init_115 : decode cX11_init 115 = .ok (.new 69, 3) := k187 (y := 0) (z := 69) hC_cX11_init rfl rfl
theorem dX11_init_118 : decode cX11_init 118 = .ok (.dup, 1) := k89 hC_cX11_init rfl
theorem dX11_init_119 : decode cX11_init 119 = .ok (.aload_n 0, 1) := k42 hC_cX11_init rfl
theorem dX11_init_120 : decode cX11_init 120 = .ok (.getfield 40, 3) := k180 (y := 0) (z := 40) hC_cX11_init rfl rfl
theorem dX11_init_123 : decode cX11_init 123 = .ok (.aload_n 0, 1) := k42 hC_cX11_init rfl
theorem dX11_init_124 : decode cX11_init 124 = .ok (.getfield 26, 3) := k180 (y := 0) (z := 26) hC_cX11_init rfl rfl
theorem dX11_init_127 : decode cX11_init 127 = .ok (.aload_n 0, 1) := k42 hC_cX11_init rfl
theorem dX11_init_128 : decode cX11_init 128 = .ok (.getfield 65, 3) := k180 (y := 0) (z := 65) hC_cX11_init rfl rfl
theorem dX11_init_13 : decode cX11_init 13 = .ok (.aload_n 0, 1) := k42 hC_cX11_init rfl
theorem dX11_init_131 : decode cX11_init 131 = .ok (.aload_n 0, 1) := k42 hC_cX11_init rfl
theorem dX11_init_132 : decode cX11_init 132 = .ok (.getfield 47, 3) := k180 (y := 0) (z := 47) hC_cX11_init rfl rfl
theorem dX11_init_135 : decode cX11_init 135 = .ok (.invokespecial 71, 3) := k183 (y := 0) (z := 71) hC_cX11_init rfl rfl
theorem dX11_init_138 : decode cX11_init 138 = .ok (.putfield 74, 3) := k181 (y := 0) (z := 74) hC_cX11_init rfl rfl
theorem dX11_init_14 : decode cX11_init 14 = .ok (.bipush 13, 2) := k16 (y := 13) hC_cX11_init rfl rfl
theorem dX11_init_141 : decode cX11_init 141 = .ok (.aload_n 0, 1) := k42 hC_cX11_init rfl
theorem dX11_init_142 : decode cX11_init 142 = .ok (.new 78, 3) := k187 (y := 0) (z := 78) hC_cX11_init rfl rfl
theorem dX11_init_145 : decode cX11_init 145 = .ok (.dup, 1) := k89 hC_cX11_init rfl
theorem dX11_init_146 : decode cX11_init 146 = .ok (.aload_n 0, 1) := k42 hC_cX11_init rfl
theorem dX11_init_147 : decode cX11_init 147 = .ok (.getfield 40, 3) := k180 (y := 0) (z := 40) hC_cX11_init rfl rfl
theorem dX11_init_150 : decode cX11_init 150 = .ok (.aload_n 0, 1) := k42 hC_cX11_init rfl
theorem dX11_init_151 : decode cX11_init 151 = .ok (.getfield 26, 3) := k180 (y := 0) (z := 26) hC_cX11_init rfl rfl
theorem dX11_init_154 : decode cX11_init 154 = .ok (.aload_n 0, 1) := k42 hC_cX11_init rfl
theorem dX11_init_155 : decode cX11_init 155 = .ok (.getfield 65, 3) := k180 (y := 0) (z := 65) hC_cX11_init rfl rfl
theorem dX11_init_158 : decode cX11_init 158 = .ok (.aload_n 0, 1) := k42 hC_cX11_init rfl
theorem dX11_init_159 : decode cX11_init 159 = .ok (.getfield 47, 3) := k180 (y := 0) (z := 47) hC_cX11_init rfl rfl
theorem dX11_init_16 : decode cX11_init 16 = .ok (.newarray .int, 2) := k188_10 hC_cX11_init rfl
theorem dX11_init_162 : decode cX11_init 162 = .ok (.invokespecial 80, 3) := k183 (y := 0) (z := 80) hC_cX11_init rfl rfl
theorem dX11_init_165 : decode cX11_init 165 = .ok (.putfield 81, 3) := k181 (y := 0) (z := 81) hC_cX11_init rfl rfl
theorem dX11_init_168 : decode cX11_init 168 = .ok (.aload_n 0, 1) := k42 hC_cX11_init rfl
theorem dX11_init_169 : decode cX11_init 169 = .ok (.new 85, 3) := k187 (y := 0) (z := 85) hC_cX11_init rfl rfl
theorem dX11_init_172 : decode cX11_init 172 = .ok (.dup, 1) := k89 hC_cX11_init rfl
theorem dX11_init_173 : decode cX11_init 173 = .ok (.aload_n 0, 1) := k42 hC_cX11_init rfl
theorem dX11_init_174 : decode cX11_init 174 = .ok (.getfield 26, 3) := k180 (y := 0) (z := 26) hC_cX11_init rfl rfl
theorem dX11_init_177 : decode cX11_init 177 = .ok (.aload_n 0, 1) := k42 hC_cX11_init rfl
theorem dX11_init_178 : decode cX11_init 178 = .ok (.getfield 33, 3) := k180 (y := 0) (z := 33) hC_cX11_init rfl rfl
theorem dX11_init_18 : decode cX11_init 18 = .ok (.putfield 13, 3) := k181 (y := 0) (z := 13) hC_cX11_init rfl rfl
theorem dX11_init_181 : decode cX11_init 181 = .ok (.aload_n 0, 1) := k42 hC_cX11_init rfl
theorem dX11_init_182 : decode cX11_init 182 = .ok (.getfield 47, 3) := k180 (y := 0) (z := 47) hC_cX11_init rfl rfl
theorem dX11_init_185 : decode cX11_init 185 = .ok (.invokespecial 87, 3) := k183 (y := 0) (z := 87) hC_cX11_init rfl rfl
theorem dX11_init_188 : decode cX11_init 188 = .ok (.putfield 90, 3) := k181 (y := 0) (z := 90) hC_cX11_init rfl rfl
theorem dX11_init_191 : decode cX11_init 191 = .ok (.return_, 1) := k177 hC_cX11_init rfl
theorem dX11_init_21 : decode cX11_init 21 = .ok (.aload_n 0, 1) := k42 hC_cX11_init rfl
theorem dX11_init_22 : decode cX11_init 22 = .ok (.new 16, 3) := k187 (y := 0) (z := 16) hC_cX11_init rfl rfl
theorem dX11_init_25 : decode cX11_init 25 = .ok (.dup, 1) := k89 hC_cX11_init rfl
theorem dX11_init_26 : decode cX11_init 26 = .ok (.invokespecial 18, 3) := k183 (y := 0) (z := 18) hC_cX11_init rfl rfl
theorem dX11_init_29 : decode cX11_init 29 = .ok (.putfield 19, 3) := k181 (y := 0) (z := 19) hC_cX11_init rfl rfl
theorem dX11_init_32 : decode cX11_init 32 = .ok (.aload_n 0, 1) := k42 hC_cX11_init rfl
theorem dX11_init_33 : decode cX11_init 33 = .ok (.new 23, 3) := k187 (y := 0) (z := 23) hC_cX11_init rfl rfl
theorem dX11_init_36 : decode cX11_init 36 = .ok (.dup, 1) := k89 hC_cX11_init rfl
theorem dX11_init_37 : decode cX11_init 37 = .ok (.invokespecial 25, 3) := k183 (y := 0) (z := 25) hC_cX11_init rfl rfl
theorem dX11_init_4 : decode cX11_init 4 = .ok (.aload_n 0, 1) := k42 hC_cX11_init rfl
theorem dX11_init_40 : decode cX11_init 40 = .ok (.putfield 26, 3) := k181 (y := 0) (z := 26) hC_cX11_init rfl rfl
theorem dX11_init_43 : decode cX11_init 43 = .ok (.aload_n 0, 1) := k42 hC_cX11_init rfl
theorem dX11_init_44 : decode cX11_init 44 = .ok (.new 30, 3) := k187 (y := 0) (z := 30) hC_cX11_init rfl rfl
theorem dX11_init_47 : decode cX11_init 47 = .ok (.dup, 1) := k89 hC_cX11_init rfl
theorem dX11_init_48 : decode cX11_init 48 = .ok (.invokespecial 32, 3) := k183 (y := 0) (z := 32) hC_cX11_init rfl rfl
theorem dX11_init_5 : decode cX11_init 5 = .ok (.sipush 200, 3) := k17 (y := 0) (z := 200) hC_cX11_init rfl rfl
theorem dX11_init_51 : decode cX11_init 51 = .ok (.putfield 33, 3) := k181 (y := 0) (z := 33) hC_cX11_init rfl rfl
theorem dX11_init_54 : decode cX11_init 54 = .ok (.aload_n 0, 1) := k42 hC_cX11_init rfl
theorem dX11_init_55 : decode cX11_init 55 = .ok (.new 37, 3) := k187 (y := 0) (z := 37) hC_cX11_init rfl rfl
theorem dX11_init_58 : decode cX11_init 58 = .ok (.dup, 1) := k89 hC_cX11_init rfl
theorem dX11_init_59 : decode cX11_init 59 = .ok (.invokespecial 39, 3) := k183 (y := 0) (z := 39) hC_cX11_init rfl rfl
theorem dX11_init_62 : decode cX11_init 62 = .ok (.putfield 40, 3) := k181 (y := 0) (z := 40) hC_cX11_init rfl rfl
theorem dX11_init_65 : decode cX11_init 65 = .ok (.aload_n 0, 1) := k42 hC_cX11_init rfl
theorem dX11_init_66 : decode cX11_init 66 = .ok (.new 44, 3) := k187 (y := 0) (z := 44) hC_cX11_init rfl rfl
theorem dX11_init_69 : decode cX11_init 69 = .ok (.dup, 1) := k89 hC_cX11_init rfl
theorem dX11_init_70 : decode cX11_init 70 = .ok (.invokespecial 46, 3) := k183 (y := 0) (z := 46) hC_cX11_init rfl rfl
theorem dX11_init_73 : decode cX11_init 73 = .ok (.putfield 47, 3) := k181 (y := 0) (z := 47) hC_cX11_init rfl rfl
theorem dX11_init_76 : decode cX11_init 76 = .ok (.aload_n 0, 1) := k42 hC_cX11_init rfl
theorem dX11_init_77 : decode cX11_init 77 = .ok (.new 51, 3) := k187 (y := 0) (z := 51) hC_cX11_init rfl rfl
theorem dX11_init_8 : decode cX11_init 8 = .ok (.newarray .int, 2) := k188_10 hC_cX11_init rfl
theorem dX11_init_80 : decode cX11_init 80 = .ok (.dup, 1) := k89 hC_cX11_init rfl
theorem dX11_init_81 : decode cX11_init 81 = .ok (.aload_n 0, 1) := k42 hC_cX11_init rfl
theorem dX11_init_82 : decode cX11_init 82 = .ok (.getfield 40, 3) := k180 (y := 0) (z := 40) hC_cX11_init rfl rfl
theorem dX11_init_85 : decode cX11_init 85 = .ok (.invokespecial 53, 3) := k183 (y := 0) (z := 53) hC_cX11_init rfl rfl
theorem dX11_init_88 : decode cX11_init 88 = .ok (.putfield 56, 3) := k181 (y := 0) (z := 56) hC_cX11_init rfl rfl
theorem dX11_init_91 : decode cX11_init 91 = .ok (.aload_n 0, 1) := k42 hC_cX11_init rfl
theorem dX11_init_92 : decode cX11_init 92 = .ok (.new 60, 3) := k187 (y := 0) (z := 60) hC_cX11_init rfl rfl
theorem dX11_init_95 : decode cX11_init 95 = .ok (.dup, 1) := k89 hC_cX11_init rfl
theorem dX11_init_96 : decode cX11_init 96 = .ok (.aload_n 0, 1) := k42 hC_cX11_init rfl
theorem dX11_init_97 : decode cX11_init 97 = .ok (.getfield 40, 3) := k180 (y := 0) (z := 40) hC_cX11_init rfl rfl
theorem dX12_init_0 : decode cX12_init 0 = .ok (.aload_n 0, 1) := k42 hC_cX12_init rfl
theorem dX12_init_1 : decode cX12_init 1 = .ok (.invokespecial 1, 3) := k183 (y := 0) (z := 1) hC_cX12_init rfl rfl
theorem dX12_init_10 : decode cX12_init 10 = .ok (.putfield 7, 3) := k181 (y := 0) (z := 7) hC_cX12_init rfl rfl
theorem dX12_init_100 : decode cX12_init 100 = .ok (.newarray .boolean, 2) := k188_4 hC_cX12_init rfl
theorem dX12_init_102 : decode cX12_init 102 = .ok (.putfield 45, 3) := k181 (y := 0) (z := 45) hC_cX12_init rfl rfl
theorem dX12_init_105 : decode cX12_init 105 = .ok (.aload_n 0, 1) := k42 hC_cX12_init rfl
theorem dX12_init_106 : decode cX12_init 106 = .ok (.sipush 960, 3) := k17 (y := 3) (z := 192) hC_cX12_init rfl rfl
theorem dX12_init_109 : decode cX12_init 109 = .ok (.newarray .byte, 2) := k188_8 hC_cX12_init rfl
theorem dX12_init_111 : decode cX12_init 111 = .ok (.putfield 48, 3) := k181 (y := 0) (z := 48) hC_cX12_init rfl rfl
theorem dX12_init_114 : decode cX12_init 114 = .ok (.aload_n 0, 1) := k42 hC_cX12_init rfl
theorem dX12_init_115 : decode cX12_init 115 = .ok (.bipush 80, 2) := k16 (y := 80) hC_cX12_init rfl rfl
theorem dX12_init_117 : decode cX12_init 117 = .ok (.newarray .int, 2) := k188_10 hC_cX12_init rfl
theorem dX12_init_119 : decode cX12_init 119 = .ok (.putfield 51, 3) := k181 (y := 0) (z := 51) hC_cX12_init rfl rfl
theorem dX12_init_122 : decode cX12_init 122 = .ok (.aload_n 0, 1) := k42 hC_cX12_init rfl
theorem dX12_init_123 : decode cX12_init 123 = .ok (.bipush 20, 2) := k16 (y := 20) hC_cX12_init rfl rfl
theorem dX12_init_125 : decode cX12_init 125 = .ok (.newarray .int, 2) := k188_10 hC_cX12_init rfl
theorem dX12_init_127 : decode cX12_init 127 = .ok (.putfield 54, 3) := k181 (y := 0) (z := 54) hC_cX12_init rfl rfl
theorem dX12_init_13 : decode cX12_init 13 = .ok (.aload_n 0, 1) := k42 hC_cX12_init rfl
theorem dX12_init_130 : decode cX12_init 130 = .ok (.aload_n 0, 1) := k42 hC_cX12_init rfl
theorem dX12_init_131 : decode cX12_init 131 = .ok (.bipush 20, 2) := k16 (y := 20) hC_cX12_init rfl rfl
theorem dX12_init_133 : decode cX12_init 133 = .ok (.newarray .int, 2) := k188_10 hC_cX12_init rfl
theorem dX12_init_135 : decode cX12_init 135 = .ok (.putfield 57, 3) := k181 (y := 0) (z := 57) hC_cX12_init rfl rfl
theorem dX12_init_138 : decode cX12_init 138 = .ok (.aload_n 0, 1) := k42 hC_cX12_init rfl
theorem dX12_init_139 : decode cX12_init 139 = .ok (.bipush 20, 2) := k16 (y := 20) hC_cX12_init rfl rfl
theorem dX12_init_14 : decode cX12_init 14 = .ok (.bipush 60, 2) := k16 (y := 60) hC_cX12_init rfl rfl
theorem dX12_init_141 : decode cX12_init 141 = .ok (.newarray .int, 2) := k188_10 hC_cX12_init rfl
theorem dX12_init_143 : decode cX12_init 143 = .ok (.putfield 60, 3) := k181 (y := 0) (z := 60) hC_cX12_init rfl rfl
theorem dX12_init_146 : decode cX12_init 146 = .ok (.aload_n 0, 1) := k42 hC_cX12_init rfl
theorem dX12_init_147 : decode cX12_init 147 = .ok (.bipush 20, 2) := k16 (y := 20) hC_cX12_init rfl rfl
theorem dX12_init_149 : decode cX12_init 149 = .ok (.newarray .int, 2) := k188_10 hC_cX12_init rfl
theorem dX12_init_151 : decode cX12_init 151 = .ok (.putfield 63, 3) := k181 (y := 0) (z := 63) hC_cX12_init rfl rfl
theorem dX12_init_154 : decode cX12_init 154 = .ok (.aload_n 0, 1) := k42 hC_cX12_init rfl
theorem dX12_init_155 : decode cX12_init 155 = .ok (.sipush 320, 3) := k17 (y := 1) (z := 64) hC_cX12_init rfl rfl
theorem dX12_init_158 : decode cX12_init 158 = .ok (.newarray .int, 2) := k188_10 hC_cX12_init rfl
theorem dX12_init_16 : decode cX12_init 16 = .ok (.newarray .int, 2) := k188_10 hC_cX12_init rfl
theorem dX12_init_160 : decode cX12_init 160 = .ok (.putfield 66, 3) := k181 (y := 0) (z := 66) hC_cX12_init rfl rfl
theorem dX12_init_163 : decode cX12_init 163 = .ok (.aload_n 0, 1) := k42 hC_cX12_init rfl
theorem dX12_init_164 : decode cX12_init 164 = .ok (.sipush 320, 3) := k17 (y := 1) (z := 64) hC_cX12_init rfl rfl
theorem dX12_init_167 : decode cX12_init 167 = .ok (.newarray .int, 2) := k188_10 hC_cX12_init rfl
theorem dX12_init_169 : decode cX12_init 169 = .ok (.putfield 69, 3) := k181 (y := 0) (z := 69) hC_cX12_init rfl rfl
theorem dX12_init_172 : decode cX12_init 172 = .ok (.aload_n 0, 1) := k42 hC_cX12_init rfl
theorem dX12_init_173 : decode cX12_init 173 = .ok (.sipush 320, 3) := k17 (y := 1) (z := 64) hC_cX12_init rfl rfl
theorem dX12_init_176 : decode cX12_init 176 = .ok (.newarray .int, 2) := k188_10 hC_cX12_init rfl
theorem dX12_init_178 : decode cX12_init 178 = .ok (.putfield 72, 3) := k181 (y := 0) (z := 72) hC_cX12_init rfl rfl
theorem dX12_init_18 : decode cX12_init 18 = .ok (.putfield 13, 3) := k181 (y := 0) (z := 13) hC_cX12_init rfl rfl
theorem dX12_init_181 : decode cX12_init 181 = .ok (.aload_n 0, 1) := k42 hC_cX12_init rfl
theorem dX12_init_182 : decode cX12_init 182 = .ok (.sipush 320, 3) := k17 (y := 1) (z := 64) hC_cX12_init rfl rfl
theorem dX12_init_185 : decode cX12_init 185 = .ok (.newarray .int, 2) := k188_10 hC_cX12_init rfl
theorem dX12_init_187 : decode cX12_init 187 = .ok (.putfield 75, 3) := k181 (y := 0) (z := 75) hC_cX12_init rfl rfl
theorem dX12_init_190 : decode cX12_init 190 = .ok (.aload_n 0, 1) := k42 hC_cX12_init rfl
theorem dX12_init_191 : decode cX12_init 191 = .ok (.sipush 320, 3) := k17 (y := 1) (z := 64) hC_cX12_init rfl rfl
theorem dX12_init_194 : decode cX12_init 194 = .ok (.newarray .int, 2) := k188_10 hC_cX12_init rfl
theorem dX12_init_196 : decode cX12_init 196 = .ok (.putfield 78, 3) := k181 (y := 0) (z := 78) hC_cX12_init rfl rfl
theorem dX12_init_199 : decode cX12_init 199 = .ok (.aload_n 0, 1) := k42 hC_cX12_init rfl
theorem dX12_init_200 : decode cX12_init 200 = .ok (.sipush 320, 3) := k17 (y := 1) (z := 64) hC_cX12_init rfl rfl
theorem dX12_init_203 : decode cX12_init 203 = .ok (.newarray .int, 2) := k188_10 hC_cX12_init rfl
theorem dX12_init_205 : decode cX12_init 205 = .ok (.putfield 81, 3) := k181 (y := 0) (z := 81) hC_cX12_init rfl rfl
theorem dX12_init_208 : decode cX12_init 208 = .ok (.aload_n 0, 1) := k42 hC_cX12_init rfl
theorem dX12_init_209 : decode cX12_init 209 = .ok (.sipush 3200, 3) := k17 (y := 12) (z := 128) hC_cX12_init rfl rfl
theorem dX12_init_21 : decode cX12_init 21 = .ok (.aload_n 0, 1) := k42 hC_cX12_init rfl
theorem dX12_init_212 : decode cX12_init 212 = .ok (.newarray .int, 2) := k188_10 hC_cX12_init rfl
theorem dX12_init_214 : decode cX12_init 214 = .ok (.putfield 84, 3) := k181 (y := 0) (z := 84) hC_cX12_init rfl rfl
theorem dX12_init_217 : decode cX12_init 217 = .ok (.aload_n 0, 1) := k42 hC_cX12_init rfl
theorem dX12_init_218 : decode cX12_init 218 = .ok (.sipush 3200, 3) := k17 (y := 12) (z := 128) hC_cX12_init rfl rfl
theorem dX12_init_22 : decode cX12_init 22 = .ok (.bipush 60, 2) := k16 (y := 60) hC_cX12_init rfl rfl
theorem dX12_init_221 : decode cX12_init 221 = .ok (.newarray .int, 2) := k188_10 hC_cX12_init rfl
theorem dX12_init_223 : decode cX12_init 223 = .ok (.putfield 87, 3) := k181 (y := 0) (z := 87) hC_cX12_init rfl rfl
theorem dX12_init_226 : decode cX12_init 226 = .ok (.aload_n 0, 1) := k42 hC_cX12_init rfl
theorem dX12_init_227 : decode cX12_init 227 = .ok (.sipush 200, 3) := k17 (y := 0) (z := 200) hC_cX12_init rfl rfl
theorem dX12_init_230 : decode cX12_init 230 = .ok (.newarray .int, 2) := k188_10 hC_cX12_init rfl
theorem dX12_init_232 : decode cX12_init 232 = .ok (.putfield 90, 3) := k181 (y := 0) (z := 90) hC_cX12_init rfl rfl
theorem dX12_init_235 : decode cX12_init 235 = .ok (.aload_n 0, 1) := k42 hC_cX12_init rfl
theorem dX12_init_236 : decode cX12_init 236 = .ok (.sipush 200, 3) := k17 (y := 0) (z := 200) hC_cX12_init rfl rfl
theorem dX12_init_239 : decode cX12_init 239 = .ok (.newarray .int, 2) := k188_10 hC_cX12_init rfl
theorem dX12_init_24 : decode cX12_init 24 = .ok (.newarray .int, 2) := k188_10 hC_cX12_init rfl
theorem dX12_init_241 : decode cX12_init 241 = .ok (.putfield 93, 3) := k181 (y := 0) (z := 93) hC_cX12_init rfl rfl
theorem dX12_init_244 : decode cX12_init 244 = .ok (.aload_n 0, 1) := k42 hC_cX12_init rfl
theorem dX12_init_245 : decode cX12_init 245 = .ok (.sipush 200, 3) := k17 (y := 0) (z := 200) hC_cX12_init rfl rfl
theorem dX12_init_248 : decode cX12_init 248 = .ok (.newarray .boolean, 2) := k188_4 hC_cX12_init rfl
theorem dX12_init_250 : decode cX12_init 250 = .ok (.putfield 96, 3) := k181 (y := 0) (z := 96) hC_cX12_init rfl rfl
theorem dX12_init_253 : decode cX12_init 253 = .ok (.aload_n 0, 1) := k42 hC_cX12_init rfl
theorem dX12_init_254 : decode cX12_init 254 = .ok (.bipush 16, 2) := k16 (y := 16) hC_cX12_init rfl rfl
theorem dX12_init_256 : decode cX12_init 256 = .ok (.newarray .int, 2) := k188_10 hC_cX12_init rfl
theorem dX12_init_258 : decode cX12_init 258 = .ok (.putfield 99, 3) := k181 (y := 0) (z := 99) hC_cX12_init rfl rfl
theorem dX12_init_26 : decode cX12_init 26 = .ok (.putfield 17, 3) := k181 (y := 0) (z := 17) hC_cX12_init rfl rfl
theorem dX12_init_261 : decode cX12_init 261 = .ok (.aload_n 0, 1) := k42 hC_cX12_init rfl
theorem dX12_init_262 : decode cX12_init 262 = .ok (.bipush 16, 2) := k16 (y := 16) hC_cX12_init rfl rfl
theorem dX12_init_264 : decode cX12_init 264 = .ok (.newarray .int, 2) := k188_10 hC_cX12_init rfl
theorem dX12_init_266 : decode cX12_init 266 = .ok (.putfield 102, 3) := k181 (y := 0) (z := 102) hC_cX12_init rfl rfl
theorem dX12_init_269 : decode cX12_init 269 = .ok (.aload_n 0, 1) := k42 hC_cX12_init rfl
theorem dX12_init_270 : decode cX12_init 270 = .ok (.sipush 400, 3) := k17 (y := 1) (z := 144) hC_cX12_init rfl rfl
theorem dX12_init_273 : decode cX12_init 273 = .ok (.newarray .int, 2) := k188_10 hC_cX12_init rfl
theorem dX12_init_275 : decode cX12_init 275 = .ok (.putfield 105, 3) := k181 (y := 0) (z := 105) hC_cX12_init rfl rfl
theorem dX12_init_278 : decode cX12_init 278 = .ok (.aload_n 0, 1) := k42 hC_cX12_init rfl
theorem dX12_init_279 : decode cX12_init 279 = .ok (.sipush 200, 3) := k17 (y := 0) (z := 200) hC_cX12_init rfl rfl
theorem dX12_init_282 : decode cX12_init 282 = .ok (.newarray .int, 2) := k188_10 hC_cX12_init rfl
theorem dX12_init_284 : decode cX12_init 284 = .ok (.putfield 108, 3) := k181 (y := 0) (z := 108) hC_cX12_init rfl rfl
theorem dX12_init_287 : decode cX12_init 287 = .ok (.aload_n 0, 1) := k42 hC_cX12_init rfl
theorem dX12_init_288 : decode cX12_init 288 = .ok (.sipush 200, 3) := k17 (y := 0) (z := 200) hC_cX12_init rfl rfl
theorem dX12_init_29 : decode cX12_init 29 = .ok (.aload_n 0, 1) := k42 hC_cX12_init rfl
theorem dX12_init_291 : decode cX12_init 291 = .ok (.newarray .int, 2) := k188_10 hC_cX12_init rfl
theorem dX12_init_293 : decode cX12_init 293 = .ok (.putfield 111, 3) := k181 (y := 0) (z := 111) hC_cX12_init rfl rfl
theorem dX12_init_296 : decode cX12_init 296 = .ok (.aload_n 0, 1) := k42 hC_cX12_init rfl
theorem dX12_init_297 : decode cX12_init 297 = .ok (.sipush 200, 3) := k17 (y := 0) (z := 200) hC_cX12_init rfl rfl
theorem dX12_init_30 : decode cX12_init 30 = .ok (.sipush 180, 3) := k17 (y := 0) (z := 180) hC_cX12_init rfl rfl
theorem dX12_init_300 : decode cX12_init 300 = .ok (.newarray .int, 2) := k188_10 hC_cX12_init rfl
theorem dX12_init_302 : decode cX12_init 302 = .ok (.putfield 114, 3) := k181 (y := 0) (z := 114) hC_cX12_init rfl rfl
theorem dX12_init_305 : decode cX12_init 305 = .ok (.aload_n 0, 1) := k42 hC_cX12_init rfl
theorem dX12_init_306 : decode cX12_init 306 = .ok (.sipush 200, 3) := k17 (y := 0) (z := 200) hC_cX12_init rfl rfl
theorem dX12_init_309 : decode cX12_init 309 = .ok (.newarray .int, 2) := k188_10 hC_cX12_init rfl
theorem dX12_init_311 : decode cX12_init 311 = .ok (.putfield 117, 3) := k181 (y := 0) (z := 117) hC_cX12_init rfl rfl
theorem dX12_init_314 : decode cX12_init 314 = .ok (.aload_n 0, 1) := k42 hC_cX12_init rfl
theorem dX12_init_315 : decode cX12_init 315 = .ok (.sipush 200, 3) := k17 (y := 0) (z := 200) hC_cX12_init rfl rfl
theorem dX12_init_318 : decode cX12_init 318 = .ok (.newarray .int, 2) := k188_10 hC_cX12_init rfl
theorem dX12_init_320 : decode cX12_init 320 = .ok (.putfield 120, 3) := k181 (y := 0) (z := 120) hC_cX12_init rfl rfl
theorem dX12_init_323 : decode cX12_init 323 = .ok (.aload_n 0, 1) := k42 hC_cX12_init rfl
theorem dX12_init_324 : decode cX12_init 324 = .ok (.sipush 200, 3) := k17 (y := 0) (z := 200) hC_cX12_init rfl rfl
theorem dX12_init_327 : decode cX12_init 327 = .ok (.newarray .int, 2) := k188_10 hC_cX12_init rfl
theorem dX12_init_329 : decode cX12_init 329 = .ok (.putfield 123, 3) := k181 (y := 0) (z := 123) hC_cX12_init rfl rfl
theorem dX12_init_33 : decode cX12_init 33 = .ok (.newarray .int, 2) := k188_10 hC_cX12_init rfl
theorem dX12_init_332 : decode cX12_init 332 = .ok (.aload_n 0, 1) := k42 hC_cX12_init rfl
theorem dX12_init_333 : decode cX12_init 333 = .ok (.sipush 1600, 3) := k17 (y := 6) (z := 64) hC_cX12_init rfl rfl
theorem dX12_init_336 : decode cX12_init 336 = .ok (.newarray .int, 2) := k188_10 hC_cX12_init rfl
theorem dX12_init_338 : decode cX12_init 338 = .ok (.putfield 126, 3) := k181 (y := 0) (z := 126) hC_cX12_init rfl rfl
theorem dX12_init_341 : decode cX12_init 341 = .ok (.aload_n 0, 1) := k42 hC_cX12_init rfl
theorem dX12_init_342 : decode cX12_init 342 = .ok (.sipush 200, 3) := k17 (y := 0) (z := 200) hC_cX12_init rfl rfl
theorem dX12_init_345 : decode cX12_init 345 = .ok (.newarray .int, 2) := k188_10 hC_cX12_init rfl
theorem dX12_init_347 : decode cX12_init 347 = .ok (.putfield 129, 3) := k181 (y := 0) (z := 129) hC_cX12_init rfl rfl
theorem dX12_init_35 : decode cX12_init 35 = .ok (.putfield 20, 3) := k181 (y := 0) (z := 20) hC_cX12_init rfl rfl
theorem dX12_init_350 : decode cX12_init 350 = .ok (.aload_n 0, 1) := k42 hC_cX12_init rfl
theorem dX12_init_351 : decode cX12_init 351 = .ok (.sipush 2400, 3) := k17 (y := 9) (z := 96) hC_cX12_init rfl rfl
theorem dX12_init_354 : decode cX12_init 354 = .ok (.newarray .int, 2) := k188_10 hC_cX12_init rfl
theorem dX12_init_356 : decode cX12_init 356 = .ok (.putfield 132, 3) := k181 (y := 0) (z := 132) hC_cX12_init rfl rfl
theorem dX12_init_359 : decode cX12_init 359 = .ok (.aload_n 0, 1) := k42 hC_cX12_init rfl
theorem dX12_init_360 : decode cX12_init 360 = .ok (.sipush 2400, 3) := k17 (y := 9) (z := 96) hC_cX12_init rfl rfl
theorem dX12_init_363 : decode cX12_init 363 = .ok (.newarray .int, 2) := k188_10 hC_cX12_init rfl
theorem dX12_init_365 : decode cX12_init 365 = .ok (.putfield 135, 3) := k181 (y := 0) (z := 135) hC_cX12_init rfl rfl
theorem dX12_init_368 : decode cX12_init 368 = .ok (.aload_n 0, 1) := k42 hC_cX12_init rfl
theorem dX12_init_369 : decode cX12_init 369 = .ok (.sipush 200, 3) := k17 (y := 0) (z := 200) hC_cX12_init rfl rfl
theorem dX12_init_372 : decode cX12_init 372 = .ok (.newarray .int, 2) := k188_10 hC_cX12_init rfl
theorem dX12_init_374 : decode cX12_init 374 = .ok (.putfield 138, 3) := k181 (y := 0) (z := 138) hC_cX12_init rfl rfl
theorem dX12_init_377 : decode cX12_init 377 = .ok (.aload_n 0, 1) := k42 hC_cX12_init rfl
theorem dX12_init_378 : decode cX12_init 378 = .ok (.sipush 400, 3) := k17 (y := 1) (z := 144) hC_cX12_init rfl rfl
theorem dX12_init_38 : decode cX12_init 38 = .ok (.aload_n 0, 1) := k42 hC_cX12_init rfl
theorem dX12_init_381 : decode cX12_init 381 = .ok (.newarray .int, 2) := k188_10 hC_cX12_init rfl
theorem dX12_init_383 : decode cX12_init 383 = .ok (.putfield 141, 3) := k181 (y := 0) (z := 141) hC_cX12_init rfl rfl
theorem dX12_init_386 : decode cX12_init 386 = .ok (.aload_n 0, 1) := k42 hC_cX12_init rfl
theorem dX12_init_387 : decode cX12_init 387 = .ok (.sipush 400, 3) := k17 (y := 1) (z := 144) hC_cX12_init rfl rfl
theorem dX12_init_39 : decode cX12_init 39 = .ok (.sipush 1440, 3) := k17 (y := 5) (z := 160) hC_cX12_init rfl rfl
theorem dX12_init_390 : decode cX12_init 390 = .ok (.newarray .int, 2) := k188_10 hC_cX12_init rfl
theorem dX12_init_392 : decode cX12_init 392 = .ok (.putfield 144, 3) := k181 (y := 0) (z := 144) hC_cX12_init rfl rfl
theorem dX12_init_395 : decode cX12_init 395 = .ok (.aload_n 0, 1) := k42 hC_cX12_init rfl
theorem dX12_init_396 : decode cX12_init 396 = .ok (.sipush 400, 3) := k17 (y := 1) (z := 144) hC_cX12_init rfl rfl
theorem dX12_init_399 : decode cX12_init 399 = .ok (.newarray .int, 2) := k188_10 hC_cX12_init rfl
theorem dX12_init_4 : decode cX12_init 4 = .ok (.aload_n 0, 1) := k42 hC_cX12_init rfl
theorem dX12_init_401 : decode cX12_init 401 = .ok (.putfield 147, 3) := k181 (y := 0) (z := 147) hC_cX12_init rfl rfl
theorem dX12_init_404 : decode cX12_init 404 = .ok (.aload_n 0, 1) := k42 hC_cX12_init rfl
theorem dX12_init_405 : decode cX12_init 405 = .ok (.sipush 400, 3) := k17 (y := 1) (z := 144) hC_cX12_init rfl rfl
theorem dX12_init_408 : decode cX12_init 408 = .ok (.newarray .int, 2) := k188_10 hC_cX12_init rfl
theorem dX12_init_410 : decode cX12_init 410 = .ok (.putfield 150, 3) := k181 (y := 0) (z := 150) hC_cX12_init rfl rfl
theorem dX12_init_413 : decode cX12_init 413 = .ok (.aload_n 0, 1) := k42 hC_cX12_init rfl
theorem dX12_init_414 : decode cX12_init 414 = .ok (.sipush 400, 3) := k17 (y := 1) (z := 144) hC_cX12_init rfl rfl
theorem dX12_init_417 : decode cX12_init 417 = .ok (.newarray .int, 2) := k188_10 hC_cX12_init rfl
theorem dX12_init_419 : decode cX12_init 419 = .ok (.putfield 153, 3) := k181 (y := 0) (z := 153) hC_cX12_init rfl rfl
theorem dX12_init_42 : decode cX12_init 42 = .ok (.newarray .int, 2) := k188_10 hC_cX12_init rfl
theorem dX12_init_422 : decode cX12_init 422 = .ok (.aload_n 0, 1) := k42 hC_cX12_init rfl
theorem dX12_init_423 : decode cX12_init 423 = .ok (.sipush 400, 3) := k17 (y := 1) (z := 144) hC_cX12_init rfl rfl
theorem dX12_init_426 : decode cX12_init 426 = .ok (.newarray .int, 2) := k188_10 hC_cX12_init rfl
