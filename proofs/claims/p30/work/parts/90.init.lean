theorem dX0_init_0 : decode cX0_init 0 = .ok (.aload_n 0, 1) := k42 hC_cX0_init rfl
theorem dX0_init_1 : decode cX0_init 1 = .ok (.invokespecial 3, 3) := k183 (y := 0) (z := 3) hC_cX0_init rfl rfl
theorem dX0_init_12 : decode cX0_init 12 = .ok (.aload_n 0, 1) := k42 hC_cX0_init rfl
theorem dX0_init_13 : decode cX0_init 13 = .ok (.bipush 6, 2) := k16 (y := 6) hC_cX0_init rfl rfl
theorem dX0_init_15 : decode cX0_init 15 = .ok (.newarray .int, 2) := k188_10 hC_cX0_init rfl
theorem dX0_init_17 : decode cX0_init 17 = .ok (.putfield 15, 3) := k181 (y := 0) (z := 15) hC_cX0_init rfl rfl
theorem dX0_init_20 : decode cX0_init 20 = .ok (.aload_n 0, 1) := k42 hC_cX0_init rfl
theorem dX0_init_21 : decode cX0_init 21 = .ok (.bipush 24, 2) := k16 (y := 24) hC_cX0_init rfl rfl
theorem dX0_init_23 : decode cX0_init 23 = .ok (.newarray .int, 2) := k188_10 hC_cX0_init rfl
theorem dX0_init_25 : decode cX0_init 25 = .ok (.putfield 18, 3) := k181 (y := 0) (z := 18) hC_cX0_init rfl rfl
theorem dX0_init_28 : decode cX0_init 28 = .ok (.aload_n 0, 1) := k42 hC_cX0_init rfl
theorem dX0_init_29 : decode cX0_init 29 = .ok (.bipush 40, 2) := k16 (y := 40) hC_cX0_init rfl rfl
theorem dX0_init_31 : decode cX0_init 31 = .ok (.newarray .long, 2) := k188_11 hC_cX0_init rfl
theorem dX0_init_33 : decode cX0_init 33 = .ok (.putfield 21, 3) := k181 (y := 0) (z := 21) hC_cX0_init rfl rfl
theorem dX0_init_36 : decode cX0_init 36 = .ok (.aload_n 0, 1) := k42 hC_cX0_init rfl
theorem dX0_init_37 : decode cX0_init 37 = .ok (.bipush 24, 2) := k16 (y := 24) hC_cX0_init rfl rfl
theorem dX0_init_39 : decode cX0_init 39 = .ok (.newarray .int, 2) := k188_10 hC_cX0_init rfl
theorem dX0_init_4 : decode cX0_init 4 = .ok (.aload_n 0, 1) := k42 hC_cX0_init rfl
theorem dX0_init_41 : decode cX0_init 41 = .ok (.putfield 25, 3) := k181 (y := 0) (z := 25) hC_cX0_init rfl rfl
theorem dX0_init_44 : decode cX0_init 44 = .ok (.aload_n 0, 1) := k42 hC_cX0_init rfl
theorem dX0_init_45 : decode cX0_init 45 = .ok (.bipush 24, 2) := k16 (y := 24) hC_cX0_init rfl rfl
theorem dX0_init_47 : decode cX0_init 47 = .ok (.newarray .boolean, 2) := k188_4 hC_cX0_init rfl
theorem dX0_init_49 : decode cX0_init 49 = .ok (.putfield 28, 3) := k181 (y := 0) (z := 28) hC_cX0_init rfl rfl
theorem dX0_init_5 : decode cX0_init 5 = .ok (.bipush 6, 2) := k16 (y := 6) hC_cX0_init rfl rfl
theorem dX0_init_52 : decode cX0_init 52 = .ok (.aload_n 0, 1) := k42 hC_cX0_init rfl
theorem dX0_init_53 : decode cX0_init 53 = .ok (.bipush 6, 2) := k16 (y := 6) hC_cX0_init rfl rfl
theorem dX0_init_55 : decode cX0_init 55 = .ok (.newarray .int, 2) := k188_10 hC_cX0_init rfl
theorem dX0_init_57 : decode cX0_init 57 = .ok (.putfield 32, 3) := k181 (y := 0) (z := 32) hC_cX0_init rfl rfl
theorem dX0_init_60 : decode cX0_init 60 = .ok (.aload_n 0, 1) := k42 hC_cX0_init rfl
theorem dX0_init_61 : decode cX0_init 61 = .ok (.aload_n 1, 1) := k43 hC_cX0_init rfl
theorem dX0_init_62 : decode cX0_init 62 = .ok (.putfield 35, 3) := k181 (y := 0) (z := 35) hC_cX0_init rfl rfl
theorem dX0_init_65 : decode cX0_init 65 = .ok (.aload_n 0, 1) := k42 hC_cX0_init rfl
theorem dX0_init_66 : decode cX0_init 66 = .ok (.aload_n 2, 1) := k44 hC_cX0_init rfl
theorem dX0_init_67 : decode cX0_init 67 = .ok (.putfield 39, 3) := k181 (y := 0) (z := 39) hC_cX0_init rfl rfl
theorem dX0_init_7 : decode cX0_init 7 = .ok (.newarray .int, 2) := k188_10 hC_cX0_init rfl
theorem dX0_init_70 : decode cX0_init 70 = .ok (.aload_n 0, 1) := k42 hC_cX0_init rfl
theorem dX0_init_71 : decode cX0_init 71 = .ok (.aload_n 3, 1) := k45 hC_cX0_init rfl
theorem dX0_init_72 : decode cX0_init 72 = .ok (.putfield 43, 3) := k181 (y := 0) (z := 43) hC_cX0_init rfl rfl
theorem dX0_init_75 : decode cX0_init 75 = .ok (.aload_n 0, 1) := k42 hC_cX0_init rfl
theorem dX0_init_76 : decode cX0_init 76 = .ok (.aload 4, 2) := k25 hC_cX0_init rfl
theorem dX0_init_78 : decode cX0_init 78 = .ok (.putfield 47, 3) := k181 (y := 0) (z := 47) hC_cX0_init rfl rfl
theorem dX0_init_81 : decode cX0_init 81 = .ok (.return_, 1) := k177 hC_cX0_init rfl
theorem dX0_init_9 : decode cX0_init 9 = .ok (.putfield 11, 3) := k181 (y := 0) (z := 11) hC_cX0_init rfl rfl
theorem dX10_init_0 : decode cX10_init 0 = .ok (.aload_n 0, 1) := k42 hC_cX10_init rfl
theorem dX10_init_1 : decode cX10_init 1 = .ok (.invokespecial 3, 3) := k183 (y := 0) (z := 3) hC_cX10_init rfl rfl
theorem dX10_init_10 : decode cX10_init 10 = .ok (.putfield 11, 3) := k181 (y := 0) (z := 11) hC_cX10_init rfl rfl
theorem dX10_init_13 : decode cX10_init 13 = .ok (.aload_n 0, 1) := k42 hC_cX10_init rfl
theorem dX10_init_14 : decode cX10_init 14 = .ok (.sipush 400, 3) := k17 (y := 1) (z := 144) hC_cX10_init rfl rfl
theorem dX10_init_17 : decode cX10_init 17 = .ok (.newarray .byte, 2) := k188_8 hC_cX10_init rfl
theorem dX10_init_19 : decode cX10_init 19 = .ok (.putfield 15, 3) := k181 (y := 0) (z := 15) hC_cX10_init rfl rfl
theorem dX10_init_22 : decode cX10_init 22 = .ok (.return_, 1) := k177 hC_cX10_init rfl
theorem dX10_init_4 : decode cX10_init 4 = .ok (.aload_n 0, 1) := k42 hC_cX10_init rfl
theorem dX10_init_5 : decode cX10_init 5 = .ok (.sipush 4800, 3) := k17 (y := 18) (z := 192) hC_cX10_init rfl rfl
theorem dX10_init_8 : decode cX10_init 8 = .ok (.newarray .byte, 2) := k188_8 hC_cX10_init rfl
theorem dX11_init_0 : decode cX11_init 0 = .ok (.aload_n 0, 1) := k42 hC_cX11_init rfl
theorem dX11_init_1 : decode cX11_init 1 = .ok (.invokespecial 1, 3) := k183 (y := 0) (z := 1) hC_cX11_init rfl rfl
theorem dX11_init_10 : decode cX11_init 10 = .ok (.putfield 9, 3) := k181 (y := 0) (z := 9) hC_cX11_init rfl rfl
theorem dX11_init_100 : decode cX11_init 100 = .ok (.aload_n 0, 1) := k42 hC_cX11_init rfl
theorem dX11_init_101 : decode cX11_init 101 = .ok (.getfield 26, 3) := k180 (y := 0) (z := 26) hC_cX11_init rfl rfl
theorem dX11_init_104 : decode cX11_init 104 = .ok (.aload_n 0, 1) := k42 hC_cX11_init rfl
theorem dX11_init_105 : decode cX11_init 105 = .ok (.getfield 33, 3) := k180 (y := 0) (z := 33) hC_cX11_init rfl rfl
theorem dX11_init_108 : decode cX11_init 108 = .ok (.invokespecial 62, 3) := k183 (y := 0) (z := 62) hC_cX11_init rfl rfl
theorem dX11_init_111 : decode cX11_init 111 = .ok (.putfield 65, 3) := k181 (y := 0) (z := 65) hC_cX11_init rfl rfl
theorem dX11_init_114 : decode cX11_init 114 = .ok (.aload_n 0, 1) := k42 hC_cX11_init rfl
theorem dX11_init_115 : decode cX11_init 115 = .ok (.new 69, 3) := k187 (y := 0) (z := 69) hC_cX11_init rfl rfl
theorem dX11_init_118 : decode cX11_init 118 = .ok (.dup, 1) := k89 hC_cX11_init rfl
theorem dX11_init_119 : decode cX11_init 119 = .ok (.aload_n 0, 1) := k42 hC_cX11_init rfl
theorem dX11_init_120 : decode cX11_init 120 = .ok (.getfield 40, 3) := k180 (y := 0) (z := 40) hC_cX11_init rfl rfl
theorem dX11_init_123 : decode cX11_init 123 = .ok (.aload_n 0, 1) := k42 hC_cX11_init rfl
theorem dX11_init_124 : decode cX11_init 124 = .ok (.getfield 26, 3) := k180 (y := 0) (z := 26) hC_cX11_init rfl rfl
theorem dX11_init_127 : decode cX11_init 127 = .ok (.aload_n 0, 1) := k42 hC_cX11_init rfl
theorem dX11_init_128 : decode cX11_init 128 = .ok (.getfield 65, 3) := k180 (y := 0) (z := 65) hC_cX11_init rfl rfl
theorem dX11_init_13 : decode cX11_init 13 = .ok (.aload_n 0, 1) := k42 hC_cX11_init rfl
theorem dX11_init_131 : decode cX11_init 131 = .ok (.aload_n 0, 1) := k42 hC_cX11_init rfl
theorem dX11_init_132 : decode cX11_init 132 = .ok (.getfield 47, 3) := k180 (y := 0) (z := 47) hC_cX11_init rfl rfl
theorem dX11_init_135 : decode cX11_init 135 = .ok (.invokespecial 71, 3) := k183 (y := 0) (z := 71) hC_cX11_init rfl rfl
theorem dX11_init_138 : decode cX11_init 138 = .ok (.putfield 74, 3) := k181 (y := 0) (z := 74) hC_cX11_init rfl rfl
theorem dX11_init_14 : decode cX11_init 14 = .ok (.bipush 13, 2) := k16 (y := 13) hC_cX11_init rfl rfl
theorem dX11_init_141 : decode cX11_init 141 = .ok (.aload_n 0, 1) := k42 hC_cX11_init rfl
theorem dX11_init_142 : decode cX11_init 142 = .ok (.new 78, 3) := k187 (y := 0) (z := 78) hC_cX11_init rfl rfl
theorem dX11_init_145 : decode cX11_init 145 = .ok (.dup, 1) := k89 hC_cX11_init rfl
theorem dX11_init_146 : decode cX11_init 146 = .ok (.aload_n 0, 1) := k42 hC_cX11_init rfl
theorem dX11_init_147 : decode cX11_init 147 = .ok (.getfield 40, 3) := k180 (y := 0) (z := 40) hC_cX11_init rfl rfl
theorem dX11_init_150 : decode cX11_init 150 = .ok (.aload_n 0, 1) := k42 hC_cX11_init rfl
theorem dX11_init_151 : decode cX11_init 151 = .ok (.getfield 26, 3) := k180 (y := 0) (z := 26) hC_cX11_init rfl rfl
theorem dX11_init_154 : decode cX11_init 154 = .ok (.aload_n 0, 1) := k42 hC_cX11_init rfl
theorem dX11_init_155 : decode cX11_init 155 = .ok (.getfield 65, 3) := k180 (y := 0) (z := 65) hC_cX11_init rfl rfl
theorem dX11_init_158 : decode cX11_init 158 = .ok (.aload_n 0, 1) := k42 hC_cX11_init rfl
theorem dX11_init_159 : decode cX11_init 159 = .ok (.getfield 47, 3) := k180 (y := 0) (z := 47) hC_cX11_init rfl rfl
theorem dX11_init_16 : decode cX11_init 16 = .ok (.newarray .int, 2) := k188_10 hC_cX11_init rfl
theorem dX11_init_162 : decode cX11_init 162 = .ok (.invokespecial 80, 3) := k183 (y := 0) (z := 80) hC_cX11_init rfl rfl
theorem dX11_init_165 : decode cX11_init 165 = .ok (.putfield 81, 3) := k181 (y := 0) (z := 81) hC_cX11_init rfl rfl
theorem dX11_init_168 : decode cX11_init 168 = .ok (.aload_n 0, 1) := k42 hC_cX11_init rfl
theorem dX11_init_169 : decode cX11_init 169 = .ok (.new 85, 3) := k187 (y := 0) (z := 85) hC_cX11_init rfl rfl
theorem dX11_init_172 : decode cX11_init 172 = .ok (.dup, 1) := k89 hC_cX11_init rfl
theorem dX11_init_173 : decode cX11_init 173 = .ok (.aload_n 0, 1) := k42 hC_cX11_init rfl
theorem dX11_init_174 : decode cX11_init 174 = .ok (.getfield 26, 3) := k180 (y := 0) (z := 26) hC_cX11_init rfl rfl
theorem dX11_init_177 : decode cX11_init 177 = .ok (.aload_n 0, 1) := k42 hC_cX11_init rfl
theorem dX11_init_178 : decode cX11_init 178 = .ok (.getfield 33, 3) := k180 (y := 0) (z := 33) hC_cX11_init rfl rfl
theorem dX11_init_18 : decode cX11_init 18 = .ok (.putfield 13, 3) := k181 (y := 0) (z := 13) hC_cX11_init rfl rfl
theorem dX11_init_181 : decode cX11_init 181 = .ok (.aload_n 0, 1) := k42 hC_cX11_init rfl
theorem dX11_init_182 : decode cX11_init 182 = .ok (.getfield 47, 3) := k180 (y := 0) (z := 47) hC_cX11_init rfl rfl
theorem dX11_init_185 : decode cX11_init 185 = .ok (.invokespecial 87, 3) := k183 (y := 0) (z := 87) hC_cX11_init rfl rfl
theorem dX11_init_188 : decode cX11_init 188 = .ok (.putfield 90, 3) := k181 (y := 0) (z := 90) hC_cX11_init rfl rfl
theorem dX11_init_191 : decode cX11_init 191 = .ok (.return_, 1) := k177 hC_cX11_init rfl
theorem dX11_init_21 : decode cX11_init 21 = .ok (.aload_n 0, 1) := k42 hC_cX11_init rfl
theorem dX11_init_22 : decode cX11_init 22 = .ok (.new 16, 3) := k187 (y := 0) (z := 16) hC_cX11_init rfl rfl
theorem dX11_init_25 : decode cX11_init 25 = .ok (.dup, 1) := k89 hC_cX11_init rfl
theorem dX11_init_26 : decode cX11_init 26 = .ok (.invokespecial 18, 3) := k183 (y := 0) (z := 18) hC_cX11_init rfl rfl
theorem dX11_init_29 : decode cX11_init 29 = .ok (.putfield 19, 3) := k181 (y := 0) (z := 19) hC_cX11_init rfl rfl
theorem dX11_init_32 : decode cX11_init 32 = .ok (.aload_n 0, 1) := k42 hC_cX11_init rfl
theorem dX11_init_33 : decode cX11_init 33 = .ok (.new 23, 3) := k187 (y := 0) (z := 23) hC_cX11_init rfl rfl
theorem dX11_init_36 : decode cX11_init 36 = .ok (.dup, 1) := k89 hC_cX11_init rfl
theorem dX11_init_37 : decode cX11_init 37 = .ok (.invokespecial 25, 3) := k183 (y := 0) (z := 25) hC_cX11_init rfl rfl
theorem dX11_init_4 : decode cX11_init 4 = .ok (.aload_n 0, 1) := k42 hC_cX11_init rfl
theorem dX11_init_40 : decode cX11_init 40 = .ok (.putfield 26, 3) := k181 (y := 0) (z := 26) hC_cX11_init rfl rfl
theorem dX11_init_43 : decode cX11_init 43 = .ok (.aload_n 0, 1) := k42 hC_cX11_init rfl
theorem dX11_init_44 : decode cX11_init 44 = .ok (.new 30, 3) := k187 (y := 0) (z := 30) hC_cX11_init rfl rfl
theorem dX11_init_47 : decode cX11_init 47 = .ok (.dup, 1) := k89 hC_cX11_init rfl
theorem dX11_init_48 : decode cX11_init 48 = .ok (.invokespecial 32, 3) := k183 (y := 0) (z := 32) hC_cX11_init rfl rfl
theorem dX11_init_5 : decode cX11_init 5 = .ok (.sipush 200, 3) := k17 (y := 0) (z := 200) hC_cX11_init rfl rfl
theorem dX11_init_51 : decode cX11_init 51 = .ok (.putfield 33, 3) := k181 (y := 0) (z := 33) hC_cX11_init rfl rfl
theorem dX11_init_54 : decode cX11_init 54 = .ok (.aload_n 0, 1) := k42 hC_cX11_init rfl
theorem dX11_init_55 : decode cX11_init 55 = .ok (.new 37, 3) := k187 (y := 0) (z := 37) hC_cX11_init rfl rfl
theorem dX11_init_58 : decode cX11_init 58 = .ok (.dup, 1) := k89 hC_cX11_init rfl
theorem dX11_init_59 : decode cX11_init 59 = .ok (.invokespecial 39, 3) := k183 (y := 0) (z := 39) hC_cX11_init rfl rfl
theorem dX11_init_62 : decode cX11_init 62 = .ok (.putfield 40, 3) := k181 (y := 0) (z := 40) hC_cX11_init rfl rfl
theorem dX11_init_65 : decode cX11_init 65 = .ok (.aload_n 0, 1) := k42 hC_cX11_init rfl
theorem dX11_init_66 : decode cX11_init 66 = .ok (.new 44, 3) := k187 (y := 0) (z := 44) hC_cX11_init rfl rfl
theorem dX11_init_69 : decode cX11_init 69 = .ok (.dup, 1) := k89 hC_cX11_init rfl
theorem dX11_init_70 : decode cX11_init 70 = .ok (.invokespecial 46, 3) := k183 (y := 0) (z := 46) hC_cX11_init rfl rfl
theorem dX11_init_73 : decode cX11_init 73 = .ok (.putfield 47, 3) := k181 (y := 0) (z := 47) hC_cX11_init rfl rfl
theorem dX11_init_76 : decode cX11_init 76 = .ok (.aload_n 0, 1) := k42 hC_cX11_init rfl
theorem dX11_init_77 : decode cX11_init 77 = .ok (.new 51, 3) := k187 (y := 0) (z := 51) hC_cX11_init rfl rfl
theorem dX11_init_8 : decode cX11_init 8 = .ok (.newarray .int, 2) := k188_10 hC_cX11_init rfl
theorem dX11_init_80 : decode cX11_init 80 = .ok (.dup, 1) := k89 hC_cX11_init rfl
theorem dX11_init_81 : decode cX11_init 81 = .ok (.aload_n 0, 1) := k42 hC_cX11_init rfl
theorem dX11_init_82 : decode cX11_init 82 = .ok (.getfield 40, 3) := k180 (y := 0) (z := 40) hC_cX11_init rfl rfl
theorem dX11_init_85 : decode cX11_init 85 = .ok (.invokespecial 53, 3) := k183 (y := 0) (z := 53) hC_cX11_init rfl rfl
theorem dX11_init_88 : decode cX11_init 88 = .ok (.putfield 56, 3) := k181 (y := 0) (z := 56) hC_cX11_init rfl rfl
theorem dX11_init_91 : decode cX11_init 91 = .ok (.aload_n 0, 1) := k42 hC_cX11_init rfl
theorem dX11_init_92 : decode cX11_init 92 = .ok (.new 60, 3) := k187 (y := 0) (z := 60) hC_cX11_init rfl rfl
theorem dX11_init_95 : decode cX11_init 95 = .ok (.dup, 1) := k89 hC_cX11_init rfl
theorem dX11_init_96 : decode cX11_init 96 = .ok (.aload_n 0, 1) := k42 hC_cX11_init rfl
theorem dX11_init_97 : decode cX11_init 97 = .ok (.getfield 40, 3) := k180 (y := 0) (z := 40) hC_cX11_init rfl rfl
theorem dX12_init_0 : decode cX12_init 0 = .ok (.aload_n 0, 1) := k42 hC_cX12_init rfl
theorem dX12_init_1 : decode cX12_init 1 = .ok (.invokespecial 1, 3) := k183 (y := 0) (z := 1) hC_cX12_init rfl rfl
theorem dX12_init_10 : decode cX12_init 10 = .ok (.putfield 7, 3) := k181 (y := 0) (z := 7) hC_cX12_init rfl rfl
theorem dX12_init_100 : decode cX12_init 100 = .ok (.newarray .boolean, 2) := k188_4 hC_cX12_init rfl
theorem dX12_init_102 : decode cX12_init 102 = .ok (.putfield 45, 3) := k181 (y := 0) (z := 45) hC_cX12_init rfl rfl
theorem dX12_init_105 : decode cX12_init 105 = .ok (.aload_n 0, 1) := k42 hC_cX12_init rfl
theorem dX12_init_106 : decode cX12_init 106 = .ok (.sipush 960, 3) := k17 (y := 3) (z := 192) hC_cX12_init rfl rfl
theorem dX12_init_109 : decode cX12_init 109 = .ok (.newarray .byte, 2) := k188_8 hC_cX12_init rfl
theorem dX12_init_111 : decode cX12_init 111 = .ok (.putfield 48, 3) := k181 (y := 0) (z := 48) hC_cX12_init rfl rfl
theorem dX12_init_114 : decode cX12_init 114 = .ok (.aload_n 0, 1) := k42 hC_cX12_init rfl
theorem dX12_init_115 : decode cX12_init 115 = .ok (.bipush 80, 2) := k16 (y := 80) hC_cX12_init rfl rfl
theorem dX12_init_117 : decode cX12_init 117 = .ok (.newarray .int, 2) := k188_10 hC_cX12_init rfl
theorem dX12_init_119 : decode cX12_init 119 = .ok (.putfield 51, 3) := k181 (y := 0) (z := 51) hC_cX12_init rfl rfl
theorem dX12_init_122 : decode cX12_init 122 = .ok (.aload_n 0, 1) := k42 hC_cX12_init rfl
theorem dX12_init_123 : decode cX12_init 123 = .ok (.bipush 20, 2) := k16 (y := 20) hC_cX12_init rfl rfl
theorem dX12_init_125 : decode cX12_init 125 = .ok (.newarray .int, 2) := k188_10 hC_cX12_init rfl
theorem dX12_init_127 : decode cX12_init 127 = .ok (.putfield 54, 3) := k181 (y := 0) (z := 54) hC_cX12_init rfl rfl
theorem dX12_init_13 : decode cX12_init 13 = .ok (.aload_n 0, 1) := k42 hC_cX12_init rfl
theorem dX12_init_130 : decode cX12_init 130 = .ok (.aload_n 0, 1) := k42 hC_cX12_init rfl
theorem dX12_init_131 : decode cX12_init 131 = .ok (.bipush 20, 2) := k16 (y := 20) hC_cX12_init rfl rfl
theorem dX12_init_133 : decode cX12_init 133 = .ok (.newarray .int, 2) := k188_10 hC_cX12_init rfl
theorem dX12_init_135 : decode cX12_init 135 = .ok (.putfield 57, 3) := k181 (y := 0) (z := 57) hC_cX12_init rfl rfl
theorem dX12_init_138 : decode cX12_init 138 = .ok (.aload_n 0, 1) := k42 hC_cX12_init rfl
theorem dX12_init_139 : decode cX12_init 139 = .ok (.bipush 20, 2) := k16 (y := 20) hC_cX12_init rfl rfl
theorem dX12_init_14 : decode cX12_init 14 = .ok (.bipush 60, 2) := k16 (y := 60) hC_cX12_init rfl rfl
theorem dX12_init_141 : decode cX12_init 141 = .ok (.newarray .int, 2) := k188_10 hC_cX12_init rfl
theorem dX12_init_143 : decode cX12_init 143 = .ok (.putfield 60, 3) := k181 (y := 0) (z := 60) hC_cX12_init rfl rfl
theorem dX12_init_146 : decode cX12_init 146 = .ok (.aload_n 0, 1) := k42 hC_cX12_init rfl
theorem dX12_init_147 : decode cX12_init 147 = .ok (.bipush 20, 2) := k16 (y := 20) hC_cX12_init rfl rfl
theorem dX12_init_149 : decode cX12_init 149 = .ok (.newarray .int, 2) := k188_10 hC_cX12_init rfl
theorem dX12_init_151 : decode cX12_init 151 = .ok (.putfield 63, 3) := k181 (y := 0) (z := 63) hC_cX12_init rfl rfl
theorem dX12_init_154 : decode cX12_init 154 = .ok (.aload_n 0, 1) := k42 hC_cX12_init rfl
theorem dX12_init_155 : decode cX12_init 155 = .ok (.sipush 320, 3) := k17 (y := 1) (z := 64) hC_cX12_init rfl rfl
theorem dX12_init_158 : decode cX12_init 158 = .ok (.newarray .int, 2) := k188_10 hC_cX12_init rfl
theorem dX12_init_16 : decode cX12_init 16 = .ok (.newarray .int, 2) := k188_10 hC_cX12_init rfl
theorem dX12_init_160 : decode cX12_init 160 = .ok (.putfield 66, 3) := k181 (y := 0) (z := 66) hC_cX12_init rfl rfl
theorem dX12_init_163 : decode cX12_init 163 = .ok (.aload_n 0, 1) := k42 hC_cX12_init rfl
theorem dX12_init_164 : decode cX12_init 164 = .ok (.sipush 320, 3) := k17 (y := 1) (z := 64) hC_cX12_init rfl rfl
theorem dX12_init_167 : decode cX12_init 167 = .ok (.newarray .int, 2) := k188_10 hC_cX12_init rfl
theorem dX12_init_169 : decode cX12_init 169 = .ok (.putfield 69, 3) := k181 (y := 0) (z := 69) hC_cX12_init rfl rfl
theorem dX12_init_172 : decode cX12_init 172 = .ok (.aload_n 0, 1) := k42 hC_cX12_init rfl
theorem dX12_init_173 : decode cX12_init 173 = .ok (.sipush 320, 3) := k17 (y := 1) (z := 64) hC_cX12_init rfl rfl
theorem dX12_init_176 : decode cX12_init 176 = .ok (.newarray .int, 2) := k188_10 hC_cX12_init rfl
theorem dX12_init_178 : decode cX12_init 178 = .ok (.putfield 72, 3) := k181 (y := 0) (z := 72) hC_cX12_init rfl rfl
theorem dX12_init_18 : decode cX12_init 18 = .ok (.putfield 13, 3) := k181 (y := 0) (z := 13) hC_cX12_init rfl rfl
theorem dX12_init_181 : decode cX12_init 181 = .ok (.aload_n 0, 1) := k42 hC_cX12_init rfl
theorem dX12_init_182 : decode cX12_init 182 = .ok (.sipush 320, 3) := k17 (y := 1) (z := 64) hC_cX12_init rfl rfl
theorem dX12_init_185 : decode cX12_init 185 = .ok (.newarray .int, 2) := k188_10 hC_cX12_init rfl
theorem dX12_init_187 : decode cX12_init 187 = .ok (.putfield 75, 3) := k181 (y := 0) (z := 75) hC_cX12_init rfl rfl
theorem dX12_init_190 : decode cX12_init 190 = .ok (.aload_n 0, 1) := k42 hC_cX12_init rfl
theorem dX12_init_191 : decode cX12_init 191 = .ok (.sipush 320, 3) := k17 (y := 1) (z := 64) hC_cX12_init rfl rfl
theorem dX12_init_194 : decode cX12_init 194 = .ok (.newarray .int, 2) := k188_10 hC_cX12_init rfl
theorem dX12_init_196 : decode cX12_init 196 = .ok (.putfield 78, 3) := k181 (y := 0) (z := 78) hC_cX12_init rfl rfl
theorem dX12_init_199 : decode cX12_init 199 = .ok (.aload_n 0, 1) := k42 hC_cX12_init rfl
theorem dX12_init_200 : decode cX12_init 200 = .ok (.sipush 320, 3) := k17 (y := 1) (z := 64) hC_cX12_init rfl rfl
theorem dX12_init_203 : decode cX12_init 203 = .ok (.newarray .int, 2) := k188_10 hC_cX12_init rfl
theorem dX12_init_205 : decode cX12_init 205 = .ok (.putfield 81, 3) := k181 (y := 0) (z := 81) hC_cX12_init rfl rfl
theorem dX12_init_208 : decode cX12_init 208 = .ok (.aload_n 0, 1) := k42 hC_cX12_init rfl
theorem dX12_init_209 : decode cX12_init 209 = .ok (.sipush 3200, 3) := k17 (y := 12) (z := 128) hC_cX12_init rfl rfl
theorem dX12_init_21 : decode cX12_init 21 = .ok (.aload_n 0, 1) := k42 hC_cX12_init rfl
theorem dX12_init_212 : decode cX12_init 212 = .ok (.newarray .int, 2) := k188_10 hC_cX12_init rfl
theorem dX12_init_214 : decode cX12_init 214 = .ok (.putfield 84, 3) := k181 (y := 0) (z := 84) hC_cX12_init rfl rfl
theorem dX12_init_217 : decode cX12_init 217 = .ok (.aload_n 0, 1) := k42 hC_cX12_init rfl
theorem dX12_init_218 : decode cX12_init 218 = .ok (.sipush 3200, 3) := k17 (y := 12) (z := 128) hC_cX12_init rfl rfl
theorem dX12_init_22 : decode cX12_init 22 = .ok (.bipush 60, 2) := k16 (y := 60) hC_cX12_init rfl rfl
theorem dX12_init_221 : decode cX12_init 221 = .ok (.newarray .int, 2) := k188_10 hC_cX12_init rfl
theorem dX12_init_223 : decode cX12_init 223 = .ok (.putfield 87, 3) := k181 (y := 0) (z := 87) hC_cX12_init rfl rfl
theorem dX12_init_226 : decode cX12_init 226 = .ok (.aload_n 0, 1) := k42 hC_cX12_init rfl
theorem dX12_init_227 : decode cX12_init 227 = .ok (.sipush 200, 3) := k17 (y := 0) (z := 200) hC_cX12_init rfl rfl
theorem dX12_init_230 : decode cX12_init 230 = .ok (.newarray .int, 2) := k188_10 hC_cX12_init rfl
theorem dX12_init_232 : decode cX12_init 232 = .ok (.putfield 90, 3) := k181 (y := 0) (z := 90) hC_cX12_init rfl rfl
theorem dX12_init_235 : decode cX12_init 235 = .ok (.aload_n 0, 1) := k42 hC_cX12_init rfl
theorem dX12_init_236 : decode cX12_init 236 = .ok (.sipush 200, 3) := k17 (y := 0) (z := 200) hC_cX12_init rfl rfl
theorem dX12_init_239 : decode cX12_init 239 = .ok (.newarray .int, 2) := k188_10 hC_cX12_init rfl
theorem dX12_init_24 : decode cX12_init 24 = .ok (.newarray .int, 2) := k188_10 hC_cX12_init rfl
theorem dX12_init_241 : decode cX12_init 241 = .ok (.putfield 93, 3) := k181 (y := 0) (z := 93) hC_cX12_init rfl rfl
theorem dX12_init_244 : decode cX12_init 244 = .ok (.aload_n 0, 1) := k42 hC_cX12_init rfl
theorem dX12_init_245 : decode cX12_init 245 = .ok (.sipush 200, 3) := k17 (y := 0) (z := 200) hC_cX12_init rfl rfl
theorem dX12_init_248 : decode cX12_init 248 = .ok (.newarray .boolean, 2) := k188_4 hC_cX12_init rfl
theorem dX12_init_250 : decode cX12_init 250 = .ok (.putfield 96, 3) := k181 (y := 0) (z := 96) hC_cX12_init rfl rfl
theorem dX12_init_253 : decode cX12_init 253 = .ok (.aload_n 0, 1) := k42 hC_cX12_init rfl
theorem dX12_init_254 : decode cX12_init 254 = .ok (.bipush 16, 2) := k16 (y := 16) hC_cX12_init rfl rfl
theorem dX12_init_256 : decode cX12_init 256 = .ok (.newarray .int, 2) := k188_10 hC_cX12_init rfl
theorem dX12_init_258 : decode cX12_init 258 = .ok (.putfield 99, 3) := k181 (y := 0) (z := 99) hC_cX12_init rfl rfl
theorem dX12_init_26 : decode cX12_init 26 = .ok (.putfield 17, 3) := k181 (y := 0) (z := 17) hC_cX12_init rfl rfl
theorem dX12_init_261 : decode cX12_init 261 = .ok (.aload_n 0, 1) := k42 hC_cX12_init rfl
theorem dX12_init_262 : decode cX12_init 262 = .ok (.bipush 16, 2) := k16 (y := 16) hC_cX12_init rfl rfl
theorem dX12_init_264 : decode cX12_init 264 = .ok (.newarray .int, 2) := k188_10 hC_cX12_init rfl
theorem dX12_init_266 : decode cX12_init 266 = .ok (.putfield 102, 3) := k181 (y := 0) (z := 102) hC_cX12_init rfl rfl
theorem dX12_init_269 : decode cX12_init 269 = .ok (.aload_n 0, 1) := k42 hC_cX12_init rfl
theorem dX12_init_270 : decode cX12_init 270 = .ok (.sipush 400, 3) := k17 (y := 1) (z := 144) hC_cX12_init rfl rfl
theorem dX12_init_273 : decode cX12_init 273 = .ok (.newarray .int, 2) := k188_10 hC_cX12_init rfl
theorem dX12_init_275 : decode cX12_init 275 = .ok (.putfield 105, 3) := k181 (y := 0) (z := 105) hC_cX12_init rfl rfl
theorem dX12_init_278 : decode cX12_init 278 = .ok (.aload_n 0, 1) := k42 hC_cX12_init rfl
theorem dX12_init_279 : decode cX12_init 279 = .ok (.sipush 200, 3) := k17 (y := 0) (z := 200) hC_cX12_init rfl rfl
theorem dX12_init_282 : decode cX12_init 282 = .ok (.newarray .int, 2) := k188_10 hC_cX12_init rfl
theorem dX12_init_284 : decode cX12_init 284 = .ok (.putfield 108, 3) := k181 (y := 0) (z := 108) hC_cX12_init rfl rfl
theorem dX12_init_287 : decode cX12_init 287 = .ok (.aload_n 0, 1) := k42 hC_cX12_init rfl
theorem dX12_init_288 : decode cX12_init 288 = .ok (.sipush 200, 3) := k17 (y := 0) (z := 200) hC_cX12_init rfl rfl
theorem dX12_init_29 : decode cX12_init 29 = .ok (.aload_n 0, 1) := k42 hC_cX12_init rfl
theorem dX12_init_291 : decode cX12_init 291 = .ok (.newarray .int, 2) := k188_10 hC_cX12_init rfl
theorem dX12_init_293 : decode cX12_init 293 = .ok (.putfield 111, 3) := k181 (y := 0) (z := 111) hC_cX12_init rfl rfl
theorem dX12_init_296 : decode cX12_init 296 = .ok (.aload_n 0, 1) := k42 hC_cX12_init rfl
theorem dX12_init_297 : decode cX12_init 297 = .ok (.sipush 200, 3) := k17 (y := 0) (z := 200) hC_cX12_init rfl rfl
theorem dX12_init_30 : decode cX12_init 30 = .ok (.sipush 180, 3) := k17 (y := 0) (z := 180) hC_cX12_init rfl rfl
theorem dX12_init_300 : decode cX12_init 300 = .ok (.newarray .int, 2) := k188_10 hC_cX12_init rfl
theorem dX12_init_302 : decode cX12_init 302 = .ok (.putfield 114, 3) := k181 (y := 0) (z := 114) hC_cX12_init rfl rfl
theorem dX12_init_305 : decode cX12_init 305 = .ok (.aload_n 0, 1) := k42 hC_cX12_init rfl
theorem dX12_init_306 : decode cX12_init 306 = .ok (.sipush 200, 3) := k17 (y := 0) (z := 200) hC_cX12_init rfl rfl
theorem dX12_init_309 : decode cX12_init 309 = .ok (.newarray .int, 2) := k188_10 hC_cX12_init rfl
theorem dX12_init_311 : decode cX12_init 311 = .ok (.putfield 117, 3) := k181 (y := 0) (z := 117) hC_cX12_init rfl rfl
theorem dX12_init_314 : decode cX12_init 314 = .ok (.aload_n 0, 1) := k42 hC_cX12_init rfl
theorem dX12_init_315 : decode cX12_init 315 = .ok (.sipush 200, 3) := k17 (y := 0) (z := 200) hC_cX12_init rfl rfl
theorem dX12_init_318 : decode cX12_init 318 = .ok (.newarray .int, 2) := k188_10 hC_cX12_init rfl
theorem dX12_init_320 : decode cX12_init 320 = .ok (.putfield 120, 3) := k181 (y := 0) (z := 120) hC_cX12_init rfl rfl
theorem dX12_init_323 : decode cX12_init 323 = .ok (.aload_n 0, 1) := k42 hC_cX12_init rfl
theorem dX12_init_324 : decode cX12_init 324 = .ok (.sipush 200, 3) := k17 (y := 0) (z := 200) hC_cX12_init rfl rfl
theorem dX12_init_327 : decode cX12_init 327 = .ok (.newarray .int, 2) := k188_10 hC_cX12_init rfl
theorem dX12_init_329 : decode cX12_init 329 = .ok (.putfield 123, 3) := k181 (y := 0) (z := 123) hC_cX12_init rfl rfl
theorem dX12_init_33 : decode cX12_init 33 = .ok (.newarray .int, 2) := k188_10 hC_cX12_init rfl
theorem dX12_init_332 : decode cX12_init 332 = .ok (.aload_n 0, 1) := k42 hC_cX12_init rfl
theorem dX12_init_333 : decode cX12_init 333 = .ok (.sipush 1600, 3) := k17 (y := 6) (z := 64) hC_cX12_init rfl rfl
theorem dX12_init_336 : decode cX12_init 336 = .ok (.newarray .int, 2) := k188_10 hC_cX12_init rfl
theorem dX12_init_338 : decode cX12_init 338 = .ok (.putfield 126, 3) := k181 (y := 0) (z := 126) hC_cX12_init rfl rfl
theorem dX12_init_341 : decode cX12_init 341 = .ok (.aload_n 0, 1) := k42 hC_cX12_init rfl
theorem dX12_init_342 : decode cX12_init 342 = .ok (.sipush 200, 3) := k17 (y := 0) (z := 200) hC_cX12_init rfl rfl
theorem dX12_init_345 : decode cX12_init 345 = .ok (.newarray .int, 2) := k188_10 hC_cX12_init rfl
theorem dX12_init_347 : decode cX12_init 347 = .ok (.putfield 129, 3) := k181 (y := 0) (z := 129) hC_cX12_init rfl rfl
theorem dX12_init_35 : decode cX12_init 35 = .ok (.putfield 20, 3) := k181 (y := 0) (z := 20) hC_cX12_init rfl rfl
theorem dX12_init_350 : decode cX12_init 350 = .ok (.aload_n 0, 1) := k42 hC_cX12_init rfl
theorem dX12_init_351 : decode cX12_init 351 = .ok (.sipush 2400, 3) := k17 (y := 9) (z := 96) hC_cX12_init rfl rfl
theorem dX12_init_354 : decode cX12_init 354 = .ok (.newarray .int, 2) := k188_10 hC_cX12_init rfl
theorem dX12_init_356 : decode cX12_init 356 = .ok (.putfield 132, 3) := k181 (y := 0) (z := 132) hC_cX12_init rfl rfl
theorem dX12_init_359 : decode cX12_init 359 = .ok (.aload_n 0, 1) := k42 hC_cX12_init rfl
theorem dX12_init_360 : decode cX12_init 360 = .ok (.sipush 2400, 3) := k17 (y := 9) (z := 96) hC_cX12_init rfl rfl
theorem dX12_init_363 : decode cX12_init 363 = .ok (.newarray .int, 2) := k188_10 hC_cX12_init rfl
theorem dX12_init_365 : decode cX12_init 365 = .ok (.putfield 135, 3) := k181 (y := 0) (z := 135) hC_cX12_init rfl rfl
theorem dX12_init_368 : decode cX12_init 368 = .ok (.aload_n 0, 1) := k42 hC_cX12_init rfl
theorem dX12_init_369 : decode cX12_init 369 = .ok (.sipush 200, 3) := k17 (y := 0) (z := 200) hC_cX12_init rfl rfl
theorem dX12_init_372 : decode cX12_init 372 = .ok (.newarray .int, 2) := k188_10 hC_cX12_init rfl
theorem dX12_init_374 : decode cX12_init 374 = .ok (.putfield 138, 3) := k181 (y := 0) (z := 138) hC_cX12_init rfl rfl
theorem dX12_init_377 : decode cX12_init 377 = .ok (.aload_n 0, 1) := k42 hC_cX12_init rfl
theorem dX12_init_378 : decode cX12_init 378 = .ok (.sipush 400, 3) := k17 (y := 1) (z := 144) hC_cX12_init rfl rfl
theorem dX12_init_38 : decode cX12_init 38 = .ok (.aload_n 0, 1) := k42 hC_cX12_init rfl
theorem dX12_init_381 : decode cX12_init 381 = .ok (.newarray .int, 2) := k188_10 hC_cX12_init rfl
theorem dX12_init_383 : decode cX12_init 383 = .ok (.putfield 141, 3) := k181 (y := 0) (z := 141) hC_cX12_init rfl rfl
theorem dX12_init_386 : decode cX12_init 386 = .ok (.aload_n 0, 1) := k42 hC_cX12_init rfl
theorem dX12_init_387 : decode cX12_init 387 = .ok (.sipush 400, 3) := k17 (y := 1) (z := 144) hC_cX12_init rfl rfl
theorem dX12_init_39 : decode cX12_init 39 = .ok (.sipush 1440, 3) := k17 (y := 5) (z := 160) hC_cX12_init rfl rfl
theorem dX12_init_390 : decode cX12_init 390 = .ok (.newarray .int, 2) := k188_10 hC_cX12_init rfl
theorem dX12_init_392 : decode cX12_init 392 = .ok (.putfield 144, 3) := k181 (y := 0) (z := 144) hC_cX12_init rfl rfl
theorem dX12_init_395 : decode cX12_init 395 = .ok (.aload_n 0, 1) := k42 hC_cX12_init rfl
theorem dX12_init_396 : decode cX12_init 396 = .ok (.sipush 400, 3) := k17 (y := 1) (z := 144) hC_cX12_init rfl rfl
theorem dX12_init_399 : decode cX12_init 399 = .ok (.newarray .int, 2) := k188_10 hC_cX12_init rfl
theorem dX12_init_4 : decode cX12_init 4 = .ok (.aload_n 0, 1) := k42 hC_cX12_init rfl
theorem dX12_init_401 : decode cX12_init 401 = .ok (.putfield 147, 3) := k181 (y := 0) (z := 147) hC_cX12_init rfl rfl
theorem dX12_init_404 : decode cX12_init 404 = .ok (.aload_n 0, 1) := k42 hC_cX12_init rfl
theorem dX12_init_405 : decode cX12_init 405 = .ok (.sipush 400, 3) := k17 (y := 1) (z := 144) hC_cX12_init rfl rfl
theorem dX12_init_408 : decode cX12_init 408 = .ok (.newarray .int, 2) := k188_10 hC_cX12_init rfl
theorem dX12_init_410 : decode cX12_init 410 = .ok (.putfield 150, 3) := k181 (y := 0) (z := 150) hC_cX12_init rfl rfl
theorem dX12_init_413 : decode cX12_init 413 = .ok (.aload_n 0, 1) := k42 hC_cX12_init rfl
theorem dX12_init_414 : decode cX12_init 414 = .ok (.sipush 400, 3) := k17 (y := 1) (z := 144) hC_cX12_init rfl rfl
theorem dX12_init_417 : decode cX12_init 417 = .ok (.newarray .int, 2) := k188_10 hC_cX12_init rfl
theorem dX12_init_419 : decode cX12_init 419 = .ok (.putfield 153, 3) := k181 (y := 0) (z := 153) hC_cX12_init rfl rfl
theorem dX12_init_42 : decode cX12_init 42 = .ok (.newarray .int, 2) := k188_10 hC_cX12_init rfl
theorem dX12_init_422 : decode cX12_init 422 = .ok (.aload_n 0, 1) := k42 hC_cX12_init rfl
theorem dX12_init_423 : decode cX12_init 423 = .ok (.sipush 400, 3) := k17 (y := 1) (z := 144) hC_cX12_init rfl rfl
theorem dX12_init_426 : decode cX12_init 426 = .ok (.newarray .int, 2) := k188_10 hC_cX12_init rfl
theorem dX12_init_428 : decode cX12_init 428 = .ok (.putfield 156, 3) := k181 (y := 0) (z := 156) hC_cX12_init rfl rfl
theorem dX12_init_431 : decode cX12_init 431 = .ok (.aload_n 0, 1) := k42 hC_cX12_init rfl
theorem dX12_init_432 : decode cX12_init 432 = .ok (.sipush 400, 3) := k17 (y := 1) (z := 144) hC_cX12_init rfl rfl
theorem dX12_init_435 : decode cX12_init 435 = .ok (.newarray .int, 2) := k188_10 hC_cX12_init rfl
theorem dX12_init_437 : decode cX12_init 437 = .ok (.putfield 159, 3) := k181 (y := 0) (z := 159) hC_cX12_init rfl rfl
theorem dX12_init_44 : decode cX12_init 44 = .ok (.putfield 23, 3) := k181 (y := 0) (z := 23) hC_cX12_init rfl rfl
theorem dX12_init_440 : decode cX12_init 440 = .ok (.aload_n 0, 1) := k42 hC_cX12_init rfl
theorem dX12_init_441 : decode cX12_init 441 = .ok (.sipush 4000, 3) := k17 (y := 15) (z := 160) hC_cX12_init rfl rfl
theorem dX12_init_444 : decode cX12_init 444 = .ok (.newarray .int, 2) := k188_10 hC_cX12_init rfl
theorem dX12_init_446 : decode cX12_init 446 = .ok (.putfield 162, 3) := k181 (y := 0) (z := 162) hC_cX12_init rfl rfl
theorem dX12_init_449 : decode cX12_init 449 = .ok (.aload_n 0, 1) := k42 hC_cX12_init rfl
theorem dX12_init_450 : decode cX12_init 450 = .ok (.sipush 4000, 3) := k17 (y := 15) (z := 160) hC_cX12_init rfl rfl
theorem dX12_init_453 : decode cX12_init 453 = .ok (.newarray .int, 2) := k188_10 hC_cX12_init rfl
theorem dX12_init_455 : decode cX12_init 455 = .ok (.putfield 165, 3) := k181 (y := 0) (z := 165) hC_cX12_init rfl rfl
theorem dX12_init_458 : decode cX12_init 458 = .ok (.aload_n 0, 1) := k42 hC_cX12_init rfl
theorem dX12_init_459 : decode cX12_init 459 = .ok (.sipush 4000, 3) := k17 (y := 15) (z := 160) hC_cX12_init rfl rfl
theorem dX12_init_462 : decode cX12_init 462 = .ok (.newarray .int, 2) := k188_10 hC_cX12_init rfl
theorem dX12_init_464 : decode cX12_init 464 = .ok (.putfield 168, 3) := k181 (y := 0) (z := 168) hC_cX12_init rfl rfl
theorem dX12_init_467 : decode cX12_init 467 = .ok (.aload_n 0, 1) := k42 hC_cX12_init rfl
theorem dX12_init_468 : decode cX12_init 468 = .ok (.bipush 60, 2) := k16 (y := 60) hC_cX12_init rfl rfl
theorem dX12_init_47 : decode cX12_init 47 = .ok (.aload_n 0, 1) := k42 hC_cX12_init rfl
theorem dX12_init_470 : decode cX12_init 470 = .ok (.newarray .int, 2) := k188_10 hC_cX12_init rfl
theorem dX12_init_472 : decode cX12_init 472 = .ok (.putfield 171, 3) := k181 (y := 0) (z := 171) hC_cX12_init rfl rfl
theorem dX12_init_475 : decode cX12_init 475 = .ok (.aload_n 0, 1) := k42 hC_cX12_init rfl
theorem dX12_init_476 : decode cX12_init 476 = .ok (.bipush 6, 2) := k16 (y := 6) hC_cX12_init rfl rfl
theorem dX12_init_478 : decode cX12_init 478 = .ok (.newarray .int, 2) := k188_10 hC_cX12_init rfl
theorem dX12_init_48 : decode cX12_init 48 = .ok (.sipush 320, 3) := k17 (y := 1) (z := 64) hC_cX12_init rfl rfl
theorem dX12_init_480 : decode cX12_init 480 = .ok (.putfield 174, 3) := k181 (y := 0) (z := 174) hC_cX12_init rfl rfl
theorem dX12_init_483 : decode cX12_init 483 = .ok (.aload_n 0, 1) := k42 hC_cX12_init rfl
theorem dX12_init_484 : decode cX12_init 484 = .ok (.bipush 6, 2) := k16 (y := 6) hC_cX12_init rfl rfl
theorem dX12_init_486 : decode cX12_init 486 = .ok (.newarray .int, 2) := k188_10 hC_cX12_init rfl
theorem dX12_init_488 : decode cX12_init 488 = .ok (.putfield 177, 3) := k181 (y := 0) (z := 177) hC_cX12_init rfl rfl
theorem dX12_init_491 : decode cX12_init 491 = .ok (.aload_n 0, 1) := k42 hC_cX12_init rfl
theorem dX12_init_492 : decode cX12_init 492 = .ok (.bipush 24, 2) := k16 (y := 24) hC_cX12_init rfl rfl
theorem dX12_init_494 : decode cX12_init 494 = .ok (.newarray .int, 2) := k188_10 hC_cX12_init rfl
theorem dX12_init_496 : decode cX12_init 496 = .ok (.putfield 180, 3) := k181 (y := 0) (z := 180) hC_cX12_init rfl rfl
theorem dX12_init_499 : decode cX12_init 499 = .ok (.aload_n 0, 1) := k42 hC_cX12_init rfl
theorem dX12_init_5 : decode cX12_init 5 = .ok (.sipush 200, 3) := k17 (y := 0) (z := 200) hC_cX12_init rfl rfl
theorem dX12_init_500 : decode cX12_init 500 = .ok (.sipush 1600, 3) := k17 (y := 6) (z := 64) hC_cX12_init rfl rfl
theorem dX12_init_503 : decode cX12_init 503 = .ok (.newarray .boolean, 2) := k188_4 hC_cX12_init rfl
theorem dX12_init_505 : decode cX12_init 505 = .ok (.putfield 183, 3) := k181 (y := 0) (z := 183) hC_cX12_init rfl rfl
theorem dX12_init_508 : decode cX12_init 508 = .ok (.aload_n 0, 1) := k42 hC_cX12_init rfl
theorem dX12_init_509 : decode cX12_init 509 = .ok (.bipush 24, 2) := k16 (y := 24) hC_cX12_init rfl rfl
theorem dX12_init_51 : decode cX12_init 51 = .ok (.newarray .int, 2) := k188_10 hC_cX12_init rfl
theorem dX12_init_511 : decode cX12_init 511 = .ok (.newarray .int, 2) := k188_10 hC_cX12_init rfl
theorem dX12_init_513 : decode cX12_init 513 = .ok (.putfield 186, 3) := k181 (y := 0) (z := 186) hC_cX12_init rfl rfl
theorem dX12_init_516 : decode cX12_init 516 = .ok (.aload_n 0, 1) := k42 hC_cX12_init rfl
theorem dX12_init_517 : decode cX12_init 517 = .ok (.bipush 24, 2) := k16 (y := 24) hC_cX12_init rfl rfl
theorem dX12_init_519 : decode cX12_init 519 = .ok (.newarray .boolean, 2) := k188_4 hC_cX12_init rfl
theorem dX12_init_521 : decode cX12_init 521 = .ok (.putfield 189, 3) := k181 (y := 0) (z := 189) hC_cX12_init rfl rfl
theorem dX12_init_524 : decode cX12_init 524 = .ok (.aload_n 0, 1) := k42 hC_cX12_init rfl
theorem dX12_init_525 : decode cX12_init 525 = .ok (.sipush 480, 3) := k17 (y := 1) (z := 224) hC_cX12_init rfl rfl
theorem dX12_init_528 : decode cX12_init 528 = .ok (.newarray .int, 2) := k188_10 hC_cX12_init rfl
theorem dX12_init_53 : decode cX12_init 53 = .ok (.putfield 26, 3) := k181 (y := 0) (z := 26) hC_cX12_init rfl rfl
theorem dX12_init_530 : decode cX12_init 530 = .ok (.putfield 192, 3) := k181 (y := 0) (z := 192) hC_cX12_init rfl rfl
theorem dX12_init_533 : decode cX12_init 533 = .ok (.aload_n 0, 1) := k42 hC_cX12_init rfl
theorem dX12_init_534 : decode cX12_init 534 = .ok (.sipush 480, 3) := k17 (y := 1) (z := 224) hC_cX12_init rfl rfl
theorem dX12_init_537 : decode cX12_init 537 = .ok (.newarray .int, 2) := k188_10 hC_cX12_init rfl
theorem dX12_init_539 : decode cX12_init 539 = .ok (.putfield 195, 3) := k181 (y := 0) (z := 195) hC_cX12_init rfl rfl
theorem dX12_init_542 : decode cX12_init 542 = .ok (.aload_n 0, 1) := k42 hC_cX12_init rfl
theorem dX12_init_543 : decode cX12_init 543 = .ok (.sipush 200, 3) := k17 (y := 0) (z := 200) hC_cX12_init rfl rfl
theorem dX12_init_546 : decode cX12_init 546 = .ok (.newarray .byte, 2) := k188_8 hC_cX12_init rfl
theorem dX12_init_548 : decode cX12_init 548 = .ok (.putfield 198, 3) := k181 (y := 0) (z := 198) hC_cX12_init rfl rfl
theorem dX12_init_551 : decode cX12_init 551 = .ok (.aload_n 0, 1) := k42 hC_cX12_init rfl
theorem dX12_init_552 : decode cX12_init 552 = .ok (.bipush 6, 2) := k16 (y := 6) hC_cX12_init rfl rfl
theorem dX12_init_554 : decode cX12_init 554 = .ok (.newarray .int, 2) := k188_10 hC_cX12_init rfl
theorem dX12_init_556 : decode cX12_init 556 = .ok (.putfield 201, 3) := k181 (y := 0) (z := 201) hC_cX12_init rfl rfl
theorem dX12_init_559 : decode cX12_init 559 = .ok (.aload_n 0, 1) := k42 hC_cX12_init rfl
theorem dX12_init_56 : decode cX12_init 56 = .ok (.aload_n 0, 1) := k42 hC_cX12_init rfl
theorem dX12_init_560 : decode cX12_init 560 = .ok (.bipush 6, 2) := k16 (y := 6) hC_cX12_init rfl rfl
theorem dX12_init_562 : decode cX12_init 562 = .ok (.newarray .int, 2) := k188_10 hC_cX12_init rfl
theorem dX12_init_564 : decode cX12_init 564 = .ok (.putfield 204, 3) := k181 (y := 0) (z := 204) hC_cX12_init rfl rfl
theorem dX12_init_567 : decode cX12_init 567 = .ok (.aload_n 0, 1) := k42 hC_cX12_init rfl
theorem dX12_init_568 : decode cX12_init 568 = .ok (.bipush 6, 2) := k16 (y := 6) hC_cX12_init rfl rfl
theorem dX12_init_57 : decode cX12_init 57 = .ok (.sipush 3840, 3) := k17 (y := 15) (z := 0) hC_cX12_init rfl rfl
theorem dX12_init_570 : decode cX12_init 570 = .ok (.newarray .int, 2) := k188_10 hC_cX12_init rfl
theorem dX12_init_572 : decode cX12_init 572 = .ok (.putfield 207, 3) := k181 (y := 0) (z := 207) hC_cX12_init rfl rfl
theorem dX12_init_575 : decode cX12_init 575 = .ok (.return_, 1) := k177 hC_cX12_init rfl
theorem dX12_init_60 : decode cX12_init 60 = .ok (.newarray .byte, 2) := k188_8 hC_cX12_init rfl
theorem dX12_init_62 : decode cX12_init 62 = .ok (.putfield 29, 3) := k181 (y := 0) (z := 29) hC_cX12_init rfl rfl
theorem dX12_init_65 : decode cX12_init 65 = .ok (.aload_n 0, 1) := k42 hC_cX12_init rfl
theorem dX12_init_66 : decode cX12_init 66 = .ok (.bipush 6, 2) := k16 (y := 6) hC_cX12_init rfl rfl
theorem dX12_init_68 : decode cX12_init 68 = .ok (.newarray .int, 2) := k188_10 hC_cX12_init rfl
theorem dX12_init_70 : decode cX12_init 70 = .ok (.putfield 32, 3) := k181 (y := 0) (z := 32) hC_cX12_init rfl rfl
theorem dX12_init_73 : decode cX12_init 73 = .ok (.aload_n 0, 1) := k42 hC_cX12_init rfl
theorem dX12_init_74 : decode cX12_init 74 = .ok (.bipush 6, 2) := k16 (y := 6) hC_cX12_init rfl rfl
theorem dX12_init_76 : decode cX12_init 76 = .ok (.newarray .int, 2) := k188_10 hC_cX12_init rfl
theorem dX12_init_78 : decode cX12_init 78 = .ok (.putfield 35, 3) := k181 (y := 0) (z := 35) hC_cX12_init rfl rfl
theorem dX12_init_8 : decode cX12_init 8 = .ok (.newarray .byte, 2) := k188_8 hC_cX12_init rfl
theorem dX12_init_81 : decode cX12_init 81 = .ok (.aload_n 0, 1) := k42 hC_cX12_init rfl
theorem dX12_init_82 : decode cX12_init 82 = .ok (.bipush 24, 2) := k16 (y := 24) hC_cX12_init rfl rfl
theorem dX12_init_84 : decode cX12_init 84 = .ok (.newarray .int, 2) := k188_10 hC_cX12_init rfl
theorem dX12_init_86 : decode cX12_init 86 = .ok (.putfield 38, 3) := k181 (y := 0) (z := 38) hC_cX12_init rfl rfl
theorem dX12_init_89 : decode cX12_init 89 = .ok (.aload_n 0, 1) := k42 hC_cX12_init rfl
theorem dX12_init_90 : decode cX12_init 90 = .ok (.bipush 24, 2) := k16 (y := 24) hC_cX12_init rfl rfl
theorem dX12_init_92 : decode cX12_init 92 = .ok (.newarray .boolean, 2) := k188_4 hC_cX12_init rfl
theorem dX12_init_94 : decode cX12_init 94 = .ok (.putfield 41, 3) := k181 (y := 0) (z := 41) hC_cX12_init rfl rfl
theorem dX12_init_97 : decode cX12_init 97 = .ok (.aload_n 0, 1) := k42 hC_cX12_init rfl
theorem dX12_init_98 : decode cX12_init 98 = .ok (.bipush 24, 2) := k16 (y := 24) hC_cX12_init rfl rfl
theorem dX1_init_0 : decode cX1_init 0 = .ok (.aload_n 0, 1) := k42 hC_cX1_init rfl
theorem dX1_init_1 : decode cX1_init 1 = .ok (.invokespecial 7, 3) := k183 (y := 0) (z := 7) hC_cX1_init rfl rfl
theorem dX1_init_11 : decode cX1_init 11 = .ok (.aload_n 0, 1) := k42 hC_cX1_init rfl
theorem dX1_init_12 : decode cX1_init 12 = .ok (.sipush 320, 3) := k17 (y := 1) (z := 64) hC_cX1_init rfl rfl
theorem dX1_init_15 : decode cX1_init 15 = .ok (.newarray .int, 2) := k188_10 hC_cX1_init rfl
theorem dX1_init_17 : decode cX1_init 17 = .ok (.putfield 17, 3) := k181 (y := 0) (z := 17) hC_cX1_init rfl rfl
theorem dX1_init_20 : decode cX1_init 20 = .ok (.aload_n 0, 1) := k42 hC_cX1_init rfl
theorem dX1_init_21 : decode cX1_init 21 = .ok (.sipush 420, 3) := k17 (y := 1) (z := 164) hC_cX1_init rfl rfl
theorem dX1_init_24 : decode cX1_init 24 = .ok (.newarray .int, 2) := k188_10 hC_cX1_init rfl
theorem dX1_init_26 : decode cX1_init 26 = .ok (.putfield 20, 3) := k181 (y := 0) (z := 20) hC_cX1_init rfl rfl
theorem dX1_init_29 : decode cX1_init 29 = .ok (.aload_n 0, 1) := k42 hC_cX1_init rfl
theorem dX1_init_30 : decode cX1_init 30 = .ok (.sipush 420, 3) := k17 (y := 1) (z := 164) hC_cX1_init rfl rfl
theorem dX1_init_33 : decode cX1_init 33 = .ok (.newarray .int, 2) := k188_10 hC_cX1_init rfl
theorem dX1_init_35 : decode cX1_init 35 = .ok (.putfield 23, 3) := k181 (y := 0) (z := 23) hC_cX1_init rfl rfl
theorem dX1_init_38 : decode cX1_init 38 = .ok (.aload_n 0, 1) := k42 hC_cX1_init rfl
theorem dX1_init_39 : decode cX1_init 39 = .ok (.sipush 420, 3) := k17 (y := 1) (z := 164) hC_cX1_init rfl rfl
theorem dX1_init_4 : decode cX1_init 4 = .ok (.aload_n 0, 1) := k42 hC_cX1_init rfl
theorem dX1_init_42 : decode cX1_init 42 = .ok (.newarray .int, 2) := k188_10 hC_cX1_init rfl
theorem dX1_init_44 : decode cX1_init 44 = .ok (.putfield 26, 3) := k181 (y := 0) (z := 26) hC_cX1_init rfl rfl
theorem dX1_init_47 : decode cX1_init 47 = .ok (.aload_n 0, 1) := k42 hC_cX1_init rfl
theorem dX1_init_48 : decode cX1_init 48 = .ok (.sipush 300, 3) := k17 (y := 1) (z := 44) hC_cX1_init rfl rfl
theorem dX1_init_5 : decode cX1_init 5 = .ok (.iconst 5, 1) := k8 hC_cX1_init rfl
theorem dX1_init_51 : decode cX1_init 51 = .ok (.newarray .long, 2) := k188_11 hC_cX1_init rfl
theorem dX1_init_53 : decode cX1_init 53 = .ok (.putfield 29, 3) := k181 (y := 0) (z := 29) hC_cX1_init rfl rfl
theorem dX1_init_56 : decode cX1_init 56 = .ok (.aload_n 0, 1) := k42 hC_cX1_init rfl
theorem dX1_init_57 : decode cX1_init 57 = .ok (.aload_n 1, 1) := k43 hC_cX1_init rfl
theorem dX1_init_58 : decode cX1_init 58 = .ok (.putfield 33, 3) := k181 (y := 0) (z := 33) hC_cX1_init rfl rfl
theorem dX1_init_6 : decode cX1_init 6 = .ok (.newarray .int, 2) := k188_10 hC_cX1_init rfl
theorem dX1_init_61 : decode cX1_init 61 = .ok (.aload_n 0, 1) := k42 hC_cX1_init rfl
theorem dX1_init_62 : decode cX1_init 62 = .ok (.aload_n 2, 1) := k44 hC_cX1_init rfl
theorem dX1_init_63 : decode cX1_init 63 = .ok (.putfield 37, 3) := k181 (y := 0) (z := 37) hC_cX1_init rfl rfl
theorem dX1_init_66 : decode cX1_init 66 = .ok (.aload_n 0, 1) := k42 hC_cX1_init rfl
theorem dX1_init_67 : decode cX1_init 67 = .ok (.aload_n 3, 1) := k45 hC_cX1_init rfl
theorem dX1_init_68 : decode cX1_init 68 = .ok (.putfield 41, 3) := k181 (y := 0) (z := 41) hC_cX1_init rfl rfl
theorem dX1_init_71 : decode cX1_init 71 = .ok (.aload_n 0, 1) := k42 hC_cX1_init rfl
theorem dX1_init_72 : decode cX1_init 72 = .ok (.aload 4, 2) := k25 hC_cX1_init rfl
theorem dX1_init_74 : decode cX1_init 74 = .ok (.putfield 45, 3) := k181 (y := 0) (z := 45) hC_cX1_init rfl rfl
theorem dX1_init_77 : decode cX1_init 77 = .ok (.return_, 1) := k177 hC_cX1_init rfl
theorem dX1_init_8 : decode cX1_init 8 = .ok (.putfield 13, 3) := k181 (y := 0) (z := 13) hC_cX1_init rfl rfl
theorem dX2_init_0 : decode cX2_init 0 = .ok (.aload_n 0, 1) := k42 hC_cX2_init rfl
theorem dX2_init_1 : decode cX2_init 1 = .ok (.invokespecial 3, 3) := k183 (y := 0) (z := 3) hC_cX2_init rfl rfl
theorem dX2_init_10 : decode cX2_init 10 = .ok (.putfield 13, 3) := k181 (y := 0) (z := 13) hC_cX2_init rfl rfl
theorem dX2_init_13 : decode cX2_init 13 = .ok (.aload_n 0, 1) := k42 hC_cX2_init rfl
theorem dX2_init_14 : decode cX2_init 14 = .ok (.bipush 20, 2) := k16 (y := 20) hC_cX2_init rfl rfl
theorem dX2_init_16 : decode cX2_init 16 = .ok (.newarray .int, 2) := k188_10 hC_cX2_init rfl
theorem dX2_init_18 : decode cX2_init 18 = .ok (.putfield 17, 3) := k181 (y := 0) (z := 17) hC_cX2_init rfl rfl
theorem dX2_init_21 : decode cX2_init 21 = .ok (.aload_n 0, 1) := k42 hC_cX2_init rfl
theorem dX2_init_22 : decode cX2_init 22 = .ok (.bipush 20, 2) := k16 (y := 20) hC_cX2_init rfl rfl
theorem dX2_init_24 : decode cX2_init 24 = .ok (.newarray .int, 2) := k188_10 hC_cX2_init rfl
theorem dX2_init_26 : decode cX2_init 26 = .ok (.putfield 20, 3) := k181 (y := 0) (z := 20) hC_cX2_init rfl rfl
theorem dX2_init_29 : decode cX2_init 29 = .ok (.aload_n 0, 1) := k42 hC_cX2_init rfl
theorem dX2_init_30 : decode cX2_init 30 = .ok (.bipush 20, 2) := k16 (y := 20) hC_cX2_init rfl rfl
theorem dX2_init_32 : decode cX2_init 32 = .ok (.newarray .int, 2) := k188_10 hC_cX2_init rfl
theorem dX2_init_34 : decode cX2_init 34 = .ok (.putfield 23, 3) := k181 (y := 0) (z := 23) hC_cX2_init rfl rfl
theorem dX2_init_37 : decode cX2_init 37 = .ok (.aload_n 0, 1) := k42 hC_cX2_init rfl
theorem dX2_init_38 : decode cX2_init 38 = .ok (.bipush 20, 2) := k16 (y := 20) hC_cX2_init rfl rfl
theorem dX2_init_4 : decode cX2_init 4 = .ok (.aload_n 0, 1) := k42 hC_cX2_init rfl
theorem dX2_init_40 : decode cX2_init 40 = .ok (.newarray .int, 2) := k188_10 hC_cX2_init rfl
theorem dX2_init_42 : decode cX2_init 42 = .ok (.putfield 26, 3) := k181 (y := 0) (z := 26) hC_cX2_init rfl rfl
theorem dX2_init_45 : decode cX2_init 45 = .ok (.aload_n 0, 1) := k42 hC_cX2_init rfl
theorem dX2_init_46 : decode cX2_init 46 = .ok (.sipush 320, 3) := k17 (y := 1) (z := 64) hC_cX2_init rfl rfl
theorem dX2_init_49 : decode cX2_init 49 = .ok (.newarray .int, 2) := k188_10 hC_cX2_init rfl
theorem dX2_init_5 : decode cX2_init 5 = .ok (.bipush 20, 2) := k16 (y := 20) hC_cX2_init rfl rfl
theorem dX2_init_51 : decode cX2_init 51 = .ok (.putfield 29, 3) := k181 (y := 0) (z := 29) hC_cX2_init rfl rfl
theorem dX2_init_54 : decode cX2_init 54 = .ok (.aload_n 0, 1) := k42 hC_cX2_init rfl
theorem dX2_init_55 : decode cX2_init 55 = .ok (.sipush 320, 3) := k17 (y := 1) (z := 64) hC_cX2_init rfl rfl
theorem dX2_init_58 : decode cX2_init 58 = .ok (.newarray .int, 2) := k188_10 hC_cX2_init rfl
theorem dX2_init_60 : decode cX2_init 60 = .ok (.putfield 32, 3) := k181 (y := 0) (z := 32) hC_cX2_init rfl rfl
theorem dX2_init_63 : decode cX2_init 63 = .ok (.aload_n 0, 1) := k42 hC_cX2_init rfl
theorem dX2_init_64 : decode cX2_init 64 = .ok (.sipush 320, 3) := k17 (y := 1) (z := 64) hC_cX2_init rfl rfl
theorem dX2_init_67 : decode cX2_init 67 = .ok (.newarray .int, 2) := k188_10 hC_cX2_init rfl
theorem dX2_init_69 : decode cX2_init 69 = .ok (.putfield 35, 3) := k181 (y := 0) (z := 35) hC_cX2_init rfl rfl
theorem dX2_init_7 : decode cX2_init 7 = .ok (.anewarray 11, 3) := k189 (y := 0) (z := 11) hC_cX2_init rfl rfl
theorem dX2_init_72 : decode cX2_init 72 = .ok (.aload_n 0, 1) := k42 hC_cX2_init rfl
theorem dX2_init_73 : decode cX2_init 73 = .ok (.sipush 320, 3) := k17 (y := 1) (z := 64) hC_cX2_init rfl rfl
theorem dX2_init_76 : decode cX2_init 76 = .ok (.newarray .int, 2) := k188_10 hC_cX2_init rfl
theorem dX2_init_78 : decode cX2_init 78 = .ok (.putfield 38, 3) := k181 (y := 0) (z := 38) hC_cX2_init rfl rfl
theorem dX2_init_81 : decode cX2_init 81 = .ok (.aload_n 0, 1) := k42 hC_cX2_init rfl
theorem dX2_init_82 : decode cX2_init 82 = .ok (.sipush 320, 3) := k17 (y := 1) (z := 64) hC_cX2_init rfl rfl
theorem dX2_init_85 : decode cX2_init 85 = .ok (.newarray .int, 2) := k188_10 hC_cX2_init rfl
theorem dX2_init_87 : decode cX2_init 87 = .ok (.putfield 41, 3) := k181 (y := 0) (z := 41) hC_cX2_init rfl rfl
theorem dX2_init_90 : decode cX2_init 90 = .ok (.return_, 1) := k177 hC_cX2_init rfl
theorem dX3_init_0 : decode cX3_init 0 = .ok (.aload_n 0, 1) := k42 hC_cX3_init rfl
theorem dX3_init_1 : decode cX3_init 1 = .ok (.invokespecial 3, 3) := k183 (y := 0) (z := 3) hC_cX3_init rfl rfl
theorem dX3_init_11 : decode cX3_init 11 = .ok (.aload_n 0, 1) := k42 hC_cX3_init rfl
theorem dX3_init_12 : decode cX3_init 12 = .ok (.aload_n 1, 1) := k43 hC_cX3_init rfl
theorem dX3_init_13 : decode cX3_init 13 = .ok (.putfield 18, 3) := k181 (y := 0) (z := 18) hC_cX3_init rfl rfl
theorem dX3_init_16 : decode cX3_init 16 = .ok (.return_, 1) := k177 hC_cX3_init rfl
theorem dX3_init_4 : decode cX3_init 4 = .ok (.aload_n 0, 1) := k42 hC_cX3_init rfl
theorem dX3_init_5 : decode cX3_init 5 = .ok (.getstatic 9, 3) := k178 (y := 0) (z := 9) hC_cX3_init rfl rfl
theorem dX3_init_8 : decode cX3_init 8 = .ok (.putfield 13, 3) := k181 (y := 0) (z := 13) hC_cX3_init rfl rfl
theorem dX4_init_0 : decode cX4_init 0 = .ok (.aload_n 0, 1) := k42 hC_cX4_init rfl
theorem dX4_init_1 : decode cX4_init 1 = .ok (.invokespecial 3, 3) := k183 (y := 0) (z := 3) hC_cX4_init rfl rfl
theorem dX4_init_12 : decode cX4_init 12 = .ok (.aload_n 0, 1) := k42 hC_cX4_init rfl
theorem dX4_init_13 : decode cX4_init 13 = .ok (.bipush 6, 2) := k16 (y := 6) hC_cX4_init rfl rfl
theorem dX4_init_15 : decode cX4_init 15 = .ok (.newarray .int, 2) := k188_10 hC_cX4_init rfl
theorem dX4_init_17 : decode cX4_init 17 = .ok (.putfield 15, 3) := k181 (y := 0) (z := 15) hC_cX4_init rfl rfl
theorem dX4_init_20 : decode cX4_init 20 = .ok (.aload_n 0, 1) := k42 hC_cX4_init rfl
theorem dX4_init_21 : decode cX4_init 21 = .ok (.bipush 6, 2) := k16 (y := 6) hC_cX4_init rfl rfl
theorem dX4_init_23 : decode cX4_init 23 = .ok (.newarray .int, 2) := k188_10 hC_cX4_init rfl
theorem dX4_init_25 : decode cX4_init 25 = .ok (.putfield 18, 3) := k181 (y := 0) (z := 18) hC_cX4_init rfl rfl
theorem dX4_init_28 : decode cX4_init 28 = .ok (.return_, 1) := k177 hC_cX4_init rfl
theorem dX4_init_4 : decode cX4_init 4 = .ok (.aload_n 0, 1) := k42 hC_cX4_init rfl
theorem dX4_init_5 : decode cX4_init 5 = .ok (.bipush 6, 2) := k16 (y := 6) hC_cX4_init rfl rfl
theorem dX4_init_7 : decode cX4_init 7 = .ok (.newarray .int, 2) := k188_10 hC_cX4_init rfl
theorem dX4_init_9 : decode cX4_init 9 = .ok (.putfield 11, 3) := k181 (y := 0) (z := 11) hC_cX4_init rfl rfl
theorem dX5_init_0 : decode cX5_init 0 = .ok (.aload_n 0, 1) := k42 hC_cX5_init rfl
theorem dX5_init_1 : decode cX5_init 1 = .ok (.invokespecial 3, 3) := k183 (y := 0) (z := 3) hC_cX5_init rfl rfl
theorem dX5_init_12 : decode cX5_init 12 = .ok (.aload_n 0, 1) := k42 hC_cX5_init rfl
theorem dX5_init_13 : decode cX5_init 13 = .ok (.bipush 6, 2) := k16 (y := 6) hC_cX5_init rfl rfl
theorem dX5_init_15 : decode cX5_init 15 = .ok (.newarray .int, 2) := k188_10 hC_cX5_init rfl
theorem dX5_init_17 : decode cX5_init 17 = .ok (.putfield 15, 3) := k181 (y := 0) (z := 15) hC_cX5_init rfl rfl
theorem dX5_init_20 : decode cX5_init 20 = .ok (.aload_n 0, 1) := k42 hC_cX5_init rfl
theorem dX5_init_21 : decode cX5_init 21 = .ok (.bipush 6, 2) := k16 (y := 6) hC_cX5_init rfl rfl
theorem dX5_init_23 : decode cX5_init 23 = .ok (.newarray .int, 2) := k188_10 hC_cX5_init rfl
theorem dX5_init_25 : decode cX5_init 25 = .ok (.putfield 20, 3) := k181 (y := 0) (z := 20) hC_cX5_init rfl rfl
theorem dX5_init_28 : decode cX5_init 28 = .ok (.aload_n 0, 1) := k42 hC_cX5_init rfl
theorem dX5_init_29 : decode cX5_init 29 = .ok (.bipush 6, 2) := k16 (y := 6) hC_cX5_init rfl rfl
theorem dX5_init_31 : decode cX5_init 31 = .ok (.newarray .int, 2) := k188_10 hC_cX5_init rfl
theorem dX5_init_33 : decode cX5_init 33 = .ok (.putfield 23, 3) := k181 (y := 0) (z := 23) hC_cX5_init rfl rfl
theorem dX5_init_36 : decode cX5_init 36 = .ok (.aload_n 0, 1) := k42 hC_cX5_init rfl
theorem dX5_init_37 : decode cX5_init 37 = .ok (.bipush 6, 2) := k16 (y := 6) hC_cX5_init rfl rfl
theorem dX5_init_39 : decode cX5_init 39 = .ok (.newarray .int, 2) := k188_10 hC_cX5_init rfl
theorem dX5_init_4 : decode cX5_init 4 = .ok (.aload_n 0, 1) := k42 hC_cX5_init rfl
theorem dX5_init_41 : decode cX5_init 41 = .ok (.putfield 26, 3) := k181 (y := 0) (z := 26) hC_cX5_init rfl rfl
theorem dX5_init_44 : decode cX5_init 44 = .ok (.aload_n 0, 1) := k42 hC_cX5_init rfl
theorem dX5_init_45 : decode cX5_init 45 = .ok (.aload_n 1, 1) := k43 hC_cX5_init rfl
theorem dX5_init_46 : decode cX5_init 46 = .ok (.putfield 29, 3) := k181 (y := 0) (z := 29) hC_cX5_init rfl rfl
theorem dX5_init_49 : decode cX5_init 49 = .ok (.aload_n 0, 1) := k42 hC_cX5_init rfl
theorem dX5_init_5 : decode cX5_init 5 = .ok (.bipush 8, 2) := k16 (y := 8) hC_cX5_init rfl rfl
theorem dX5_init_50 : decode cX5_init 50 = .ok (.aload_n 2, 1) := k44 hC_cX5_init rfl
theorem dX5_init_51 : decode cX5_init 51 = .ok (.putfield 33, 3) := k181 (y := 0) (z := 33) hC_cX5_init rfl rfl
theorem dX5_init_54 : decode cX5_init 54 = .ok (.aload_n 0, 1) := k42 hC_cX5_init rfl
theorem dX5_init_55 : decode cX5_init 55 = .ok (.aload_n 3, 1) := k45 hC_cX5_init rfl
theorem dX5_init_56 : decode cX5_init 56 = .ok (.putfield 37, 3) := k181 (y := 0) (z := 37) hC_cX5_init rfl rfl
theorem dX5_init_59 : decode cX5_init 59 = .ok (.return_, 1) := k177 hC_cX5_init rfl
theorem dX5_init_7 : decode cX5_init 7 = .ok (.newarray .int, 2) := k188_10 hC_cX5_init rfl
theorem dX5_init_9 : decode cX5_init 9 = .ok (.putfield 11, 3) := k181 (y := 0) (z := 11) hC_cX5_init rfl rfl
theorem dX6_init_0 : decode cX6_init 0 = .ok (.aload_n 0, 1) := k42 hC_cX6_init rfl
theorem dX6_init_1 : decode cX6_init 1 = .ok (.invokespecial 3, 3) := k183 (y := 0) (z := 3) hC_cX6_init rfl rfl
theorem dX6_init_11 : decode cX6_init 11 = .ok (.aload_n 0, 1) := k42 hC_cX6_init rfl
theorem dX6_init_12 : decode cX6_init 12 = .ok (.aload_n 1, 1) := k43 hC_cX6_init rfl
theorem dX6_init_13 : decode cX6_init 13 = .ok (.putfield 18, 3) := k181 (y := 0) (z := 18) hC_cX6_init rfl rfl
theorem dX6_init_16 : decode cX6_init 16 = .ok (.aload_n 0, 1) := k42 hC_cX6_init rfl
theorem dX6_init_17 : decode cX6_init 17 = .ok (.aload_n 2, 1) := k44 hC_cX6_init rfl
theorem dX6_init_18 : decode cX6_init 18 = .ok (.putfield 22, 3) := k181 (y := 0) (z := 22) hC_cX6_init rfl rfl
theorem dX6_init_21 : decode cX6_init 21 = .ok (.aload_n 0, 1) := k42 hC_cX6_init rfl
theorem dX6_init_22 : decode cX6_init 22 = .ok (.aload_n 3, 1) := k45 hC_cX6_init rfl
theorem dX6_init_23 : decode cX6_init 23 = .ok (.putfield 26, 3) := k181 (y := 0) (z := 26) hC_cX6_init rfl rfl
theorem dX6_init_26 : decode cX6_init 26 = .ok (.return_, 1) := k177 hC_cX6_init rfl
theorem dX6_init_4 : decode cX6_init 4 = .ok (.aload_n 0, 1) := k42 hC_cX6_init rfl
theorem dX6_init_5 : decode cX6_init 5 = .ok (.getstatic 9, 3) := k178 (y := 0) (z := 9) hC_cX6_init rfl rfl
theorem dX6_init_8 : decode cX6_init 8 = .ok (.putfield 13, 3) := k181 (y := 0) (z := 13) hC_cX6_init rfl rfl
theorem dX8_init_0 : decode cX8_init 0 = .ok (.aload_n 0, 1) := k42 hC_cX8_init rfl
theorem dX8_init_1 : decode cX8_init 1 = .ok (.invokespecial 3, 3) := k183 (y := 0) (z := 3) hC_cX8_init rfl rfl
theorem dX8_init_11 : decode cX8_init 11 = .ok (.putfield 13, 3) := k181 (y := 0) (z := 13) hC_cX8_init rfl rfl
theorem dX8_init_14 : decode cX8_init 14 = .ok (.aload_n 0, 1) := k42 hC_cX8_init rfl
theorem dX8_init_15 : decode cX8_init 15 = .ok (.bipush 60, 2) := k16 (y := 60) hC_cX8_init rfl rfl
theorem dX8_init_17 : decode cX8_init 17 = .ok (.newarray .int, 2) := k188_10 hC_cX8_init rfl
theorem dX8_init_19 : decode cX8_init 19 = .ok (.putfield 17, 3) := k181 (y := 0) (z := 17) hC_cX8_init rfl rfl
theorem dX8_init_22 : decode cX8_init 22 = .ok (.aload_n 0, 1) := k42 hC_cX8_init rfl
theorem dX8_init_23 : decode cX8_init 23 = .ok (.sipush 1024, 3) := k17 (y := 4) (z := 0) hC_cX8_init rfl rfl
theorem dX8_init_26 : decode cX8_init 26 = .ok (.newarray .int, 2) := k188_10 hC_cX8_init rfl
theorem dX8_init_28 : decode cX8_init 28 = .ok (.putfield 21, 3) := k181 (y := 0) (z := 21) hC_cX8_init rfl rfl
theorem dX8_init_31 : decode cX8_init 31 = .ok (.aload_n 0, 1) := k42 hC_cX8_init rfl
theorem dX8_init_32 : decode cX8_init 32 = .ok (.sipush 1024, 3) := k17 (y := 4) (z := 0) hC_cX8_init rfl rfl
theorem dX8_init_35 : decode cX8_init 35 = .ok (.newarray .int, 2) := k188_10 hC_cX8_init rfl
theorem dX8_init_37 : decode cX8_init 37 = .ok (.putfield 24, 3) := k181 (y := 0) (z := 24) hC_cX8_init rfl rfl
theorem dX8_init_4 : decode cX8_init 4 = .ok (.aload_n 0, 1) := k42 hC_cX8_init rfl
theorem dX8_init_40 : decode cX8_init 40 = .ok (.aload_n 0, 1) := k42 hC_cX8_init rfl
theorem dX8_init_41 : decode cX8_init 41 = .ok (.sipush 1024, 3) := k17 (y := 4) (z := 0) hC_cX8_init rfl rfl
theorem dX8_init_44 : decode cX8_init 44 = .ok (.newarray .int, 2) := k188_10 hC_cX8_init rfl
theorem dX8_init_46 : decode cX8_init 46 = .ok (.putfield 27, 3) := k181 (y := 0) (z := 27) hC_cX8_init rfl rfl
theorem dX8_init_49 : decode cX8_init 49 = .ok (.iconst 0, 1) := k3 hC_cX8_init rfl
theorem dX8_init_5 : decode cX8_init 5 = .ok (.sipush 200, 3) := k17 (y := 0) (z := 200) hC_cX8_init rfl rfl
theorem dX8_init_50 : decode cX8_init 50 = .ok (.istore_n 1, 1) := k60 hC_cX8_init rfl
theorem dX8_init_51 : decode cX8_init 51 = .ok (.iload_n 1, 1) := k27 hC_cX8_init rfl
theorem dX8_init_52 : decode cX8_init 52 = .ok (.bipush 60, 2) := k16 (y := 60) hC_cX8_init rfl rfl
theorem dX8_init_54 : decode cX8_init 54 = .ok (.if_icmp .ge 16, 3) := k162 (y := 0) (z := 16) hC_cX8_init rfl rfl
theorem dX8_init_57 : decode cX8_init 57 = .ok (.aload_n 0, 1) := k42 hC_cX8_init rfl
theorem dX8_init_58 : decode cX8_init 58 = .ok (.getfield 17, 3) := k180 (y := 0) (z := 17) hC_cX8_init rfl rfl
theorem dX8_init_61 : decode cX8_init 61 = .ok (.iload_n 1, 1) := k27 hC_cX8_init rfl
theorem dX8_init_62 : decode cX8_init 62 = .ok (.iconst (-1), 1) := k2 hC_cX8_init rfl
theorem dX8_init_63 : decode cX8_init 63 = .ok (.iastore, 1) := k79 hC_cX8_init rfl
theorem dX8_init_64 : decode cX8_init 64 = .ok (.iinc 1 1, 3) := k132 (z := 1) hC_cX8_init rfl rfl
theorem dX8_init_67 : decode cX8_init 67 = .ok (.goto (-16), 3) := k167 (y := 255) (z := 240) hC_cX8_init rfl rfl
theorem dX8_init_70 : decode cX8_init 70 = .ok (.return_, 1) := k177 hC_cX8_init rfl
theorem dX8_init_8 : decode cX8_init 8 = .ok (.anewarray 11, 3) := k189 (y := 0) (z := 11) hC_cX8_init rfl rfl
theorem dX9_init_0 : decode cX9_init 0 = .ok (.aload_n 0, 1) := k42 hC_cX9_init rfl
theorem dX9_init_1 : decode cX9_init 1 = .ok (.invokespecial 3, 3) := k183 (y := 0) (z := 3) hC_cX9_init rfl rfl
theorem dX9_init_12 : decode cX9_init 12 = .ok (.aload_n 0, 1) := k42 hC_cX9_init rfl
theorem dX9_init_13 : decode cX9_init 13 = .ok (.bipush 60, 2) := k16 (y := 60) hC_cX9_init rfl rfl
theorem dX9_init_15 : decode cX9_init 15 = .ok (.newarray .int, 2) := k188_10 hC_cX9_init rfl
theorem dX9_init_17 : decode cX9_init 17 = .ok (.putfield 15, 3) := k181 (y := 0) (z := 15) hC_cX9_init rfl rfl
theorem dX9_init_20 : decode cX9_init 20 = .ok (.aload_n 0, 1) := k42 hC_cX9_init rfl
theorem dX9_init_21 : decode cX9_init 21 = .ok (.sipush 180, 3) := k17 (y := 0) (z := 180) hC_cX9_init rfl rfl
theorem dX9_init_24 : decode cX9_init 24 = .ok (.anewarray 18, 3) := k189 (y := 0) (z := 18) hC_cX9_init rfl rfl
theorem dX9_init_27 : decode cX9_init 27 = .ok (.putfield 19, 3) := k181 (y := 0) (z := 19) hC_cX9_init rfl rfl
theorem dX9_init_30 : decode cX9_init 30 = .ok (.aload_n 0, 1) := k42 hC_cX9_init rfl
theorem dX9_init_31 : decode cX9_init 31 = .ok (.sipush 480, 3) := k17 (y := 1) (z := 224) hC_cX9_init rfl rfl
theorem dX9_init_34 : decode cX9_init 34 = .ok (.newarray .int, 2) := k188_10 hC_cX9_init rfl
theorem dX9_init_36 : decode cX9_init 36 = .ok (.putfield 23, 3) := k181 (y := 0) (z := 23) hC_cX9_init rfl rfl
theorem dX9_init_39 : decode cX9_init 39 = .ok (.aload_n 0, 1) := k42 hC_cX9_init rfl
theorem dX9_init_4 : decode cX9_init 4 = .ok (.aload_n 0, 1) := k42 hC_cX9_init rfl
theorem dX9_init_40 : decode cX9_init 40 = .ok (.sipush 480, 3) := k17 (y := 1) (z := 224) hC_cX9_init rfl rfl
theorem dX9_init_43 : decode cX9_init 43 = .ok (.newarray .int, 2) := k188_10 hC_cX9_init rfl
theorem dX9_init_45 : decode cX9_init 45 = .ok (.putfield 26, 3) := k181 (y := 0) (z := 26) hC_cX9_init rfl rfl
theorem dX9_init_48 : decode cX9_init 48 = .ok (.return_, 1) := k177 hC_cX9_init rfl
theorem dX9_init_5 : decode cX9_init 5 = .ok (.bipush 60, 2) := k16 (y := 60) hC_cX9_init rfl rfl
theorem dX9_init_7 : decode cX9_init 7 = .ok (.newarray .int, 2) := k188_10 hC_cX9_init rfl
theorem dX9_init_9 : decode cX9_init 9 = .ok (.putfield 9, 3) := k181 (y := 0) (z := 9) hC_cX9_init rfl rfl
theorem spl {ws A B C : va_W} (h : C = A ++ B) : ws ++ C = (ws ++ A) ++ B := by rw [h, List.append_assoc]
theorem at_pp (ws l m : va_W) (k : Nat) : ((ws ++ l) ++ m)[ws.length + k]? = (l ++ m)[k]? := by rw [List.append_assoc]; exact at_p ws (l ++ m) k
theorem set_pp (ws l m : va_W) (k : Nat) (x : Nat × va_E) : ((ws ++ l) ++ m).set (ws.length + k) x = ws ++ (l ++ m).set k x := by rw [List.append_assoc]; exact set_p ws (l ++ m) k x
theorem Hp.to {D : va_G} {A : Nat → Prop} {H0 H : Heap} {locs : List Loc} {ws ws' : va_W} (B : Hp D A H0 ws H locs) (h : ws = ws') : Hp D A H0 ws' H locs := h ▸ B
theorem arrV_congr {cA : ClassId} {n : Nat} {f g : Nat → Value} (h : ∀ j, j < n → f j = g j) : arrV cA n f = arrV cA n g := by
  unfold arrV
  congr 1
  apply Array.ext
  · simp
  · intro i h1 h2
    simp only [Array.getElem_ofFn]
    exact h i (by simpa using h1)
theorem Hp.arr {D : va_G} {A : Nat → Prop} {H0 H : Heap} {locs : List Loc} {ws l : va_W} {a n : Nat} {cA : ClassId} {f g : Nat → Int32} (B : Hp D A H0 (ws ++ l) H locs) (k : Nat) (hk : l[k]? = some (a, .inl (cA, n, .inl f))) (hfg : ∀ j, j < n → f j = g j) : Hp D A H0 (ws ++ l.set k (a, .inl (cA, n, .inl g))) H locs := by
  have hk' : (ws ++ l)[ws.length + k]? = some (a, .inl (cA, n, .inl f)) := (at_p ws l k).trans hk
  have h1 := B.1 _ _ hk'
  have h2 : va_at D classes (a, .inl (cA, n, .inl g)) H := by
    show H[a]? = some (vp_cell cA (n, .inl g))
    rw [vp_cell_i, ← arrV_congr (f := fun j => .int (f j)) (fun j hj => by rw [hfg j hj])]
    exact h1
  have hP := B.1.set B.2.1 hk' h2 (fun _ _ => rfl)
  have hD := B.2.1.set (e := .inl (cA, n, .inl g)) hk'
  rw [set_p] at hP hD
  exact ⟨hP, hD, B.2.2⟩
theorem fill_step {f : Nat → Int32} {a : Int} {i v : Int32} (hf : ∀ j : Nat, (j : Int) < a → f j = v) (hi : i.toInt = a) (h0 : 0 ≤ a) : ∀ j : Nat, (j : Int) < a + 1 → upd f i.toNatClampNeg v j = v := by
  intro j hj
  unfold upd
  split
  · rfl
  · rename_i hne
    apply hf
    have : i.toNatClampNeg = i.toInt.toNat := rfl
    omega
theorem hd_10 : ∀ j, j < 3 → defaultValue (tyX10 j) = vp_V [.null, .null, .int 0] j := by decide +kernel
theorem hd_9 : ∀ j, j < 6 → defaultValue (tyX9 j) = vp_V [.null, .null, .null, .null, .null, .int 0] j := by decide +kernel
theorem hd_4 : ∀ j, j < 8 → defaultValue (tyX4 j) = vp_V [.null, .null, .null, .int 0, .int 0, .int 0, .int 0, .int 0] j := by decide +kernel
theorem hd_2 : ∀ j, j < 11 → defaultValue (tyX2 j) = vp_V [.null, .null, .null, .null, .null, .null, .null, .null, .null, .null, .int 0] j := by decide +kernel
theorem hd_8 : ∀ j, j < 7 → defaultValue (tyX8 j) = vp_V [.null, .null, .null, .null, .null, .int 0, .int 0] j := by decide +kernel
theorem hd_3 : ∀ j, j < 7 → defaultValue (tyX3 j) = vp_V [.null, .null, .int 0, .int 0, .int 0, .int 0, .int 0] j := by decide +kernel
theorem hd_6 : ∀ j, j < 14 → defaultValue (tyX6 j) = vp_V [.null, .null, .null, .int 0, .int 0, .int 0, .int 0, .int 0, .int 0, .int 0, .int 0, .null, .int 0, .int 0] j := by decide +kernel
theorem hd_1 : ∀ j, j < 13 → defaultValue (tyX1 j) = vp_V [.null, .null, .null, .null, .null, .null, .null, .null, .null, .null, .int 0, .int 0, .int 0] j := by decide +kernel
theorem hd_0 : ∀ j, j < 14 → defaultValue (tyX0 j) = vp_V [.null, .null, .null, .null, .null, .null, .null, .null, .null, .null, .null, .int 0, .int 0, .int 0] j := by decide +kernel
theorem hd_5 : ∀ j, j < 10 → defaultValue (tyX5 j) = vp_V [.null, .null, .null, .null, .null, .null, .null, .null, .int 0, .int 0] j := by decide +kernel
theorem hd_11 : ∀ j, j < 14 → defaultValue (tyX11 j) = vp_V [.null, .null, .null, .null, .null, .null, .null, .null, .null, .null, .null, .null, .int 0, .int 0] j := by decide +kernel
theorem hd_12 : ∀ j, j < 96 → defaultValue (tyX12 j) = vp_V [.null, .int 0, .int 0, .int 0, .int 0, .int 0, .int 0, .int 0, .int 0, .int 0, .null, .null, .null, .null, .null, .null, .null, .null, .null, .null, .null, .null, .null, .null, .null, .null, .null, .null, .null, .null, .null, .null, .null, .null, .null, .int 0, .int 0, .int 0, .int 0, .int 0, .int 0, .int 0, .int 0, .int 0, .null, .null, .null, .null, .null, .null, .null, .null, .null, .null, .null, .null, .null, .null, .null, .null, .null, .null, .null, .null, .null, .null, .null, .null, .int 0, .null, .null, .null, .int 0, .int 0, .int 0, .int 0, .int 0, .int 0, .int 0, .null, .int 0, .null, .null, .null, .null, .null, .null, .null, .null, .int 0, .null, .int 0, .int 0, .null, .null, .null] j := by decide +kernel
def WI10 (ct : Nat → ClassId) (tN : Nat) (ws : va_W) (h : Nat)  (u : Nat → Nat) : va_W := ws ++ ([(h, .inr (10, [.ref (u 0), .ref (u 1), .int 0])), ((u 0), .inl (ct 1, 4800, .inl (fun _ => 0))), ((u 1), .inl (ct 1, 400, .inl (fun _ => 0)))] : va_W)
set_option maxHeartbeats 8000000 in
set_option maxRecDepth 100000 in
theorem init_X10 (l : Launch) (D : va_G) (ct : Nat → ClassId) (tN : Nat) (ws : va_W) (h : Nat)  : MV l D (TY ct) tN yX10_init cX10_init 1 ({ frames := 1, cells := 2, slots := 5200, locals := 40 } : Room) [.ref h] (ws ++ ([(h, .inr (10, [.null, .null, .int 0]))] : va_W)) (fun (u : Nat → Nat) => True) (WI10 ct tN ws h ) 2 5200 := by
  intro sz
  refine Met.ofE (Qc := fun A => va_Qv (fun (u : Nat → Nat) => True) (BW D A (WI10 ct tN ws h )) A) (by decide) (Nat.le_of_ble_eq_true rfl) ?_
  intro p e s m args below meth c A ls hsz E hr hlk hnm B hl
  have hnm : "<init>" = meth.name := hnm
  replace hl : lv_has ls 1 [(0, .ref h)] := hl
  refine lv_aload_n E.1.1 E.1.2.1 dX10_init_0 rfl (lv_at hl 0 rfl) ?_
  refine row_obj E w_dd4f08ab w_08b13607 w_47dee913 hl dX10_init_1 (Nat.le_of_ble_eq_true rfl) (Nat.le_of_ble_eq_true rfl) ?_
  refine lv_aload_n E.1.1 E.1.2.1 dX10_init_4 rfl (lv_at hl 0 rfl) ?_
  refine lv_sipush (v := 4800) E.1.1 E.1.2.1 dX10_init_5 (by decide) ?_
  refine row_newa (atype := .byte) (a0 := (4800, .inl (fun _ => 0))) E B w_db47154c rfl 1 rfl (fun _ => rfl) (by decide) (by decide) (Nat.le_of_ble_eq_true rfl) (Nat.le_of_ble_eq_true rfl) (Nat.le_of_ble_eq_true rfl) dX10_init_8 ?_
  clear B
  intro q1 H B
  refine at_n (n := 10) (k1 := 1) (k2 := 4800) rfl rfl rfl ?_
  refine row_putF E B iX10 rfl tyX10 tyX10_ok nmX10 0 (by decide) w_8fb5bbb8 rfl hnm rfl (ws.length + 0) ((at_pp _ _ _ _).trans rfl) rfl rfl (Nat.le_of_ble_eq_true rfl) dX10_init_10 ?_
  clear B
  intro H locs B
  replace B := Hp.to B (set_pp ..)
  replace B := Hp.to (ws' := ws ++ ([(h, .inr (10, [.ref q1, .null, .int 0])), (q1, .inl (ct 1, 4800, .inl (fun _ => 0)))] : va_W)) B rfl
  refine at_pc (n := 13) rfl ?_
  refine lv_aload_n E.1.1 E.1.2.1 dX10_init_13 rfl (lv_at hl 0 rfl) ?_
  refine lv_sipush (v := 400) E.1.1 E.1.2.1 dX10_init_14 (by decide) ?_
  refine row_newa (atype := .byte) (a0 := (400, .inl (fun _ => 0))) E B w_db47154c rfl 1 rfl (fun _ => rfl) (by decide) (by decide) (Nat.le_of_ble_eq_true rfl) (Nat.le_of_ble_eq_true rfl) (Nat.le_of_ble_eq_true rfl) dX10_init_17 ?_
  clear B
  intro q2 H B
  refine at_n (n := 19) (k1 := 2) (k2 := 5200) rfl rfl rfl ?_
  refine row_putF E B iX10 rfl tyX10 tyX10_ok nmX10 1 (by decide) w_d22f28c3 rfl hnm rfl (ws.length + 0) ((at_pp _ _ _ _).trans rfl) rfl rfl (Nat.le_of_ble_eq_true rfl) dX10_init_19 ?_
  clear B
  intro H locs B
  replace B := Hp.to B (set_pp ..)
  replace B := Hp.to (ws' := ws ++ ([(h, .inr (10, [.ref q1, .ref q2, .int 0])), (q1, .inl (ct 1, 4800, .inl (fun _ => 0))), (q2, .inl (ct 1, 400, .inl (fun _ => 0)))] : va_W)) B rfl
  refine at_pc (n := 22) rfl ?_
  exact ret_V (u := (fun k => ([q1, q2] : List Nat).getD k 0)) E hr hlk B trivial dX10_init_22
def WI9 (ct : Nat → ClassId) (tN : Nat) (ws : va_W) (h : Nat)  (u : Nat → Nat) : va_W := ws ++ ([(h, .inr (9, [.ref (u 0), .ref (u 1), .ref (u 2), .ref (u 3), .ref (u 4), .int 0])), ((u 0), .inl (ct 0, 60, .inl (fun _ => 0))), ((u 1), .inl (ct 0, 60, .inl (fun _ => 0))), ((u 2), .inl (ct 4, 180, .inr (.inr (.inr (.inr (fun _ => none)))))), ((u 3), .inl (ct 0, 480, .inl (fun _ => 0))), ((u 4), .inl (ct 0, 480, .inl (fun _ => 0)))] : va_W)
set_option maxHeartbeats 8000000 in
set_option maxRecDepth 100000 in
theorem init_X9 (l : Launch) (D : va_G) (ct : Nat → ClassId) (tN : Nat) (ws : va_W) (h : Nat)  : MV l D (TY ct) tN yX9_init cX9_init 1 ({ frames := 1, cells := 5, slots := 1260, locals := 40 } : Room) [.ref h] (ws ++ ([(h, .inr (9, [.null, .null, .null, .null, .null, .int 0]))] : va_W)) (fun (u : Nat → Nat) => True) (WI9 ct tN ws h ) 5 1260 := by
  intro sz
  refine Met.ofE (Qc := fun A => va_Qv (fun (u : Nat → Nat) => True) (BW D A (WI9 ct tN ws h )) A) (by decide) (Nat.le_of_ble_eq_true rfl) ?_
  intro p e s m args below meth c A ls hsz E hr hlk hnm B hl
  have hnm : "<init>" = meth.name := hnm
  replace hl : lv_has ls 1 [(0, .ref h)] := hl
  refine lv_aload_n E.1.1 E.1.2.1 dX9_init_0 rfl (lv_at hl 0 rfl) ?_
  refine row_obj E w_5aaa2900 w_08b13607 w_47dee913 hl dX9_init_1 (Nat.le_of_ble_eq_true rfl) (Nat.le_of_ble_eq_true rfl) ?_
  refine lv_aload_n E.1.1 E.1.2.1 dX9_init_4 rfl (lv_at hl 0 rfl) ?_
  refine lv_bipush (v := 60) E.1.1 E.1.2.1 dX9_init_5 (by decide) ?_
  refine row_newa (atype := .int) (a0 := (60, .inl (fun _ => 0))) E B w_e8e14353 rfl 0 rfl (fun _ => rfl) (by decide) (by decide) (Nat.le_of_ble_eq_true rfl) (Nat.le_of_ble_eq_true rfl) (Nat.le_of_ble_eq_true rfl) dX9_init_7 ?_
  clear B
  intro q1 H B
  refine at_n (n := 9) (k1 := 1) (k2 := 60) rfl rfl rfl ?_
  refine row_putF E B iX9 rfl tyX9 tyX9_ok nmX9 0 (by decide) w_95620601 rfl hnm rfl (ws.length + 0) ((at_pp _ _ _ _).trans rfl) rfl rfl (Nat.le_of_ble_eq_true rfl) dX9_init_9 ?_
  clear B
  intro H locs B
  replace B := Hp.to B (set_pp ..)
  replace B := Hp.to (ws' := ws ++ ([(h, .inr (9, [.ref q1, .null, .null, .null, .null, .int 0])), (q1, .inl (ct 0, 60, .inl (fun _ => 0)))] : va_W)) B rfl
  refine at_pc (n := 12) rfl ?_
  refine lv_aload_n E.1.1 E.1.2.1 dX9_init_12 rfl (lv_at hl 0 rfl) ?_
  refine lv_bipush (v := 60) E.1.1 E.1.2.1 dX9_init_13 (by decide) ?_
  refine row_newa (atype := .int) (a0 := (60, .inl (fun _ => 0))) E B w_e8e14353 rfl 0 rfl (fun _ => rfl) (by decide) (by decide) (Nat.le_of_ble_eq_true rfl) (Nat.le_of_ble_eq_true rfl) (Nat.le_of_ble_eq_true rfl) dX9_init_15 ?_
  clear B
  intro q2 H B
  refine at_n (n := 17) (k1 := 2) (k2 := 120) rfl rfl rfl ?_
  refine row_putF E B iX9 rfl tyX9 tyX9_ok nmX9 1 (by decide) w_3957b6e1 rfl hnm rfl (ws.length + 0) ((at_pp _ _ _ _).trans rfl) rfl rfl (Nat.le_of_ble_eq_true rfl) dX9_init_17 ?_
  clear B
  intro H locs B
  replace B := Hp.to B (set_pp ..)
  replace B := Hp.to (ws' := ws ++ ([(h, .inr (9, [.ref q1, .ref q2, .null, .null, .null, .int 0])), (q1, .inl (ct 0, 60, .inl (fun _ => 0))), (q2, .inl (ct 0, 60, .inl (fun _ => 0)))] : va_W)) B rfl
  refine at_pc (n := 20) rfl ?_
  refine lv_aload_n E.1.1 E.1.2.1 dX9_init_20 rfl (lv_at hl 0 rfl) ?_
  refine lv_sipush (v := 180) E.1.1 E.1.2.1 dX9_init_21 (by decide) ?_
  refine row_newqa (N' := 180) E B w_18a5ed12 (by decide) (by decide) (Nat.le_of_ble_eq_true rfl) (Nat.le_of_ble_eq_true rfl) (Nat.le_of_ble_eq_true rfl) dX9_init_24 ?_
  clear B
  intro q3 H B
  refine at_n (n := 27) (k1 := 3) (k2 := 300) rfl rfl rfl ?_
  refine row_putF E B iX9 rfl tyX9 tyX9_ok nmX9 2 (by decide) w_cddf6902 rfl hnm rfl (ws.length + 0) ((at_pp _ _ _ _).trans rfl) rfl rfl (Nat.le_of_ble_eq_true rfl) dX9_init_27 ?_
  clear B
  intro H locs B
  replace B := Hp.to B (set_pp ..)
  replace B := Hp.to (ws' := ws ++ ([(h, .inr (9, [.ref q1, .ref q2, .ref q3, .null, .null, .int 0])), (q1, .inl (ct 0, 60, .inl (fun _ => 0))), (q2, .inl (ct 0, 60, .inl (fun _ => 0))), (q3, .inl (ct 4, 180, .inr (.inr (.inr (.inr (fun _ => none))))))] : va_W)) B rfl
  refine at_pc (n := 30) rfl ?_
  refine lv_aload_n E.1.1 E.1.2.1 dX9_init_30 rfl (lv_at hl 0 rfl) ?_
  refine lv_sipush (v := 480) E.1.1 E.1.2.1 dX9_init_31 (by decide) ?_
  refine row_newa (atype := .int) (a0 := (480, .inl (fun _ => 0))) E B w_e8e14353 rfl 0 rfl (fun _ => rfl) (by decide) (by decide) (Nat.le_of_ble_eq_true rfl) (Nat.le_of_ble_eq_true rfl) (Nat.le_of_ble_eq_true rfl) dX9_init_34 ?_
  clear B
  intro q4 H B
  refine at_n (n := 36) (k1 := 4) (k2 := 780) rfl rfl rfl ?_
  refine row_putF E B iX9 rfl tyX9 tyX9_ok nmX9 3 (by decide) w_6b77f456 rfl hnm rfl (ws.length + 0) ((at_pp _ _ _ _).trans rfl) rfl rfl (Nat.le_of_ble_eq_true rfl) dX9_init_36 ?_
  clear B
  intro H locs B
  replace B := Hp.to B (set_pp ..)
  replace B := Hp.to (ws' := ws ++ ([(h, .inr (9, [.ref q1, .ref q2, .ref q3, .ref q4, .null, .int 0])), (q1, .inl (ct 0, 60, .inl (fun _ => 0))), (q2, .inl (ct 0, 60, .inl (fun _ => 0))), (q3, .inl (ct 4, 180, .inr (.inr (.inr (.inr (fun _ => none)))))), (q4, .inl (ct 0, 480, .inl (fun _ => 0)))] : va_W)) B rfl
  refine at_pc (n := 39) rfl ?_
  refine lv_aload_n E.1.1 E.1.2.1 dX9_init_39 rfl (lv_at hl 0 rfl) ?_
  refine lv_sipush (v := 480) E.1.1 E.1.2.1 dX9_init_40 (by decide) ?_
  refine row_newa (atype := .int) (a0 := (480, .inl (fun _ => 0))) E B w_e8e14353 rfl 0 rfl (fun _ => rfl) (by decide) (by decide) (Nat.le_of_ble_eq_true rfl) (Nat.le_of_ble_eq_true rfl) (Nat.le_of_ble_eq_true rfl) dX9_init_43 ?_
  clear B
  intro q5 H B
  refine at_n (n := 45) (k1 := 5) (k2 := 1260) rfl rfl rfl ?_
  refine row_putF E B iX9 rfl tyX9 tyX9_ok nmX9 4 (by decide) w_6bfa585c rfl hnm rfl (ws.length + 0) ((at_pp _ _ _ _).trans rfl) rfl rfl (Nat.le_of_ble_eq_true rfl) dX9_init_45 ?_
  clear B
  intro H locs B
  replace B := Hp.to B (set_pp ..)
  replace B := Hp.to (ws' := ws ++ ([(h, .inr (9, [.ref q1, .ref q2, .ref q3, .ref q4, .ref q5, .int 0])), (q1, .inl (ct 0, 60, .inl (fun _ => 0))), (q2, .inl (ct 0, 60, .inl (fun _ => 0))), (q3, .inl (ct 4, 180, .inr (.inr (.inr (.inr (fun _ => none)))))), (q4, .inl (ct 0, 480, .inl (fun _ => 0))), (q5, .inl (ct 0, 480, .inl (fun _ => 0)))] : va_W)) B rfl
  refine at_pc (n := 48) rfl ?_
  exact ret_V (u := (fun k => ([q1, q2, q3, q4, q5] : List Nat).getD k 0)) E hr hlk B trivial dX9_init_48
def WI4 (ct : Nat → ClassId) (tN : Nat) (ws : va_W) (h : Nat)  (u : Nat → Nat) : va_W := ws ++ ([(h, .inr (4, [.ref (u 0), .ref (u 1), .ref (u 2), .int 0, .int 0, .int 0, .int 0, .int 0])), ((u 0), .inl (ct 0, 6, .inl (fun _ => 0))), ((u 1), .inl (ct 0, 6, .inl (fun _ => 0))), ((u 2), .inl (ct 0, 6, .inl (fun _ => 0)))] : va_W)
set_option maxHeartbeats 8000000 in
set_option maxRecDepth 100000 in
theorem init_X4 (l : Launch) (D : va_G) (ct : Nat → ClassId) (tN : Nat) (ws : va_W) (h : Nat)  : MV l D (TY ct) tN yX4_init cX4_init 1 ({ frames := 1, cells := 3, slots := 18, locals := 40 } : Room) [.ref h] (ws ++ ([(h, .inr (4, [.null, .null, .null, .int 0, .int 0, .int 0, .int 0, .int 0]))] : va_W)) (fun (u : Nat → Nat) => True) (WI4 ct tN ws h ) 3 18 := by
  intro sz
  refine Met.ofE (Qc := fun A => va_Qv (fun (u : Nat → Nat) => True) (BW D A (WI4 ct tN ws h )) A) (by decide) (Nat.le_of_ble_eq_true rfl) ?_
  intro p e s m args below meth c A ls hsz E hr hlk hnm B hl
  have hnm : "<init>" = meth.name := hnm
  replace hl : lv_has ls 1 [(0, .ref h)] := hl
  refine lv_aload_n E.1.1 E.1.2.1 dX4_init_0 rfl (lv_at hl 0 rfl) ?_
  refine row_obj E w_75e9fb45 w_08b13607 w_47dee913 hl dX4_init_1 (Nat.le_of_ble_eq_true rfl) (Nat.le_of_ble_eq_true rfl) ?_
  refine lv_aload_n E.1.1 E.1.2.1 dX4_init_4 rfl (lv_at hl 0 rfl) ?_
  refine lv_bipush (v := 6) E.1.1 E.1.2.1 dX4_init_5 (by decide) ?_
  refine row_newa (atype := .int) (a0 := (6, .inl (fun _ => 0))) E B w_e8e14353 rfl 0 rfl (fun _ => rfl) (by decide) (by decide) (Nat.le_of_ble_eq_true rfl) (Nat.le_of_ble_eq_true rfl) (Nat.le_of_ble_eq_true rfl) dX4_init_7 ?_
  clear B
  intro q1 H B
  refine at_n (n := 9) (k1 := 1) (k2 := 6) rfl rfl rfl ?_
  refine row_putF E B iX4 rfl tyX4 tyX4_ok nmX4 0 (by decide) w_c760e1e1 rfl hnm rfl (ws.length + 0) ((at_pp _ _ _ _).trans rfl) rfl rfl (Nat.le_of_ble_eq_true rfl) dX4_init_9 ?_
  clear B
  intro H locs B
  replace B := Hp.to B (set_pp ..)
  replace B := Hp.to (ws' := ws ++ ([(h, .inr (4, [.ref q1, .null, .null, .int 0, .int 0, .int 0, .int 0, .int 0])), (q1, .inl (ct 0, 6, .inl (fun _ => 0)))] : va_W)) B rfl
  refine at_pc (n := 12) rfl ?_
  refine lv_aload_n E.1.1 E.1.2.1 dX4_init_12 rfl (lv_at hl 0 rfl) ?_
  refine lv_bipush (v := 6) E.1.1 E.1.2.1 dX4_init_13 (by decide) ?_
  refine row_newa (atype := .int) (a0 := (6, .inl (fun _ => 0))) E B w_e8e14353 rfl 0 rfl (fun _ => rfl) (by decide) (by decide) (Nat.le_of_ble_eq_true rfl) (Nat.le_of_ble_eq_true rfl) (Nat.le_of_ble_eq_true rfl) dX4_init_15 ?_
  clear B
  intro q2 H B
  refine at_n (n := 17) (k1 := 2) (k2 := 12) rfl rfl rfl ?_
  refine row_putF E B iX4 rfl tyX4 tyX4_ok nmX4 1 (by decide) w_90b1f295 rfl hnm rfl (ws.length + 0) ((at_pp _ _ _ _).trans rfl) rfl rfl (Nat.le_of_ble_eq_true rfl) dX4_init_17 ?_
  clear B
  intro H locs B
  replace B := Hp.to B (set_pp ..)
  replace B := Hp.to (ws' := ws ++ ([(h, .inr (4, [.ref q1, .ref q2, .null, .int 0, .int 0, .int 0, .int 0, .int 0])), (q1, .inl (ct 0, 6, .inl (fun _ => 0))), (q2, .inl (ct 0, 6, .inl (fun _ => 0)))] : va_W)) B rfl
  refine at_pc (n := 20) rfl ?_
  refine lv_aload_n E.1.1 E.1.2.1 dX4_init_20 rfl (lv_at hl 0 rfl) ?_
  refine lv_bipush (v := 6) E.1.1 E.1.2.1 dX4_init_21 (by decide) ?_
  refine row_newa (atype := .int) (a0 := (6, .inl (fun _ => 0))) E B w_e8e14353 rfl 0 rfl (fun _ => rfl) (by decide) (by decide) (Nat.le_of_ble_eq_true rfl) (Nat.le_of_ble_eq_true rfl) (Nat.le_of_ble_eq_true rfl) dX4_init_23 ?_
  clear B
  intro q3 H B
  refine at_n (n := 25) (k1 := 3) (k2 := 18) rfl rfl rfl ?_
  refine row_putF E B iX4 rfl tyX4 tyX4_ok nmX4 2 (by decide) w_c80900b6 rfl hnm rfl (ws.length + 0) ((at_pp _ _ _ _).trans rfl) rfl rfl (Nat.le_of_ble_eq_true rfl) dX4_init_25 ?_
  clear B
  intro H locs B
  replace B := Hp.to B (set_pp ..)
  replace B := Hp.to (ws' := ws ++ ([(h, .inr (4, [.ref q1, .ref q2, .ref q3, .int 0, .int 0, .int 0, .int 0, .int 0])), (q1, .inl (ct 0, 6, .inl (fun _ => 0))), (q2, .inl (ct 0, 6, .inl (fun _ => 0))), (q3, .inl (ct 0, 6, .inl (fun _ => 0)))] : va_W)) B rfl
  refine at_pc (n := 28) rfl ?_
  exact ret_V (u := (fun k => ([q1, q2, q3] : List Nat).getD k 0)) E hr hlk B trivial dX4_init_28
def WI2 (ct : Nat → ClassId) (tN : Nat) (ws : va_W) (h : Nat)  (u : Nat → Nat) : va_W := ws ++ ([(h, .inr (2, [.ref (u 0), .ref (u 1), .ref (u 2), .ref (u 3), .ref (u 4), .ref (u 5), .ref (u 6), .ref (u 7), .ref (u 8), .ref (u 9), .int 0])), ((u 0), .inl (ct 4, 20, .inr (.inr (.inr (.inr (fun _ => none)))))), ((u 1), .inl (ct 0, 20, .inl (fun _ => 0))), ((u 2), .inl (ct 0, 20, .inl (fun _ => 0))), ((u 3), .inl (ct 0, 20, .inl (fun _ => 0))), ((u 4), .inl (ct 0, 20, .inl (fun _ => 0))), ((u 5), .inl (ct 0, 320, .inl (fun _ => 0))), ((u 6), .inl (ct 0, 320, .inl (fun _ => 0))), ((u 7), .inl (ct 0, 320, .inl (fun _ => 0))), ((u 8), .inl (ct 0, 320, .inl (fun _ => 0))), ((u 9), .inl (ct 0, 320, .inl (fun _ => 0)))] : va_W)
set_option maxHeartbeats 8000000 in
set_option maxRecDepth 100000 in
theorem init_X2 (l : Launch) (D : va_G) (ct : Nat → ClassId) (tN : Nat) (ws : va_W) (h : Nat)  : MV l D (TY ct) tN yX2_init cX2_init 1 ({ frames := 1, cells := 10, slots := 1700, locals := 40 } : Room) [.ref h] (ws ++ ([(h, .inr (2, [.null, .null, .null, .null, .null, .null, .null, .null, .null, .null, .int 0]))] : va_W)) (fun (u : Nat → Nat) => True) (WI2 ct tN ws h ) 10 1700 := by
  intro sz
  refine Met.ofE (Qc := fun A => va_Qv (fun (u : Nat → Nat) => True) (BW D A (WI2 ct tN ws h )) A) (by decide) (Nat.le_of_ble_eq_true rfl) ?_
  intro p e s m args below meth c A ls hsz E hr hlk hnm B hl
  have hnm : "<init>" = meth.name := hnm
  replace hl : lv_has ls 1 [(0, .ref h)] := hl
  refine lv_aload_n E.1.1 E.1.2.1 dX2_init_0 rfl (lv_at hl 0 rfl) ?_
  refine row_obj E w_e6c69430 w_08b13607 w_47dee913 hl dX2_init_1 (Nat.le_of_ble_eq_true rfl) (Nat.le_of_ble_eq_true rfl) ?_
  refine lv_aload_n E.1.1 E.1.2.1 dX2_init_4 rfl (lv_at hl 0 rfl) ?_
  refine lv_bipush (v := 20) E.1.1 E.1.2.1 dX2_init_5 (by decide) ?_
  refine row_newqa (N' := 20) E B w_c19cc847 (by decide) (by decide) (Nat.le_of_ble_eq_true rfl) (Nat.le_of_ble_eq_true rfl) (Nat.le_of_ble_eq_true rfl) dX2_init_7 ?_
  clear B
  intro q1 H B
  refine at_n (n := 10) (k1 := 1) (k2 := 20) rfl rfl rfl ?_
  refine row_putF E B iX2 rfl tyX2 tyX2_ok nmX2 0 (by decide) w_5cb89095 rfl hnm rfl (ws.length + 0) ((at_pp _ _ _ _).trans rfl) rfl rfl (Nat.le_of_ble_eq_true rfl) dX2_init_10 ?_
  clear B
  intro H locs B
  replace B := Hp.to B (set_pp ..)
  replace B := Hp.to (ws' := ws ++ ([(h, .inr (2, [.ref q1, .null, .null, .null, .null, .null, .null, .null, .null, .null, .int 0])), (q1, .inl (ct 4, 20, .inr (.inr (.inr (.inr (fun _ => none))))))] : va_W)) B rfl
  refine at_pc (n := 13) rfl ?_
  refine lv_aload_n E.1.1 E.1.2.1 dX2_init_13 rfl (lv_at hl 0 rfl) ?_
  refine lv_bipush (v := 20) E.1.1 E.1.2.1 dX2_init_14 (by decide) ?_
  refine row_newa (atype := .int) (a0 := (20, .inl (fun _ => 0))) E B w_e8e14353 rfl 0 rfl (fun _ => rfl) (by decide) (by decide) (Nat.le_of_ble_eq_true rfl) (Nat.le_of_ble_eq_true rfl) (Nat.le_of_ble_eq_true rfl) dX2_init_16 ?_
  clear B
  intro q2 H B
  refine at_n (n := 18) (k1 := 2) (k2 := 40) rfl rfl rfl ?_
  refine row_putF E B iX2 rfl tyX2 tyX2_ok nmX2 1 (by decide) w_e650a999 rfl hnm rfl (ws.length + 0) ((at_pp _ _ _ _).trans rfl) rfl rfl (Nat.le_of_ble_eq_true rfl) dX2_init_18 ?_
  clear B
  intro H locs B
  replace B := Hp.to B (set_pp ..)
  replace B := Hp.to (ws' := ws ++ ([(h, .inr (2, [.ref q1, .ref q2, .null, .null, .null, .null, .null, .null, .null, .null, .int 0])), (q1, .inl (ct 4, 20, .inr (.inr (.inr (.inr (fun _ => none)))))), (q2, .inl (ct 0, 20, .inl (fun _ => 0)))] : va_W)) B rfl
  refine at_pc (n := 21) rfl ?_
  refine lv_aload_n E.1.1 E.1.2.1 dX2_init_21 rfl (lv_at hl 0 rfl) ?_
  refine lv_bipush (v := 20) E.1.1 E.1.2.1 dX2_init_22 (by decide) ?_
  refine row_newa (atype := .int) (a0 := (20, .inl (fun _ => 0))) E B w_e8e14353 rfl 0 rfl (fun _ => rfl) (by decide) (by decide) (Nat.le_of_ble_eq_true rfl) (Nat.le_of_ble_eq_true rfl) (Nat.le_of_ble_eq_true rfl) dX2_init_24 ?_
  clear B
  intro q3 H B
  refine at_n (n := 26) (k1 := 3) (k2 := 60) rfl rfl rfl ?_
  refine row_putF E B iX2 rfl tyX2 tyX2_ok nmX2 2 (by decide) w_5eee2ffe rfl hnm rfl (ws.length + 0) ((at_pp _ _ _ _).trans rfl) rfl rfl (Nat.le_of_ble_eq_true rfl) dX2_init_26 ?_
  clear B
  intro H locs B
  replace B := Hp.to B (set_pp ..)
  replace B := Hp.to (ws' := ws ++ ([(h, .inr (2, [.ref q1, .ref q2, .ref q3, .null, .null, .null, .null, .null, .null, .null, .int 0])), (q1, .inl (ct 4, 20, .inr (.inr (.inr (.inr (fun _ => none)))))), (q2, .inl (ct 0, 20, .inl (fun _ => 0))), (q3, .inl (ct 0, 20, .inl (fun _ => 0)))] : va_W)) B rfl
  refine at_pc (n := 29) rfl ?_
  refine lv_aload_n E.1.1 E.1.2.1 dX2_init_29 rfl (lv_at hl 0 rfl) ?_
  refine lv_bipush (v := 20) E.1.1 E.1.2.1 dX2_init_30 (by decide) ?_
  refine row_newa (atype := .int) (a0 := (20, .inl (fun _ => 0))) E B w_e8e14353 rfl 0 rfl (fun _ => rfl) (by decide) (by decide) (Nat.le_of_ble_eq_true rfl) (Nat.le_of_ble_eq_true rfl) (Nat.le_of_ble_eq_true rfl) dX2_init_32 ?_
  clear B
  intro q4 H B
  refine at_n (n := 34) (k1 := 4) (k2 := 80) rfl rfl rfl ?_
  refine row_putF E B iX2 rfl tyX2 tyX2_ok nmX2 3 (by decide) w_7cd82864 rfl hnm rfl (ws.length + 0) ((at_pp _ _ _ _).trans rfl) rfl rfl (Nat.le_of_ble_eq_true rfl) dX2_init_34 ?_
  clear B
  intro H locs B
  replace B := Hp.to B (set_pp ..)
  replace B := Hp.to (ws' := ws ++ ([(h, .inr (2, [.ref q1, .ref q2, .ref q3, .ref q4, .null, .null, .null, .null, .null, .null, .int 0])), (q1, .inl (ct 4, 20, .inr (.inr (.inr (.inr (fun _ => none)))))), (q2, .inl (ct 0, 20, .inl (fun _ => 0))), (q3, .inl (ct 0, 20, .inl (fun _ => 0))), (q4, .inl (ct 0, 20, .inl (fun _ => 0)))] : va_W)) B rfl
  refine at_pc (n := 37) rfl ?_
  refine lv_aload_n E.1.1 E.1.2.1 dX2_init_37 rfl (lv_at hl 0 rfl) ?_
  refine lv_bipush (v := 20) E.1.1 E.1.2.1 dX2_init_38 (by decide) ?_
  refine row_newa (atype := .int) (a0 := (20, .inl (fun _ => 0))) E B w_e8e14353 rfl 0 rfl (fun _ => rfl) (by decide) (by decide) (Nat.le_of_ble_eq_true rfl) (Nat.le_of_ble_eq_true rfl) (Nat.le_of_ble_eq_true rfl) dX2_init_40 ?_
  clear B
  intro q5 H B
  refine at_n (n := 42) (k1 := 5) (k2 := 100) rfl rfl rfl ?_
  refine row_putF E B iX2 rfl tyX2 tyX2_ok nmX2 4 (by decide) w_34d9f0fc rfl hnm rfl (ws.length + 0) ((at_pp _ _ _ _).trans rfl) rfl rfl (Nat.le_of_ble_eq_true rfl) dX2_init_42 ?_
  clear B
  intro H locs B
  replace B := Hp.to B (set_pp ..)
  replace B := Hp.to (ws' := ws ++ ([(h, .inr (2, [.ref q1, .ref q2, .ref q3, .ref q4, .ref q5, .null, .null, .null, .null, .null, .int 0])), (q1, .inl (ct 4, 20, .inr (.inr (.inr (.inr (fun _ => none)))))), (q2, .inl (ct 0, 20, .inl (fun _ => 0))), (q3, .inl (ct 0, 20, .inl (fun _ => 0))), (q4, .inl (ct 0, 20, .inl (fun _ => 0))), (q5, .inl (ct 0, 20, .inl (fun _ => 0)))] : va_W)) B rfl
  refine at_pc (n := 45) rfl ?_
  refine lv_aload_n E.1.1 E.1.2.1 dX2_init_45 rfl (lv_at hl 0 rfl) ?_
  refine lv_sipush (v := 320) E.1.1 E.1.2.1 dX2_init_46 (by decide) ?_
  refine row_newa (atype := .int) (a0 := (320, .inl (fun _ => 0))) E B w_e8e14353 rfl 0 rfl (fun _ => rfl) (by decide) (by decide) (Nat.le_of_ble_eq_true rfl) (Nat.le_of_ble_eq_true rfl) (Nat.le_of_ble_eq_true rfl) dX2_init_49 ?_
  clear B
  intro q6 H B
  refine at_n (n := 51) (k1 := 6) (k2 := 420) rfl rfl rfl ?_
  refine row_putF E B iX2 rfl tyX2 tyX2_ok nmX2 5 (by decide) w_97e31d16 rfl hnm rfl (ws.length + 0) ((at_pp _ _ _ _).trans rfl) rfl rfl (Nat.le_of_ble_eq_true rfl) dX2_init_51 ?_
  clear B
  intro H locs B
  replace B := Hp.to B (set_pp ..)
  replace B := Hp.to (ws' := ws ++ ([(h, .inr (2, [.ref q1, .ref q2, .ref q3, .ref q4, .ref q5, .ref q6, .null, .null, .null, .null, .int 0])), (q1, .inl (ct 4, 20, .inr (.inr (.inr (.inr (fun _ => none)))))), (q2, .inl (ct 0, 20, .inl (fun _ => 0))), (q3, .inl (ct 0, 20, .inl (fun _ => 0))), (q4, .inl (ct 0, 20, .inl (fun _ => 0))), (q5, .inl (ct 0, 20, .inl (fun _ => 0))), (q6, .inl (ct 0, 320, .inl (fun _ => 0)))] : va_W)) B rfl
  refine at_pc (n := 54) rfl ?_
  refine lv_aload_n E.1.1 E.1.2.1 dX2_init_54 rfl (lv_at hl 0 rfl) ?_
  refine lv_sipush (v := 320) E.1.1 E.1.2.1 dX2_init_55 (by decide) ?_
  refine row_newa (atype := .int) (a0 := (320, .inl (fun _ => 0))) E B w_e8e14353 rfl 0 rfl (fun _ => rfl) (by decide) (by decide) (Nat.le_of_ble_eq_true rfl) (Nat.le_of_ble_eq_true rfl) (Nat.le_of_ble_eq_true rfl) dX2_init_58 ?_
  clear B
  intro q7 H B
  refine at_n (n := 60) (k1 := 7) (k2 := 740) rfl rfl rfl ?_
  refine row_putF E B iX2 rfl tyX2 tyX2_ok nmX2 6 (by decide) w_6fa20ebf rfl hnm rfl (ws.length + 0) ((at_pp _ _ _ _).trans rfl) rfl rfl (Nat.le_of_ble_eq_true rfl) dX2_init_60 ?_
  clear B
  intro H locs B
  replace B := Hp.to B (set_pp ..)
  replace B := Hp.to (ws' := ws ++ ([(h, .inr (2, [.ref q1, .ref q2, .ref q3, .ref q4, .ref q5, .ref q6, .ref q7, .null, .null, .null, .int 0])), (q1, .inl (ct 4, 20, .inr (.inr (.inr (.inr (fun _ => none)))))), (q2, .inl (ct 0, 20, .inl (fun _ => 0))), (q3, .inl (ct 0, 20, .inl (fun _ => 0))), (q4, .inl (ct 0, 20, .inl (fun _ => 0))), (q5, .inl (ct 0, 20, .inl (fun _ => 0))), (q6, .inl (ct 0, 320, .inl (fun _ => 0))), (q7, .inl (ct 0, 320, .inl (fun _ => 0)))] : va_W)) B rfl
  refine at_pc (n := 63) rfl ?_
  refine lv_aload_n E.1.1 E.1.2.1 dX2_init_63 rfl (lv_at hl 0 rfl) ?_
  refine lv_sipush (v := 320) E.1.1 E.1.2.1 dX2_init_64 (by decide) ?_
  refine row_newa (atype := .int) (a0 := (320, .inl (fun _ => 0))) E B w_e8e14353 rfl 0 rfl (fun _ => rfl) (by decide) (by decide) (Nat.le_of_ble_eq_true rfl) (Nat.le_of_ble_eq_true rfl) (Nat.le_of_ble_eq_true rfl) dX2_init_67 ?_
  clear B
  intro q8 H B
  refine at_n (n := 69) (k1 := 8) (k2 := 1060) rfl rfl rfl ?_
  refine row_putF E B iX2 rfl tyX2 tyX2_ok nmX2 7 (by decide) w_12ca7cad rfl hnm rfl (ws.length + 0) ((at_pp _ _ _ _).trans rfl) rfl rfl (Nat.le_of_ble_eq_true rfl) dX2_init_69 ?_
  clear B
  intro H locs B
  replace B := Hp.to B (set_pp ..)
  replace B := Hp.to (ws' := ws ++ ([(h, .inr (2, [.ref q1, .ref q2, .ref q3, .ref q4, .ref q5, .ref q6, .ref q7, .ref q8, .null, .null, .int 0])), (q1, .inl (ct 4, 20, .inr (.inr (.inr (.inr (fun _ => none)))))), (q2, .inl (ct 0, 20, .inl (fun _ => 0))), (q3, .inl (ct 0, 20, .inl (fun _ => 0))), (q4, .inl (ct 0, 20, .inl (fun _ => 0))), (q5, .inl (ct 0, 20, .inl (fun _ => 0))), (q6, .inl (ct 0, 320, .inl (fun _ => 0))), (q7, .inl (ct 0, 320, .inl (fun _ => 0))), (q8, .inl (ct 0, 320, .inl (fun _ => 0)))] : va_W)) B rfl
  refine at_pc (n := 72) rfl ?_
  refine lv_aload_n E.1.1 E.1.2.1 dX2_init_72 rfl (lv_at hl 0 rfl) ?_
  refine lv_sipush (v := 320) E.1.1 E.1.2.1 dX2_init_73 (by decide) ?_
  refine row_newa (atype := .int) (a0 := (320, .inl (fun _ => 0))) E B w_e8e14353 rfl 0 rfl (fun _ => rfl) (by decide) (by decide) (Nat.le_of_ble_eq_true rfl) (Nat.le_of_ble_eq_true rfl) (Nat.le_of_ble_eq_true rfl) dX2_init_76 ?_
  clear B
  intro q9 H B
  refine at_n (n := 78) (k1 := 9) (k2 := 1380) rfl rfl rfl ?_
  refine row_putF E B iX2 rfl tyX2 tyX2_ok nmX2 8 (by decide) w_be759ffd rfl hnm rfl (ws.length + 0) ((at_pp _ _ _ _).trans rfl) rfl rfl (Nat.le_of_ble_eq_true rfl) dX2_init_78 ?_
  clear B
  intro H locs B
  replace B := Hp.to B (set_pp ..)
  replace B := Hp.to (ws' := ws ++ ([(h, .inr (2, [.ref q1, .ref q2, .ref q3, .ref q4, .ref q5, .ref q6, .ref q7, .ref q8, .ref q9, .null, .int 0])), (q1, .inl (ct 4, 20, .inr (.inr (.inr (.inr (fun _ => none)))))), (q2, .inl (ct 0, 20, .inl (fun _ => 0))), (q3, .inl (ct 0, 20, .inl (fun _ => 0))), (q4, .inl (ct 0, 20, .inl (fun _ => 0))), (q5, .inl (ct 0, 20, .inl (fun _ => 0))), (q6, .inl (ct 0, 320, .inl (fun _ => 0))), (q7, .inl (ct 0, 320, .inl (fun _ => 0))), (q8, .inl (ct 0, 320, .inl (fun _ => 0))), (q9, .inl (ct 0, 320, .inl (fun _ => 0)))] : va_W)) B rfl
  refine at_pc (n := 81) rfl ?_
  refine lv_aload_n E.1.1 E.1.2.1 dX2_init_81 rfl (lv_at hl 0 rfl) ?_
  refine lv_sipush (v := 320) E.1.1 E.1.2.1 dX2_init_82 (by decide) ?_
  refine row_newa (atype := .int) (a0 := (320, .inl (fun _ => 0))) E B w_e8e14353 rfl 0 rfl (fun _ => rfl) (by decide) (by decide) (Nat.le_of_ble_eq_true rfl) (Nat.le_of_ble_eq_true rfl) (Nat.le_of_ble_eq_true rfl) dX2_init_85 ?_
  clear B
  intro q10 H B
  refine at_n (n := 87) (k1 := 10) (k2 := 1700) rfl rfl rfl ?_
  refine row_putF E B iX2 rfl tyX2 tyX2_ok nmX2 9 (by decide) w_fb971f2f rfl hnm rfl (ws.length + 0) ((at_pp _ _ _ _).trans rfl) rfl rfl (Nat.le_of_ble_eq_true rfl) dX2_init_87 ?_
  clear B
  intro H locs B
  replace B := Hp.to B (set_pp ..)
  replace B := Hp.to (ws' := ws ++ ([(h, .inr (2, [.ref q1, .ref q2, .ref q3, .ref q4, .ref q5, .ref q6, .ref q7, .ref q8, .ref q9, .ref q10, .int 0])), (q1, .inl (ct 4, 20, .inr (.inr (.inr (.inr (fun _ => none)))))), (q2, .inl (ct 0, 20, .inl (fun _ => 0))), (q3, .inl (ct 0, 20, .inl (fun _ => 0))), (q4, .inl (ct 0, 20, .inl (fun _ => 0))), (q5, .inl (ct 0, 20, .inl (fun _ => 0))), (q6, .inl (ct 0, 320, .inl (fun _ => 0))), (q7, .inl (ct 0, 320, .inl (fun _ => 0))), (q8, .inl (ct 0, 320, .inl (fun _ => 0))), (q9, .inl (ct 0, 320, .inl (fun _ => 0))), (q10, .inl (ct 0, 320, .inl (fun _ => 0)))] : va_W)) B rfl
  refine at_pc (n := 90) rfl ?_
  exact ret_V (u := (fun k => ([q1, q2, q3, q4, q5, q6, q7, q8, q9, q10] : List Nat).getD k 0)) E hr hlk B trivial dX2_init_90
def WI8 (ct : Nat → ClassId) (tN : Nat) (ws : va_W) (h : Nat)  (u : Nat → Nat) : va_W := ws ++ ([(h, .inr (8, [.ref (u 0), .ref (u 1), .ref (u 2), .ref (u 3), .ref (u 4), .int 0, .int 0])), ((u 0), .inl (ct 5, 200, .inr (.inr (.inr (.inr (fun _ => none)))))), ((u 1), .inl (ct 0, 60, .inl (fun _ => -1))), ((u 2), .inl (ct 0, 1024, .inl (fun _ => 0))), ((u 3), .inl (ct 0, 1024, .inl (fun _ => 0))), ((u 4), .inl (ct 0, 1024, .inl (fun _ => 0)))] : va_W)
set_option maxHeartbeats 8000000 in
set_option maxRecDepth 100000 in
theorem init_X8 (l : Launch) (D : va_G) (ct : Nat → ClassId) (tN : Nat) (ws : va_W) (h : Nat)  : MV l D (TY ct) tN yX8_init cX8_init 2 ({ frames := 1, cells := 5, slots := 3332, locals := 40 } : Room) [.ref h] (ws ++ ([(h, .inr (8, [.null, .null, .null, .null, .null, .int 0, .int 0]))] : va_W)) (fun (u : Nat → Nat) => True) (WI8 ct tN ws h ) 5 3332 := by
  intro sz
  refine Met.ofE (Qc := fun A => va_Qv (fun (u : Nat → Nat) => True) (BW D A (WI8 ct tN ws h )) A) (by decide) (Nat.le_of_ble_eq_true rfl) ?_
  intro p e s m args below meth c A ls hsz E hr hlk hnm B hl
  have hnm : "<init>" = meth.name := hnm
  replace hl : lv_has ls 2 [(0, .ref h)] := hl
  refine lv_aload_n E.1.1 E.1.2.1 dX8_init_0 rfl (lv_at hl 0 rfl) ?_
  refine row_obj E w_32b2fac3 w_08b13607 w_47dee913 hl dX8_init_1 (Nat.le_of_ble_eq_true rfl) (Nat.le_of_ble_eq_true rfl) ?_
  refine lv_aload_n E.1.1 E.1.2.1 dX8_init_4 rfl (lv_at hl 0 rfl) ?_
  refine lv_sipush (v := 200) E.1.1 E.1.2.1 dX8_init_5 (by decide) ?_
  refine row_newq (N' := 200) E B w_a03202bd (by decide) (by decide) (Nat.le_of_ble_eq_true rfl) (Nat.le_of_ble_eq_true rfl) (Nat.le_of_ble_eq_true rfl) dX8_init_8 ?_
  clear B
  intro q1 H B
  refine at_n (n := 11) (k1 := 1) (k2 := 200) rfl rfl rfl ?_
  refine row_putF E B iX8 rfl tyX8 tyX8_ok nmX8 0 (by decide) w_afa4c6de rfl hnm rfl (ws.length + 0) ((at_pp _ _ _ _).trans rfl) rfl rfl (Nat.le_of_ble_eq_true rfl) dX8_init_11 ?_
  clear B
  intro H locs B
  replace B := Hp.to B (set_pp ..)
  replace B := Hp.to (ws' := ws ++ ([(h, .inr (8, [.ref q1, .null, .null, .null, .null, .int 0, .int 0])), (q1, .inl (ct 5, 200, .inr (.inr (.inr (.inr (fun _ => none))))))] : va_W)) B rfl
  refine at_pc (n := 14) rfl ?_
  refine lv_aload_n E.1.1 E.1.2.1 dX8_init_14 rfl (lv_at hl 0 rfl) ?_
  refine lv_bipush (v := 60) E.1.1 E.1.2.1 dX8_init_15 (by decide) ?_
  refine row_newa (atype := .int) (a0 := (60, .inl (fun _ => 0))) E B w_e8e14353 rfl 0 rfl (fun _ => rfl) (by decide) (by decide) (Nat.le_of_ble_eq_true rfl) (Nat.le_of_ble_eq_true rfl) (Nat.le_of_ble_eq_true rfl) dX8_init_17 ?_
  clear B
  intro q2 H B
  refine at_n (n := 19) (k1 := 2) (k2 := 260) rfl rfl rfl ?_
  refine row_putF E B iX8 rfl tyX8 tyX8_ok nmX8 1 (by decide) w_9c6a6298 rfl hnm rfl (ws.length + 0) ((at_pp _ _ _ _).trans rfl) rfl rfl (Nat.le_of_ble_eq_true rfl) dX8_init_19 ?_
  clear B
  intro H locs B
  replace B := Hp.to B (set_pp ..)
  replace B := Hp.to (ws' := ws ++ ([(h, .inr (8, [.ref q1, .ref q2, .null, .null, .null, .int 0, .int 0])), (q1, .inl (ct 5, 200, .inr (.inr (.inr (.inr (fun _ => none)))))), (q2, .inl (ct 0, 60, .inl (fun _ => 0)))] : va_W)) B rfl
  refine at_pc (n := 22) rfl ?_
  refine lv_aload_n E.1.1 E.1.2.1 dX8_init_22 rfl (lv_at hl 0 rfl) ?_
  refine lv_sipush (v := 1024) E.1.1 E.1.2.1 dX8_init_23 (by decide) ?_
  refine row_newa (atype := .int) (a0 := (1024, .inl (fun _ => 0))) E B w_e8e14353 rfl 0 rfl (fun _ => rfl) (by decide) (by decide) (Nat.le_of_ble_eq_true rfl) (Nat.le_of_ble_eq_true rfl) (Nat.le_of_ble_eq_true rfl) dX8_init_26 ?_
  clear B
  intro q3 H B
  refine at_n (n := 28) (k1 := 3) (k2 := 1284) rfl rfl rfl ?_
  refine row_putF E B iX8 rfl tyX8 tyX8_ok nmX8 2 (by decide) w_3a8d2a7b rfl hnm rfl (ws.length + 0) ((at_pp _ _ _ _).trans rfl) rfl rfl (Nat.le_of_ble_eq_true rfl) dX8_init_28 ?_
  clear B
  intro H locs B
  replace B := Hp.to B (set_pp ..)
  replace B := Hp.to (ws' := ws ++ ([(h, .inr (8, [.ref q1, .ref q2, .ref q3, .null, .null, .int 0, .int 0])), (q1, .inl (ct 5, 200, .inr (.inr (.inr (.inr (fun _ => none)))))), (q2, .inl (ct 0, 60, .inl (fun _ => 0))), (q3, .inl (ct 0, 1024, .inl (fun _ => 0)))] : va_W)) B rfl
  refine at_pc (n := 31) rfl ?_
  refine lv_aload_n E.1.1 E.1.2.1 dX8_init_31 rfl (lv_at hl 0 rfl) ?_
  refine lv_sipush (v := 1024) E.1.1 E.1.2.1 dX8_init_32 (by decide) ?_
  refine row_newa (atype := .int) (a0 := (1024, .inl (fun _ => 0))) E B w_e8e14353 rfl 0 rfl (fun _ => rfl) (by decide) (by decide) (Nat.le_of_ble_eq_true rfl) (Nat.le_of_ble_eq_true rfl) (Nat.le_of_ble_eq_true rfl) dX8_init_35 ?_
  clear B
  intro q4 H B
  refine at_n (n := 37) (k1 := 4) (k2 := 2308) rfl rfl rfl ?_
  refine row_putF E B iX8 rfl tyX8 tyX8_ok nmX8 3 (by decide) w_be58cb4c rfl hnm rfl (ws.length + 0) ((at_pp _ _ _ _).trans rfl) rfl rfl (Nat.le_of_ble_eq_true rfl) dX8_init_37 ?_
  clear B
  intro H locs B
  replace B := Hp.to B (set_pp ..)
  replace B := Hp.to (ws' := ws ++ ([(h, .inr (8, [.ref q1, .ref q2, .ref q3, .ref q4, .null, .int 0, .int 0])), (q1, .inl (ct 5, 200, .inr (.inr (.inr (.inr (fun _ => none)))))), (q2, .inl (ct 0, 60, .inl (fun _ => 0))), (q3, .inl (ct 0, 1024, .inl (fun _ => 0))), (q4, .inl (ct 0, 1024, .inl (fun _ => 0)))] : va_W)) B rfl
  refine at_pc (n := 40) rfl ?_
  refine lv_aload_n E.1.1 E.1.2.1 dX8_init_40 rfl (lv_at hl 0 rfl) ?_
  refine lv_sipush (v := 1024) E.1.1 E.1.2.1 dX8_init_41 (by decide) ?_
  refine row_newa (atype := .int) (a0 := (1024, .inl (fun _ => 0))) E B w_e8e14353 rfl 0 rfl (fun _ => rfl) (by decide) (by decide) (Nat.le_of_ble_eq_true rfl) (Nat.le_of_ble_eq_true rfl) (Nat.le_of_ble_eq_true rfl) dX8_init_44 ?_
  clear B
  intro q5 H B
  refine at_n (n := 46) (k1 := 5) (k2 := 3332) rfl rfl rfl ?_
  refine row_putF E B iX8 rfl tyX8 tyX8_ok nmX8 4 (by decide) w_ed8fc5d0 rfl hnm rfl (ws.length + 0) ((at_pp _ _ _ _).trans rfl) rfl rfl (Nat.le_of_ble_eq_true rfl) dX8_init_46 ?_
  clear B
  intro H locs B
  replace B := Hp.to B (set_pp ..)
  replace B := Hp.to (ws' := ws ++ ([(h, .inr (8, [.ref q1, .ref q2, .ref q3, .ref q4, .ref q5, .int 0, .int 0])), (q1, .inl (ct 5, 200, .inr (.inr (.inr (.inr (fun _ => none)))))), (q2, .inl (ct 0, 60, .inl (fun _ => 0))), (q3, .inl (ct 0, 1024, .inl (fun _ => 0))), (q4, .inl (ct 0, 1024, .inl (fun _ => 0))), (q5, .inl (ct 0, 1024, .inl (fun _ => 0)))] : va_W)) B rfl
  refine at_pc (n := 49) rfl ?_
  refine lv_iconst (v := 0) E.1.1 E.1.2.1 dX8_init_49 (by decide) ?_
  refine lv_istore_n (lv' := [(1, .int (0 : Int32)), (0, .ref h)]) E.1.1 E.1.2.1 dX8_init_50 rfl hl (by decide) rfl ?_
  clear hl
  intro ls hl
  have lp : ∀ (n : Nat) (i : Int32) (f : Nat → Int32) (H : Heap) (locs : List Loc) (ls : Array Slot), 0 ≤ i.toInt → i.toInt ≤ 60 → 61 ≤ i.toInt + (n : Int) → (∀ j : Nat, (j : Int) < i.toInt → f j = -1) → Hp D A s.heap (ws ++ ([(h, .inr (8, [.ref q1, .ref q2, .ref q3, .ref q4, .ref q5, .int 0, .int 0])), (q1, .inl (ct 5, 200, .inr (.inr (.inr (.inr (fun _ => none)))))), (q2, .inl (ct 0, 60, .inl f)), (q3, .inl (ct 0, 1024, .inl (fun _ => 0))), (q4, .inl (ct 0, 1024, .inl (fun _ => 0))), (q5, .inl (ct 0, 1024, .inl (fun _ => 0)))] : va_W)) H locs → lv_has ls 2 [(1, .int i), (0, .ref h)] → W p l e ({ frames := 1, cells := 5, slots := 3332, locals := 40 } : Room) s m args below meth c H locs 5 3332 (MQ below (va_Qv (fun (u : Nat → Nat) => True) (BW D A (WI8 ct tN ws h )) A) args s 5 3332 A) (F0 m 51 ls []) := by
    intro n
    induction n with
    | zero => intro i f H locs ls lo1 lo2 lo3; exfalso; omega
    | succ n ih =>
      intro i f H locs ls lo1 lo2 lo3 hf B hl
      refine lv_iload_n E.1.1 E.1.2.1 dX8_init_51 rfl (lv_at hl 0 rfl) ?_
      refine lv_bipush (v := 60) E.1.1 E.1.2.1 dX8_init_52 (by decide) ?_
      refine c_ge (tgt := 70) E rfl tI_60 dX8_init_54 (by decide) (fun cc => ?_) (fun cc => ?_)
      · have B := Hp.arr B 2 (g := fun _ => -1) rfl (fun j hj => hf j (by omega))
        replace B := Hp.to (ws' := ws ++ ([(h, .inr (8, [.ref q1, .ref q2, .ref q3, .ref q4, .ref q5, .int 0, .int 0])), (q1, .inl (ct 5, 200, .inr (.inr (.inr (.inr (fun _ => none)))))), (q2, .inl (ct 0, 60, .inl (fun _ => -1))), (q3, .inl (ct 0, 1024, .inl (fun _ => 0))), (q4, .inl (ct 0, 1024, .inl (fun _ => 0))), (q5, .inl (ct 0, 1024, .inl (fun _ => 0)))] : va_W)) B rfl
        exact ret_V (u := (fun k => ([q1, q2, q3, q4, q5] : List Nat).getD k 0)) E hr hlk B trivial dX8_init_70
      · refine lv_aload_n E.1.1 E.1.2.1 dX8_init_57 rfl (lv_at hl 1 rfl) ?_
        refine row_get (v := .ref q2) E B iX8 rfl 1 (by decide) w_9c6a6298 (ws.length + 0) ((at_p _ _ _).trans rfl) rfl dX8_init_58 ?_
        refine lv_iload_n E.1.1 E.1.2.1 dX8_init_61 rfl (lv_at hl 0 rfl) ?_
        refine lv_iconst (v := -1) E.1.1 E.1.2.1 dX8_init_62 (by decide) ?_
        refine row_iast E B (ws.length + 2) ((at_p _ _ _).trans rfl) (vp_of rfl (by omega) (by omega)) dX8_init_63 ?_
        clear B
        intro H locs B
        replace B := Hp.to B (set_p ..)
        replace B := Hp.to (ws' := ws ++ ([(h, .inr (8, [.ref q1, .ref q2, .ref q3, .ref q4, .ref q5, .int 0, .int 0])), (q1, .inl (ct 5, 200, .inr (.inr (.inr (.inr (fun _ => none)))))), (q2, .inl (ct 0, 60, .inl (upd f i.toNatClampNeg (-1)))), (q3, .inl (ct 0, 1024, .inl (fun _ => 0))), (q4, .inl (ct 0, 1024, .inl (fun _ => 0))), (q5, .inl (ct 0, 1024, .inl (fun _ => 0)))] : va_W)) B rfl
        refine i_inc (k := 0) E rfl (by decide) (by omega) (by omega) dX8_init_64 hl rfl (by decide) (fun z ls ez hl => ?_)
        replace hl : lv_has ls 2 [(1, .int z), (0, .ref h)] := hl
        refine lv_goto (tgt := 51) E.1.1 E.1.2.1 dX8_init_67 (by decide) ?_
        exact ih z _ _ _ _ (by omega) (by omega) (by omega) (by rw [ez]; exact fill_step hf rfl lo1) B hl
  exact lp 61 0 _ _ _ _ (by decide) (by decide) (by decide) (fun j hj => by have := tI_0; omega) B hl
def WI3 (ct : Nat → ClassId) (tN : Nat) (ws : va_W) (h : Nat) (x0 : Nat) (u : Nat → Nat) : va_W := ws ++ ([(h, .inr (3, [.ref x0, .ref tN, .int 0, .int 0, .int 0, .int 0, .int 0]))] : va_W)
set_option maxHeartbeats 8000000 in
set_option maxRecDepth 100000 in
theorem init_X3 (l : Launch) (D : va_G) (ct : Nat → ClassId) (tN : Nat) (ws : va_W) (h : Nat) (x0 : Nat) : MV l D (TY ct) tN yX3_init cX3_init 2 ({ frames := 1, cells := 0, slots := 0, locals := 40 } : Room) [.ref h, .ref x0] (ws ++ ([(h, .inr (3, [.null, .null, .int 0, .int 0, .int 0, .int 0, .int 0]))] : va_W)) (fun (u : Nat → Nat) => True) (WI3 ct tN ws h x0) 0 0 := by
  intro sz
  refine Met.ofE (Qc := fun A => va_Qv (fun (u : Nat → Nat) => True) (BW D A (WI3 ct tN ws h x0)) A) (by decide) (Nat.le_of_ble_eq_true rfl) ?_
  intro p e s m args below meth c A ls hsz E hr hlk hnm B hl
  have hnm : "<init>" = meth.name := hnm
  replace hl : lv_has ls 2 [(0, .ref h), (1, .ref x0)] := hl
  refine lv_aload_n E.1.1 E.1.2.1 dX3_init_0 rfl (lv_at hl 0 rfl) ?_
  refine row_obj E w_a79ac0d6 w_08b13607 w_47dee913 hl dX3_init_1 (Nat.le_of_ble_eq_true rfl) (Nat.le_of_ble_eq_true rfl) ?_
  refine lv_aload_n E.1.1 E.1.2.1 dX3_init_4 rfl (lv_at hl 0 rfl) ?_
  refine row_nothing E B (by decide +kernel) dX3_init_5 ?_
  refine row_put E B iX3 rfl tyX3 tyX3_ok nmX3 1 (by decide) w_9f7f29b8 rfl (ws.length + 0) ((at_p _ _ _).trans rfl) rfl rfl (Nat.le_of_ble_eq_true rfl) dX3_init_8 ?_
  clear B
  intro H locs B
  replace B := Hp.to B (set_p ..)
  replace B := Hp.to (ws' := ws ++ ([(h, .inr (3, [.null, .ref tN, .int 0, .int 0, .int 0, .int 0, .int 0]))] : va_W)) B rfl
  refine at_pc (n := 11) rfl ?_
  refine lv_aload_n E.1.1 E.1.2.1 dX3_init_11 rfl (lv_at hl 0 rfl) ?_
  refine lv_aload_n E.1.1 E.1.2.1 dX3_init_12 rfl (lv_at hl 1 rfl) ?_
  refine row_putF E B iX3 rfl tyX3 tyX3_ok nmX3 0 (by decide) w_bdb836f1 rfl hnm rfl (ws.length + 0) ((at_p _ _ _).trans rfl) rfl rfl (Nat.le_of_ble_eq_true rfl) dX3_init_13 ?_
  clear B
  intro H locs B
  replace B := Hp.to B (set_p ..)
  replace B := Hp.to (ws' := ws ++ ([(h, .inr (3, [.ref x0, .ref tN, .int 0, .int 0, .int 0, .int 0, .int 0]))] : va_W)) B rfl
  refine at_pc (n := 16) rfl ?_
  exact ret_V (u := (fun k => ([] : List Nat).getD k 0)) E hr hlk B trivial dX3_init_16
def WI6 (ct : Nat → ClassId) (tN : Nat) (ws : va_W) (h : Nat) (x0 : Nat) (x1 : Nat) (x2 : Nat) (u : Nat → Nat) : va_W := ws ++ ([(h, .inr (6, [.ref x0, .ref x1, .ref x2, .int 0, .int 0, .int 0, .int 0, .int 0, .int 0, .int 0, .int 0, .ref tN, .int 0, .int 0]))] : va_W)
set_option maxHeartbeats 8000000 in
set_option maxRecDepth 100000 in
theorem init_X6 (l : Launch) (D : va_G) (ct : Nat → ClassId) (tN : Nat) (ws : va_W) (h : Nat) (x0 : Nat) (x1 : Nat) (x2 : Nat) : MV l D (TY ct) tN yX6_init cX6_init 4 ({ frames := 1, cells := 0, slots := 0, locals := 40 } : Room) [.ref h, .ref x0, .ref x1, .ref x2] (ws ++ ([(h, .inr (6, [.null, .null, .null, .int 0, .int 0, .int 0, .int 0, .int 0, .int 0, .int 0, .int 0, .null, .int 0, .int 0]))] : va_W)) (fun (u : Nat → Nat) => True) (WI6 ct tN ws h x0 x1 x2) 0 0 := by
  intro sz
  refine Met.ofE (Qc := fun A => va_Qv (fun (u : Nat → Nat) => True) (BW D A (WI6 ct tN ws h x0 x1 x2)) A) (by decide) (Nat.le_of_ble_eq_true rfl) ?_
  intro p e s m args below meth c A ls hsz E hr hlk hnm B hl
  have hnm : "<init>" = meth.name := hnm
  replace hl : lv_has ls 4 [(0, .ref h), (1, .ref x0), (2, .ref x1), (3, .ref x2)] := hl
  refine lv_aload_n E.1.1 E.1.2.1 dX6_init_0 rfl (lv_at hl 0 rfl) ?_
  refine row_obj E w_b885d245 w_08b13607 w_47dee913 hl dX6_init_1 (Nat.le_of_ble_eq_true rfl) (Nat.le_of_ble_eq_true rfl) ?_
  refine lv_aload_n E.1.1 E.1.2.1 dX6_init_4 rfl (lv_at hl 0 rfl) ?_
  refine row_nothing E B (by decide +kernel) dX6_init_5 ?_
  refine row_put E B iX6 rfl tyX6 tyX6_ok nmX6 11 (by decide) w_2cfa9111 rfl (ws.length + 0) ((at_p _ _ _).trans rfl) rfl rfl (Nat.le_of_ble_eq_true rfl) dX6_init_8 ?_
  clear B
  intro H locs B
  replace B := Hp.to B (set_p ..)
  replace B := Hp.to (ws' := ws ++ ([(h, .inr (6, [.null, .null, .null, .int 0, .int 0, .int 0, .int 0, .int 0, .int 0, .int 0, .int 0, .ref tN, .int 0, .int 0]))] : va_W)) B rfl
  refine at_pc (n := 11) rfl ?_
  refine lv_aload_n E.1.1 E.1.2.1 dX6_init_11 rfl (lv_at hl 0 rfl) ?_
  refine lv_aload_n E.1.1 E.1.2.1 dX6_init_12 rfl (lv_at hl 1 rfl) ?_
  refine row_putF E B iX6 rfl tyX6 tyX6_ok nmX6 0 (by decide) w_2f6499f1 rfl hnm rfl (ws.length + 0) ((at_p _ _ _).trans rfl) rfl rfl (Nat.le_of_ble_eq_true rfl) dX6_init_13 ?_
  clear B
  intro H locs B
  replace B := Hp.to B (set_p ..)
  replace B := Hp.to (ws' := ws ++ ([(h, .inr (6, [.ref x0, .null, .null, .int 0, .int 0, .int 0, .int 0, .int 0, .int 0, .int 0, .int 0, .ref tN, .int 0, .int 0]))] : va_W)) B rfl
  refine at_pc (n := 16) rfl ?_
  refine lv_aload_n E.1.1 E.1.2.1 dX6_init_16 rfl (lv_at hl 0 rfl) ?_
  refine lv_aload_n E.1.1 E.1.2.1 dX6_init_17 rfl (lv_at hl 2 rfl) ?_
  refine row_putF E B iX6 rfl tyX6 tyX6_ok nmX6 1 (by decide) w_ee1488ed rfl hnm rfl (ws.length + 0) ((at_p _ _ _).trans rfl) rfl rfl (Nat.le_of_ble_eq_true rfl) dX6_init_18 ?_
  clear B
  intro H locs B
  replace B := Hp.to B (set_p ..)
  replace B := Hp.to (ws' := ws ++ ([(h, .inr (6, [.ref x0, .ref x1, .null, .int 0, .int 0, .int 0, .int 0, .int 0, .int 0, .int 0, .int 0, .ref tN, .int 0, .int 0]))] : va_W)) B rfl
  refine at_pc (n := 21) rfl ?_
  refine lv_aload_n E.1.1 E.1.2.1 dX6_init_21 rfl (lv_at hl 0 rfl) ?_
  refine lv_aload_n E.1.1 E.1.2.1 dX6_init_22 rfl (lv_at hl 3 rfl) ?_
  refine row_putF E B iX6 rfl tyX6 tyX6_ok nmX6 2 (by decide) w_09909e3b rfl hnm rfl (ws.length + 0) ((at_p _ _ _).trans rfl) rfl rfl (Nat.le_of_ble_eq_true rfl) dX6_init_23 ?_
  clear B
  intro H locs B
  replace B := Hp.to B (set_p ..)
  replace B := Hp.to (ws' := ws ++ ([(h, .inr (6, [.ref x0, .ref x1, .ref x2, .int 0, .int 0, .int 0, .int 0, .int 0, .int 0, .int 0, .int 0, .ref tN, .int 0, .int 0]))] : va_W)) B rfl
  refine at_pc (n := 26) rfl ?_
  exact ret_V (u := (fun k => ([] : List Nat).getD k 0)) E hr hlk B trivial dX6_init_26
def WI1 (ct : Nat → ClassId) (tN : Nat) (ws : va_W) (h : Nat) (x0 : Nat) (x1 : Nat) (x2 : Nat) (x3 : Nat) (u : Nat → Nat) : va_W := ws ++ ([(h, .inr (1, [.ref x0, .ref x1, .ref x2, .ref x3, .ref (u 0), .ref (u 1), .ref (u 2), .ref (u 3), .ref (u 4), .ref (u 5), .int 0, .int 0, .int 0])), ((u 0), .inl (ct 0, 5, .inl (fun _ => 0))), ((u 1), .inl (ct 0, 320, .inl (fun _ => 0))), ((u 2), .inl (ct 0, 420, .inl (fun _ => 0))), ((u 3), .inl (ct 0, 420, .inl (fun _ => 0))), ((u 4), .inl (ct 0, 420, .inl (fun _ => 0))), ((u 5), .inl (ct 2, 300, .inr (.inl (fun _ => 0))))] : va_W)
set_option maxHeartbeats 8000000 in
set_option maxRecDepth 100000 in
theorem init_X1 (l : Launch) (D : va_G) (ct : Nat → ClassId) (tN : Nat) (ws : va_W) (h : Nat) (x0 : Nat) (x1 : Nat) (x2 : Nat) (x3 : Nat) : MV l D (TY ct) tN yX1_init cX1_init 5 ({ frames := 1, cells := 6, slots := 1885, locals := 40 } : Room) [.ref h, .ref x0, .ref x1, .ref x2, .ref x3] (ws ++ ([(h, .inr (1, [.null, .null, .null, .null, .null, .null, .null, .null, .null, .null, .int 0, .int 0, .int 0]))] : va_W)) (fun (u : Nat → Nat) => True) (WI1 ct tN ws h x0 x1 x2 x3) 6 1885 := by
  intro sz
  refine Met.ofE (Qc := fun A => va_Qv (fun (u : Nat → Nat) => True) (BW D A (WI1 ct tN ws h x0 x1 x2 x3)) A) (by decide) (Nat.le_of_ble_eq_true rfl) ?_
  intro p e s m args below meth c A ls hsz E hr hlk hnm B hl
  have hnm : "<init>" = meth.name := hnm
  replace hl : lv_has ls 5 [(0, .ref h), (1, .ref x0), (2, .ref x1), (3, .ref x2), (4, .ref x3)] := hl
  refine lv_aload_n E.1.1 E.1.2.1 dX1_init_0 rfl (lv_at hl 0 rfl) ?_
  refine row_obj E w_c8c8bacc w_08b13607 w_47dee913 hl dX1_init_1 (Nat.le_of_ble_eq_true rfl) (Nat.le_of_ble_eq_true rfl) ?_
  refine lv_aload_n E.1.1 E.1.2.1 dX1_init_4 rfl (lv_at hl 0 rfl) ?_
  refine lv_iconst (v := 5) E.1.1 E.1.2.1 dX1_init_5 (by decide) ?_
  refine row_newa (atype := .int) (a0 := (5, .inl (fun _ => 0))) E B w_e8e14353 rfl 0 rfl (fun _ => rfl) (by decide) (by decide) (Nat.le_of_ble_eq_true rfl) (Nat.le_of_ble_eq_true rfl) (Nat.le_of_ble_eq_true rfl) dX1_init_6 ?_
  clear B
  intro q1 H B
  refine at_n (n := 8) (k1 := 1) (k2 := 5) rfl rfl rfl ?_
  refine row_putF E B iX1 rfl tyX1 tyX1_ok nmX1 4 (by decide) w_de3a11cc rfl hnm rfl (ws.length + 0) ((at_pp _ _ _ _).trans rfl) rfl rfl (Nat.le_of_ble_eq_true rfl) dX1_init_8 ?_
  clear B
  intro H locs B
  replace B := Hp.to B (set_pp ..)
  replace B := Hp.to (ws' := ws ++ ([(h, .inr (1, [.null, .null, .null, .null, .ref q1, .null, .null, .null, .null, .null, .int 0, .int 0, .int 0])), (q1, .inl (ct 0, 5, .inl (fun _ => 0)))] : va_W)) B rfl
  refine at_pc (n := 11) rfl ?_
  refine lv_aload_n E.1.1 E.1.2.1 dX1_init_11 rfl (lv_at hl 0 rfl) ?_
  refine lv_sipush (v := 320) E.1.1 E.1.2.1 dX1_init_12 (by decide) ?_
  refine row_newa (atype := .int) (a0 := (320, .inl (fun _ => 0))) E B w_e8e14353 rfl 0 rfl (fun _ => rfl) (by decide) (by decide) (Nat.le_of_ble_eq_true rfl) (Nat.le_of_ble_eq_true rfl) (Nat.le_of_ble_eq_true rfl) dX1_init_15 ?_
  clear B
  intro q2 H B
  refine at_n (n := 17) (k1 := 2) (k2 := 325) rfl rfl rfl ?_
  refine row_putF E B iX1 rfl tyX1 tyX1_ok nmX1 5 (by decide) w_2b127ce9 rfl hnm rfl (ws.length + 0) ((at_pp _ _ _ _).trans rfl) rfl rfl (Nat.le_of_ble_eq_true rfl) dX1_init_17 ?_
  clear B
  intro H locs B
  replace B := Hp.to B (set_pp ..)
  replace B := Hp.to (ws' := ws ++ ([(h, .inr (1, [.null, .null, .null, .null, .ref q1, .ref q2, .null, .null, .null, .null, .int 0, .int 0, .int 0])), (q1, .inl (ct 0, 5, .inl (fun _ => 0))), (q2, .inl (ct 0, 320, .inl (fun _ => 0)))] : va_W)) B rfl
  refine at_pc (n := 20) rfl ?_
  refine lv_aload_n E.1.1 E.1.2.1 dX1_init_20 rfl (lv_at hl 0 rfl) ?_
  refine lv_sipush (v := 420) E.1.1 E.1.2.1 dX1_init_21 (by decide) ?_
  refine row_newa (atype := .int) (a0 := (420, .inl (fun _ => 0))) E B w_e8e14353 rfl 0 rfl (fun _ => rfl) (by decide) (by decide) (Nat.le_of_ble_eq_true rfl) (Nat.le_of_ble_eq_true rfl) (Nat.le_of_ble_eq_true rfl) dX1_init_24 ?_
  clear B
  intro q3 H B
  refine at_n (n := 26) (k1 := 3) (k2 := 745) rfl rfl rfl ?_
  refine row_putF E B iX1 rfl tyX1 tyX1_ok nmX1 6 (by decide) w_8eb383b1 rfl hnm rfl (ws.length + 0) ((at_pp _ _ _ _).trans rfl) rfl rfl (Nat.le_of_ble_eq_true rfl) dX1_init_26 ?_
  clear B
  intro H locs B
  replace B := Hp.to B (set_pp ..)
  replace B := Hp.to (ws' := ws ++ ([(h, .inr (1, [.null, .null, .null, .null, .ref q1, .ref q2, .ref q3, .null, .null, .null, .int 0, .int 0, .int 0])), (q1, .inl (ct 0, 5, .inl (fun _ => 0))), (q2, .inl (ct 0, 320, .inl (fun _ => 0))), (q3, .inl (ct 0, 420, .inl (fun _ => 0)))] : va_W)) B rfl
  refine at_pc (n := 29) rfl ?_
  refine lv_aload_n E.1.1 E.1.2.1 dX1_init_29 rfl (lv_at hl 0 rfl) ?_
  refine lv_sipush (v := 420) E.1.1 E.1.2.1 dX1_init_30 (by decide) ?_
  refine row_newa (atype := .int) (a0 := (420, .inl (fun _ => 0))) E B w_e8e14353 rfl 0 rfl (fun _ => rfl) (by decide) (by decide) (Nat.le_of_ble_eq_true rfl) (Nat.le_of_ble_eq_true rfl) (Nat.le_of_ble_eq_true rfl) dX1_init_33 ?_
  clear B
  intro q4 H B
  refine at_n (n := 35) (k1 := 4) (k2 := 1165) rfl rfl rfl ?_
  refine row_putF E B iX1 rfl tyX1 tyX1_ok nmX1 7 (by decide) w_dcd5d65b rfl hnm rfl (ws.length + 0) ((at_pp _ _ _ _).trans rfl) rfl rfl (Nat.le_of_ble_eq_true rfl) dX1_init_35 ?_
  clear B
  intro H locs B
  replace B := Hp.to B (set_pp ..)
  replace B := Hp.to (ws' := ws ++ ([(h, .inr (1, [.null, .null, .null, .null, .ref q1, .ref q2, .ref q3, .ref q4, .null, .null, .int 0, .int 0, .int 0])), (q1, .inl (ct 0, 5, .inl (fun _ => 0))), (q2, .inl (ct 0, 320, .inl (fun _ => 0))), (q3, .inl (ct 0, 420, .inl (fun _ => 0))), (q4, .inl (ct 0, 420, .inl (fun _ => 0)))] : va_W)) B rfl
  refine at_pc (n := 38) rfl ?_
  refine lv_aload_n E.1.1 E.1.2.1 dX1_init_38 rfl (lv_at hl 0 rfl) ?_
  refine lv_sipush (v := 420) E.1.1 E.1.2.1 dX1_init_39 (by decide) ?_
  refine row_newa (atype := .int) (a0 := (420, .inl (fun _ => 0))) E B w_e8e14353 rfl 0 rfl (fun _ => rfl) (by decide) (by decide) (Nat.le_of_ble_eq_true rfl) (Nat.le_of_ble_eq_true rfl) (Nat.le_of_ble_eq_true rfl) dX1_init_42 ?_
  clear B
  intro q5 H B
  refine at_n (n := 44) (k1 := 5) (k2 := 1585) rfl rfl rfl ?_
  refine row_putF E B iX1 rfl tyX1 tyX1_ok nmX1 8 (by decide) w_7f0bfc95 rfl hnm rfl (ws.length + 0) ((at_pp _ _ _ _).trans rfl) rfl rfl (Nat.le_of_ble_eq_true rfl) dX1_init_44 ?_
  clear B
  intro H locs B
  replace B := Hp.to B (set_pp ..)
  replace B := Hp.to (ws' := ws ++ ([(h, .inr (1, [.null, .null, .null, .null, .ref q1, .ref q2, .ref q3, .ref q4, .ref q5, .null, .int 0, .int 0, .int 0])), (q1, .inl (ct 0, 5, .inl (fun _ => 0))), (q2, .inl (ct 0, 320, .inl (fun _ => 0))), (q3, .inl (ct 0, 420, .inl (fun _ => 0))), (q4, .inl (ct 0, 420, .inl (fun _ => 0))), (q5, .inl (ct 0, 420, .inl (fun _ => 0)))] : va_W)) B rfl
  refine at_pc (n := 47) rfl ?_
  refine lv_aload_n E.1.1 E.1.2.1 dX1_init_47 rfl (lv_at hl 0 rfl) ?_
  refine lv_sipush (v := 300) E.1.1 E.1.2.1 dX1_init_48 (by decide) ?_
  refine row_newa (atype := .long) (a0 := (300, .inr (.inl (fun _ => 0)))) E B w_e8ffffe2 rfl 2 rfl (fun _ => rfl) (by decide) (by decide) (Nat.le_of_ble_eq_true rfl) (Nat.le_of_ble_eq_true rfl) (Nat.le_of_ble_eq_true rfl) dX1_init_51 ?_
  clear B
  intro q6 H B
  refine at_n (n := 53) (k1 := 6) (k2 := 1885) rfl rfl rfl ?_
  refine row_putF E B iX1 rfl tyX1 tyX1_ok nmX1 9 (by decide) w_30f9eaff rfl hnm rfl (ws.length + 0) ((at_pp _ _ _ _).trans rfl) rfl rfl (Nat.le_of_ble_eq_true rfl) dX1_init_53 ?_
  clear B
  intro H locs B
  replace B := Hp.to B (set_pp ..)
  replace B := Hp.to (ws' := ws ++ ([(h, .inr (1, [.null, .null, .null, .null, .ref q1, .ref q2, .ref q3, .ref q4, .ref q5, .ref q6, .int 0, .int 0, .int 0])), (q1, .inl (ct 0, 5, .inl (fun _ => 0))), (q2, .inl (ct 0, 320, .inl (fun _ => 0))), (q3, .inl (ct 0, 420, .inl (fun _ => 0))), (q4, .inl (ct 0, 420, .inl (fun _ => 0))), (q5, .inl (ct 0, 420, .inl (fun _ => 0))), (q6, .inl (ct 2, 300, .inr (.inl (fun _ => 0))))] : va_W)) B rfl
  refine at_pc (n := 56) rfl ?_
  refine lv_aload_n E.1.1 E.1.2.1 dX1_init_56 rfl (lv_at hl 0 rfl) ?_
  refine lv_aload_n E.1.1 E.1.2.1 dX1_init_57 rfl (lv_at hl 1 rfl) ?_
  refine row_putF E B iX1 rfl tyX1 tyX1_ok nmX1 0 (by decide) w_5c9255b3 rfl hnm rfl (ws.length + 0) ((at_p _ _ _).trans rfl) rfl rfl (Nat.le_of_ble_eq_true rfl) dX1_init_58 ?_
  clear B
  intro H locs B
  replace B := Hp.to B (set_p ..)
  replace B := Hp.to (ws' := ws ++ ([(h, .inr (1, [.ref x0, .null, .null, .null, .ref q1, .ref q2, .ref q3, .ref q4, .ref q5, .ref q6, .int 0, .int 0, .int 0])), (q1, .inl (ct 0, 5, .inl (fun _ => 0))), (q2, .inl (ct 0, 320, .inl (fun _ => 0))), (q3, .inl (ct 0, 420, .inl (fun _ => 0))), (q4, .inl (ct 0, 420, .inl (fun _ => 0))), (q5, .inl (ct 0, 420, .inl (fun _ => 0))), (q6, .inl (ct 2, 300, .inr (.inl (fun _ => 0))))] : va_W)) B rfl
  refine at_pc (n := 61) rfl ?_
  refine lv_aload_n E.1.1 E.1.2.1 dX1_init_61 rfl (lv_at hl 0 rfl) ?_
  refine lv_aload_n E.1.1 E.1.2.1 dX1_init_62 rfl (lv_at hl 2 rfl) ?_
  refine row_putF E B iX1 rfl tyX1 tyX1_ok nmX1 1 (by decide) w_2d6bc367 rfl hnm rfl (ws.length + 0) ((at_p _ _ _).trans rfl) rfl rfl (Nat.le_of_ble_eq_true rfl) dX1_init_63 ?_
  clear B
  intro H locs B
  replace B := Hp.to B (set_p ..)
  replace B := Hp.to (ws' := ws ++ ([(h, .inr (1, [.ref x0, .ref x1, .null, .null, .ref q1, .ref q2, .ref q3, .ref q4, .ref q5, .ref q6, .int 0, .int 0, .int 0])), (q1, .inl (ct 0, 5, .inl (fun _ => 0))), (q2, .inl (ct 0, 320, .inl (fun _ => 0))), (q3, .inl (ct 0, 420, .inl (fun _ => 0))), (q4, .inl (ct 0, 420, .inl (fun _ => 0))), (q5, .inl (ct 0, 420, .inl (fun _ => 0))), (q6, .inl (ct 2, 300, .inr (.inl (fun _ => 0))))] : va_W)) B rfl
  refine at_pc (n := 66) rfl ?_
  refine lv_aload_n E.1.1 E.1.2.1 dX1_init_66 rfl (lv_at hl 0 rfl) ?_
  refine lv_aload_n E.1.1 E.1.2.1 dX1_init_67 rfl (lv_at hl 3 rfl) ?_
  refine row_putF E B iX1 rfl tyX1 tyX1_ok nmX1 2 (by decide) w_ceade7a3 rfl hnm rfl (ws.length + 0) ((at_p _ _ _).trans rfl) rfl rfl (Nat.le_of_ble_eq_true rfl) dX1_init_68 ?_
  clear B
  intro H locs B
  replace B := Hp.to B (set_p ..)
  replace B := Hp.to (ws' := ws ++ ([(h, .inr (1, [.ref x0, .ref x1, .ref x2, .null, .ref q1, .ref q2, .ref q3, .ref q4, .ref q5, .ref q6, .int 0, .int 0, .int 0])), (q1, .inl (ct 0, 5, .inl (fun _ => 0))), (q2, .inl (ct 0, 320, .inl (fun _ => 0))), (q3, .inl (ct 0, 420, .inl (fun _ => 0))), (q4, .inl (ct 0, 420, .inl (fun _ => 0))), (q5, .inl (ct 0, 420, .inl (fun _ => 0))), (q6, .inl (ct 2, 300, .inr (.inl (fun _ => 0))))] : va_W)) B rfl
  refine at_pc (n := 71) rfl ?_
  refine lv_aload_n E.1.1 E.1.2.1 dX1_init_71 rfl (lv_at hl 0 rfl) ?_
  refine lv_aload E.1.1 E.1.2.1 dX1_init_72 (lv_at hl 4 rfl) ?_
  refine row_putF E B iX1 rfl tyX1 tyX1_ok nmX1 3 (by decide) w_b1d7e7a5 rfl hnm rfl (ws.length + 0) ((at_p _ _ _).trans rfl) rfl rfl (Nat.le_of_ble_eq_true rfl) dX1_init_74 ?_
  clear B
  intro H locs B
  replace B := Hp.to B (set_p ..)
  replace B := Hp.to (ws' := ws ++ ([(h, .inr (1, [.ref x0, .ref x1, .ref x2, .ref x3, .ref q1, .ref q2, .ref q3, .ref q4, .ref q5, .ref q6, .int 0, .int 0, .int 0])), (q1, .inl (ct 0, 5, .inl (fun _ => 0))), (q2, .inl (ct 0, 320, .inl (fun _ => 0))), (q3, .inl (ct 0, 420, .inl (fun _ => 0))), (q4, .inl (ct 0, 420, .inl (fun _ => 0))), (q5, .inl (ct 0, 420, .inl (fun _ => 0))), (q6, .inl (ct 2, 300, .inr (.inl (fun _ => 0))))] : va_W)) B rfl
  refine at_pc (n := 77) rfl ?_
  exact ret_V (u := (fun k => ([q1, q2, q3, q4, q5, q6] : List Nat).getD k 0)) E hr hlk B trivial dX1_init_77
def WI0 (ct : Nat → ClassId) (tN : Nat) (ws : va_W) (h : Nat) (x0 : Nat) (x1 : Nat) (x2 : Nat) (x3 : Nat) (u : Nat → Nat) : va_W := ws ++ ([(h, .inr (0, [.ref x0, .ref x1, .ref x2, .ref x3, .ref (u 0), .ref (u 1), .ref (u 2), .ref (u 3), .ref (u 4), .ref (u 5), .ref (u 6), .int 0, .int 0, .int 0])), ((u 0), .inl (ct 0, 6, .inl (fun _ => 0))), ((u 1), .inl (ct 0, 6, .inl (fun _ => 0))), ((u 2), .inl (ct 0, 24, .inl (fun _ => 0))), ((u 3), .inl (ct 2, 40, .inr (.inl (fun _ => 0)))), ((u 4), .inl (ct 0, 24, .inl (fun _ => 0))), ((u 5), .inl (ct 3, 24, .inl (fun _ => 0))), ((u 6), .inl (ct 0, 6, .inl (fun _ => 0)))] : va_W)
set_option maxHeartbeats 8000000 in
set_option maxRecDepth 100000 in
theorem init_X0 (l : Launch) (D : va_G) (ct : Nat → ClassId) (tN : Nat) (ws : va_W) (h : Nat) (x0 : Nat) (x1 : Nat) (x2 : Nat) (x3 : Nat) : MV l D (TY ct) tN yX0_init cX0_init 5 ({ frames := 1, cells := 7, slots := 130, locals := 40 } : Room) [.ref h, .ref x0, .ref x1, .ref x2, .ref x3] (ws ++ ([(h, .inr (0, [.null, .null, .null, .null, .null, .null, .null, .null, .null, .null, .null, .int 0, .int 0, .int 0]))] : va_W)) (fun (u : Nat → Nat) => True) (WI0 ct tN ws h x0 x1 x2 x3) 7 130 := by
  intro sz
  refine Met.ofE (Qc := fun A => va_Qv (fun (u : Nat → Nat) => True) (BW D A (WI0 ct tN ws h x0 x1 x2 x3)) A) (by decide) (Nat.le_of_ble_eq_true rfl) ?_
  intro p e s m args below meth c A ls hsz E hr hlk hnm B hl
  have hnm : "<init>" = meth.name := hnm
  replace hl : lv_has ls 5 [(0, .ref h), (1, .ref x0), (2, .ref x1), (3, .ref x2), (4, .ref x3)] := hl
  refine lv_aload_n E.1.1 E.1.2.1 dX0_init_0 rfl (lv_at hl 0 rfl) ?_
  refine row_obj E w_d3d69afb w_08b13607 w_47dee913 hl dX0_init_1 (Nat.le_of_ble_eq_true rfl) (Nat.le_of_ble_eq_true rfl) ?_
  refine lv_aload_n E.1.1 E.1.2.1 dX0_init_4 rfl (lv_at hl 0 rfl) ?_
  refine lv_bipush (v := 6) E.1.1 E.1.2.1 dX0_init_5 (by decide) ?_
  refine row_newa (atype := .int) (a0 := (6, .inl (fun _ => 0))) E B w_e8e14353 rfl 0 rfl (fun _ => rfl) (by decide) (by decide) (Nat.le_of_ble_eq_true rfl) (Nat.le_of_ble_eq_true rfl) (Nat.le_of_ble_eq_true rfl) dX0_init_7 ?_
  clear B
  intro q1 H B
  refine at_n (n := 9) (k1 := 1) (k2 := 6) rfl rfl rfl ?_
  refine row_putF E B iX0 rfl tyX0 tyX0_ok nmX0 4 (by decide) w_b8ec0b93 rfl hnm rfl (ws.length + 0) ((at_pp _ _ _ _).trans rfl) rfl rfl (Nat.le_of_ble_eq_true rfl) dX0_init_9 ?_
  clear B
  intro H locs B
  replace B := Hp.to B (set_pp ..)
  replace B := Hp.to (ws' := ws ++ ([(h, .inr (0, [.null, .null, .null, .null, .ref q1, .null, .null, .null, .null, .null, .null, .int 0, .int 0, .int 0])), (q1, .inl (ct 0, 6, .inl (fun _ => 0)))] : va_W)) B rfl
  refine at_pc (n := 12) rfl ?_
  refine lv_aload_n E.1.1 E.1.2.1 dX0_init_12 rfl (lv_at hl 0 rfl) ?_
  refine lv_bipush (v := 6) E.1.1 E.1.2.1 dX0_init_13 (by decide) ?_
  refine row_newa (atype := .int) (a0 := (6, .inl (fun _ => 0))) E B w_e8e14353 rfl 0 rfl (fun _ => rfl) (by decide) (by decide) (Nat.le_of_ble_eq_true rfl) (Nat.le_of_ble_eq_true rfl) (Nat.le_of_ble_eq_true rfl) dX0_init_15 ?_
  clear B
  intro q2 H B
  refine at_n (n := 17) (k1 := 2) (k2 := 12) rfl rfl rfl ?_
  refine row_putF E B iX0 rfl tyX0 tyX0_ok nmX0 5 (by decide) w_8ca1e67d rfl hnm rfl (ws.length + 0) ((at_pp _ _ _ _).trans rfl) rfl rfl (Nat.le_of_ble_eq_true rfl) dX0_init_17 ?_
  clear B
  intro H locs B
  replace B := Hp.to B (set_pp ..)
  replace B := Hp.to (ws' := ws ++ ([(h, .inr (0, [.null, .null, .null, .null, .ref q1, .ref q2, .null, .null, .null, .null, .null, .int 0, .int 0, .int 0])), (q1, .inl (ct 0, 6, .inl (fun _ => 0))), (q2, .inl (ct 0, 6, .inl (fun _ => 0)))] : va_W)) B rfl
  refine at_pc (n := 20) rfl ?_
  refine lv_aload_n E.1.1 E.1.2.1 dX0_init_20 rfl (lv_at hl 0 rfl) ?_
  refine lv_bipush (v := 24) E.1.1 E.1.2.1 dX0_init_21 (by decide) ?_
  refine row_newa (atype := .int) (a0 := (24, .inl (fun _ => 0))) E B w_e8e14353 rfl 0 rfl (fun _ => rfl) (by decide) (by decide) (Nat.le_of_ble_eq_true rfl) (Nat.le_of_ble_eq_true rfl) (Nat.le_of_ble_eq_true rfl) dX0_init_23 ?_
  clear B
  intro q3 H B
  refine at_n (n := 25) (k1 := 3) (k2 := 36) rfl rfl rfl ?_
  refine row_putF E B iX0 rfl tyX0 tyX0_ok nmX0 6 (by decide) w_6fe33dc9 rfl hnm rfl (ws.length + 0) ((at_pp _ _ _ _).trans rfl) rfl rfl (Nat.le_of_ble_eq_true rfl) dX0_init_25 ?_
  clear B
  intro H locs B
  replace B := Hp.to B (set_pp ..)
  replace B := Hp.to (ws' := ws ++ ([(h, .inr (0, [.null, .null, .null, .null, .ref q1, .ref q2, .ref q3, .null, .null, .null, .null, .int 0, .int 0, .int 0])), (q1, .inl (ct 0, 6, .inl (fun _ => 0))), (q2, .inl (ct 0, 6, .inl (fun _ => 0))), (q3, .inl (ct 0, 24, .inl (fun _ => 0)))] : va_W)) B rfl
  refine at_pc (n := 28) rfl ?_
  refine lv_aload_n E.1.1 E.1.2.1 dX0_init_28 rfl (lv_at hl 0 rfl) ?_
  refine lv_bipush (v := 40) E.1.1 E.1.2.1 dX0_init_29 (by decide) ?_
  refine row_newa (atype := .long) (a0 := (40, .inr (.inl (fun _ => 0)))) E B w_e8ffffe2 rfl 2 rfl (fun _ => rfl) (by decide) (by decide) (Nat.le_of_ble_eq_true rfl) (Nat.le_of_ble_eq_true rfl) (Nat.le_of_ble_eq_true rfl) dX0_init_31 ?_
  clear B
  intro q4 H B
  refine at_n (n := 33) (k1 := 4) (k2 := 76) rfl rfl rfl ?_
  refine row_putF E B iX0 rfl tyX0 tyX0_ok nmX0 7 (by decide) w_b3cb3493 rfl hnm rfl (ws.length + 0) ((at_pp _ _ _ _).trans rfl) rfl rfl (Nat.le_of_ble_eq_true rfl) dX0_init_33 ?_
  clear B
  intro H locs B
  replace B := Hp.to B (set_pp ..)
  replace B := Hp.to (ws' := ws ++ ([(h, .inr (0, [.null, .null, .null, .null, .ref q1, .ref q2, .ref q3, .ref q4, .null, .null, .null, .int 0, .int 0, .int 0])), (q1, .inl (ct 0, 6, .inl (fun _ => 0))), (q2, .inl (ct 0, 6, .inl (fun _ => 0))), (q3, .inl (ct 0, 24, .inl (fun _ => 0))), (q4, .inl (ct 2, 40, .inr (.inl (fun _ => 0))))] : va_W)) B rfl
  refine at_pc (n := 36) rfl ?_
  refine lv_aload_n E.1.1 E.1.2.1 dX0_init_36 rfl (lv_at hl 0 rfl) ?_
  refine lv_bipush (v := 24) E.1.1 E.1.2.1 dX0_init_37 (by decide) ?_
  refine row_newa (atype := .int) (a0 := (24, .inl (fun _ => 0))) E B w_e8e14353 rfl 0 rfl (fun _ => rfl) (by decide) (by decide) (Nat.le_of_ble_eq_true rfl) (Nat.le_of_ble_eq_true rfl) (Nat.le_of_ble_eq_true rfl) dX0_init_39 ?_
  clear B
  intro q5 H B
  refine at_n (n := 41) (k1 := 5) (k2 := 100) rfl rfl rfl ?_
  refine row_putF E B iX0 rfl tyX0 tyX0_ok nmX0 8 (by decide) w_4dd9dd23 rfl hnm rfl (ws.length + 0) ((at_pp _ _ _ _).trans rfl) rfl rfl (Nat.le_of_ble_eq_true rfl) dX0_init_41 ?_
  clear B
  intro H locs B
  replace B := Hp.to B (set_pp ..)
  replace B := Hp.to (ws' := ws ++ ([(h, .inr (0, [.null, .null, .null, .null, .ref q1, .ref q2, .ref q3, .ref q4, .ref q5, .null, .null, .int 0, .int 0, .int 0])), (q1, .inl (ct 0, 6, .inl (fun _ => 0))), (q2, .inl (ct 0, 6, .inl (fun _ => 0))), (q3, .inl (ct 0, 24, .inl (fun _ => 0))), (q4, .inl (ct 2, 40, .inr (.inl (fun _ => 0)))), (q5, .inl (ct 0, 24, .inl (fun _ => 0)))] : va_W)) B rfl
  refine at_pc (n := 44) rfl ?_
  refine lv_aload_n E.1.1 E.1.2.1 dX0_init_44 rfl (lv_at hl 0 rfl) ?_
  refine lv_bipush (v := 24) E.1.1 E.1.2.1 dX0_init_45 (by decide) ?_
  refine row_newa (atype := .boolean) (a0 := (24, .inl (fun _ => 0))) E B w_7d01f517 rfl 3 rfl (fun _ => rfl) (by decide) (by decide) (Nat.le_of_ble_eq_true rfl) (Nat.le_of_ble_eq_true rfl) (Nat.le_of_ble_eq_true rfl) dX0_init_47 ?_
  clear B
  intro q6 H B
  refine at_n (n := 49) (k1 := 6) (k2 := 124) rfl rfl rfl ?_
  refine row_putF E B iX0 rfl tyX0 tyX0_ok nmX0 9 (by decide) w_c1be8d7e rfl hnm rfl (ws.length + 0) ((at_pp _ _ _ _).trans rfl) rfl rfl (Nat.le_of_ble_eq_true rfl) dX0_init_49 ?_
  clear B
  intro H locs B
  replace B := Hp.to B (set_pp ..)
  replace B := Hp.to (ws' := ws ++ ([(h, .inr (0, [.null, .null, .null, .null, .ref q1, .ref q2, .ref q3, .ref q4, .ref q5, .ref q6, .null, .int 0, .int 0, .int 0])), (q1, .inl (ct 0, 6, .inl (fun _ => 0))), (q2, .inl (ct 0, 6, .inl (fun _ => 0))), (q3, .inl (ct 0, 24, .inl (fun _ => 0))), (q4, .inl (ct 2, 40, .inr (.inl (fun _ => 0)))), (q5, .inl (ct 0, 24, .inl (fun _ => 0))), (q6, .inl (ct 3, 24, .inl (fun _ => 0)))] : va_W)) B rfl
  refine at_pc (n := 52) rfl ?_
  refine lv_aload_n E.1.1 E.1.2.1 dX0_init_52 rfl (lv_at hl 0 rfl) ?_
  refine lv_bipush (v := 6) E.1.1 E.1.2.1 dX0_init_53 (by decide) ?_
  refine row_newa (atype := .int) (a0 := (6, .inl (fun _ => 0))) E B w_e8e14353 rfl 0 rfl (fun _ => rfl) (by decide) (by decide) (Nat.le_of_ble_eq_true rfl) (Nat.le_of_ble_eq_true rfl) (Nat.le_of_ble_eq_true rfl) dX0_init_55 ?_
  clear B
  intro q7 H B
  refine at_n (n := 57) (k1 := 7) (k2 := 130) rfl rfl rfl ?_
  refine row_putF E B iX0 rfl tyX0 tyX0_ok nmX0 10 (by decide) w_8ae108d9 rfl hnm rfl (ws.length + 0) ((at_pp _ _ _ _).trans rfl) rfl rfl (Nat.le_of_ble_eq_true rfl) dX0_init_57 ?_
  clear B
  intro H locs B
  replace B := Hp.to B (set_pp ..)
  replace B := Hp.to (ws' := ws ++ ([(h, .inr (0, [.null, .null, .null, .null, .ref q1, .ref q2, .ref q3, .ref q4, .ref q5, .ref q6, .ref q7, .int 0, .int 0, .int 0])), (q1, .inl (ct 0, 6, .inl (fun _ => 0))), (q2, .inl (ct 0, 6, .inl (fun _ => 0))), (q3, .inl (ct 0, 24, .inl (fun _ => 0))), (q4, .inl (ct 2, 40, .inr (.inl (fun _ => 0)))), (q5, .inl (ct 0, 24, .inl (fun _ => 0))), (q6, .inl (ct 3, 24, .inl (fun _ => 0))), (q7, .inl (ct 0, 6, .inl (fun _ => 0)))] : va_W)) B rfl
  refine at_pc (n := 60) rfl ?_
  refine lv_aload_n E.1.1 E.1.2.1 dX0_init_60 rfl (lv_at hl 0 rfl) ?_
  refine lv_aload_n E.1.1 E.1.2.1 dX0_init_61 rfl (lv_at hl 1 rfl) ?_
  refine row_putF E B iX0 rfl tyX0 tyX0_ok nmX0 0 (by decide) w_d30a00c5 rfl hnm rfl (ws.length + 0) ((at_p _ _ _).trans rfl) rfl rfl (Nat.le_of_ble_eq_true rfl) dX0_init_62 ?_
  clear B
  intro H locs B
  replace B := Hp.to B (set_p ..)
  replace B := Hp.to (ws' := ws ++ ([(h, .inr (0, [.ref x0, .null, .null, .null, .ref q1, .ref q2, .ref q3, .ref q4, .ref q5, .ref q6, .ref q7, .int 0, .int 0, .int 0])), (q1, .inl (ct 0, 6, .inl (fun _ => 0))), (q2, .inl (ct 0, 6, .inl (fun _ => 0))), (q3, .inl (ct 0, 24, .inl (fun _ => 0))), (q4, .inl (ct 2, 40, .inr (.inl (fun _ => 0)))), (q5, .inl (ct 0, 24, .inl (fun _ => 0))), (q6, .inl (ct 3, 24, .inl (fun _ => 0))), (q7, .inl (ct 0, 6, .inl (fun _ => 0)))] : va_W)) B rfl
  refine at_pc (n := 65) rfl ?_
  refine lv_aload_n E.1.1 E.1.2.1 dX0_init_65 rfl (lv_at hl 0 rfl) ?_
  refine lv_aload_n E.1.1 E.1.2.1 dX0_init_66 rfl (lv_at hl 2 rfl) ?_
  refine row_putF E B iX0 rfl tyX0 tyX0_ok nmX0 1 (by decide) w_9cff2cfb rfl hnm rfl (ws.length + 0) ((at_p _ _ _).trans rfl) rfl rfl (Nat.le_of_ble_eq_true rfl) dX0_init_67 ?_
  clear B
  intro H locs B
  replace B := Hp.to B (set_p ..)
  replace B := Hp.to (ws' := ws ++ ([(h, .inr (0, [.ref x0, .ref x1, .null, .null, .ref q1, .ref q2, .ref q3, .ref q4, .ref q5, .ref q6, .ref q7, .int 0, .int 0, .int 0])), (q1, .inl (ct 0, 6, .inl (fun _ => 0))), (q2, .inl (ct 0, 6, .inl (fun _ => 0))), (q3, .inl (ct 0, 24, .inl (fun _ => 0))), (q4, .inl (ct 2, 40, .inr (.inl (fun _ => 0)))), (q5, .inl (ct 0, 24, .inl (fun _ => 0))), (q6, .inl (ct 3, 24, .inl (fun _ => 0))), (q7, .inl (ct 0, 6, .inl (fun _ => 0)))] : va_W)) B rfl
  refine at_pc (n := 70) rfl ?_
  refine lv_aload_n E.1.1 E.1.2.1 dX0_init_70 rfl (lv_at hl 0 rfl) ?_
  refine lv_aload_n E.1.1 E.1.2.1 dX0_init_71 rfl (lv_at hl 3 rfl) ?_
  refine row_putF E B iX0 rfl tyX0 tyX0_ok nmX0 2 (by decide) w_bb654b39 rfl hnm rfl (ws.length + 0) ((at_p _ _ _).trans rfl) rfl rfl (Nat.le_of_ble_eq_true rfl) dX0_init_72 ?_
  clear B
  intro H locs B
  replace B := Hp.to B (set_p ..)
  replace B := Hp.to (ws' := ws ++ ([(h, .inr (0, [.ref x0, .ref x1, .ref x2, .null, .ref q1, .ref q2, .ref q3, .ref q4, .ref q5, .ref q6, .ref q7, .int 0, .int 0, .int 0])), (q1, .inl (ct 0, 6, .inl (fun _ => 0))), (q2, .inl (ct 0, 6, .inl (fun _ => 0))), (q3, .inl (ct 0, 24, .inl (fun _ => 0))), (q4, .inl (ct 2, 40, .inr (.inl (fun _ => 0)))), (q5, .inl (ct 0, 24, .inl (fun _ => 0))), (q6, .inl (ct 3, 24, .inl (fun _ => 0))), (q7, .inl (ct 0, 6, .inl (fun _ => 0)))] : va_W)) B rfl
  refine at_pc (n := 75) rfl ?_
  refine lv_aload_n E.1.1 E.1.2.1 dX0_init_75 rfl (lv_at hl 0 rfl) ?_
  refine lv_aload E.1.1 E.1.2.1 dX0_init_76 (lv_at hl 4 rfl) ?_
  refine row_putF E B iX0 rfl tyX0 tyX0_ok nmX0 3 (by decide) w_02898297 rfl hnm rfl (ws.length + 0) ((at_p _ _ _).trans rfl) rfl rfl (Nat.le_of_ble_eq_true rfl) dX0_init_78 ?_
  clear B
  intro H locs B
  replace B := Hp.to B (set_p ..)
  replace B := Hp.to (ws' := ws ++ ([(h, .inr (0, [.ref x0, .ref x1, .ref x2, .ref x3, .ref q1, .ref q2, .ref q3, .ref q4, .ref q5, .ref q6, .ref q7, .int 0, .int 0, .int 0])), (q1, .inl (ct 0, 6, .inl (fun _ => 0))), (q2, .inl (ct 0, 6, .inl (fun _ => 0))), (q3, .inl (ct 0, 24, .inl (fun _ => 0))), (q4, .inl (ct 2, 40, .inr (.inl (fun _ => 0)))), (q5, .inl (ct 0, 24, .inl (fun _ => 0))), (q6, .inl (ct 3, 24, .inl (fun _ => 0))), (q7, .inl (ct 0, 6, .inl (fun _ => 0)))] : va_W)) B rfl
  refine at_pc (n := 81) rfl ?_
  exact ret_V (u := (fun k => ([q1, q2, q3, q4, q5, q6, q7] : List Nat).getD k 0)) E hr hlk B trivial dX0_init_81
def WI5 (ct : Nat → ClassId) (tN : Nat) (ws : va_W) (h : Nat) (x0 : Nat) (x1 : Nat) (x2 : Nat) (u : Nat → Nat) : va_W := ws ++ ([(h, .inr (5, [.ref x0, .ref x1, .ref x2, .ref (u 0), .ref (u 1), .ref (u 2), .ref (u 3), .ref (u 4), .int 0, .int 0])), ((u 0), .inl (ct 0, 8, .inl (fun _ => 0))), ((u 1), .inl (ct 0, 6, .inl (fun _ => 0))), ((u 2), .inl (ct 0, 6, .inl (fun _ => 0))), ((u 3), .inl (ct 0, 6, .inl (fun _ => 0))), ((u 4), .inl (ct 0, 6, .inl (fun _ => 0)))] : va_W)
set_option maxHeartbeats 8000000 in
set_option maxRecDepth 100000 in
theorem init_X5 (l : Launch) (D : va_G) (ct : Nat → ClassId) (tN : Nat) (ws : va_W) (h : Nat) (x0 : Nat) (x1 : Nat) (x2 : Nat) : MV l D (TY ct) tN yX5_init cX5_init 4 ({ frames := 1, cells := 5, slots := 32, locals := 40 } : Room) [.ref h, .ref x0, .ref x1, .ref x2] (ws ++ ([(h, .inr (5, [.null, .null, .null, .null, .null, .null, .null, .null, .int 0, .int 0]))] : va_W)) (fun (u : Nat → Nat) => True) (WI5 ct tN ws h x0 x1 x2) 5 32 := by
  intro sz
  refine Met.ofE (Qc := fun A => va_Qv (fun (u : Nat → Nat) => True) (BW D A (WI5 ct tN ws h x0 x1 x2)) A) (by decide) (Nat.le_of_ble_eq_true rfl) ?_
  intro p e s m args below meth c A ls hsz E hr hlk hnm B hl
  have hnm : "<init>" = meth.name := hnm
  replace hl : lv_has ls 4 [(0, .ref h), (1, .ref x0), (2, .ref x1), (3, .ref x2)] := hl
  refine lv_aload_n E.1.1 E.1.2.1 dX5_init_0 rfl (lv_at hl 0 rfl) ?_
  refine row_obj E w_01a6f0bb w_08b13607 w_47dee913 hl dX5_init_1 (Nat.le_of_ble_eq_true rfl) (Nat.le_of_ble_eq_true rfl) ?_
  refine lv_aload_n E.1.1 E.1.2.1 dX5_init_4 rfl (lv_at hl 0 rfl) ?_
  refine lv_bipush (v := 8) E.1.1 E.1.2.1 dX5_init_5 (by decide) ?_
  refine row_newa (atype := .int) (a0 := (8, .inl (fun _ => 0))) E B w_e8e14353 rfl 0 rfl (fun _ => rfl) (by decide) (by decide) (Nat.le_of_ble_eq_true rfl) (Nat.le_of_ble_eq_true rfl) (Nat.le_of_ble_eq_true rfl) dX5_init_7 ?_
  clear B
  intro q1 H B
  refine at_n (n := 9) (k1 := 1) (k2 := 8) rfl rfl rfl ?_
  refine row_putF E B iX5 rfl tyX5 tyX5_ok nmX5 3 (by decide) w_26129d30 rfl hnm rfl (ws.length + 0) ((at_pp _ _ _ _).trans rfl) rfl rfl (Nat.le_of_ble_eq_true rfl) dX5_init_9 ?_
  clear B
  intro H locs B
  replace B := Hp.to B (set_pp ..)
  replace B := Hp.to (ws' := ws ++ ([(h, .inr (5, [.null, .null, .null, .ref q1, .null, .null, .null, .null, .int 0, .int 0])), (q1, .inl (ct 0, 8, .inl (fun _ => 0)))] : va_W)) B rfl
  refine at_pc (n := 12) rfl ?_
  refine lv_aload_n E.1.1 E.1.2.1 dX5_init_12 rfl (lv_at hl 0 rfl) ?_
  refine lv_bipush (v := 6) E.1.1 E.1.2.1 dX5_init_13 (by decide) ?_
  refine row_newa (atype := .int) (a0 := (6, .inl (fun _ => 0))) E B w_e8e14353 rfl 0 rfl (fun _ => rfl) (by decide) (by decide) (Nat.le_of_ble_eq_true rfl) (Nat.le_of_ble_eq_true rfl) (Nat.le_of_ble_eq_true rfl) dX5_init_15 ?_
  clear B
  intro q2 H B
  refine at_n (n := 17) (k1 := 2) (k2 := 14) rfl rfl rfl ?_
  refine row_putF E B iX5 rfl tyX5 tyX5_ok nmX5 4 (by decide) w_969b545e rfl hnm rfl (ws.length + 0) ((at_pp _ _ _ _).trans rfl) rfl rfl (Nat.le_of_ble_eq_true rfl) dX5_init_17 ?_
  clear B
  intro H locs B
  replace B := Hp.to B (set_pp ..)
  replace B := Hp.to (ws' := ws ++ ([(h, .inr (5, [.null, .null, .null, .ref q1, .ref q2, .null, .null, .null, .int 0, .int 0])), (q1, .inl (ct 0, 8, .inl (fun _ => 0))), (q2, .inl (ct 0, 6, .inl (fun _ => 0)))] : va_W)) B rfl
  refine at_pc (n := 20) rfl ?_
  refine lv_aload_n E.1.1 E.1.2.1 dX5_init_20 rfl (lv_at hl 0 rfl) ?_
  refine lv_bipush (v := 6) E.1.1 E.1.2.1 dX5_init_21 (by decide) ?_
  refine row_newa (atype := .int) (a0 := (6, .inl (fun _ => 0))) E B w_e8e14353 rfl 0 rfl (fun _ => rfl) (by decide) (by decide) (Nat.le_of_ble_eq_true rfl) (Nat.le_of_ble_eq_true rfl) (Nat.le_of_ble_eq_true rfl) dX5_init_23 ?_
  clear B
  intro q3 H B
  refine at_n (n := 25) (k1 := 3) (k2 := 20) rfl rfl rfl ?_
  refine row_putF E B iX5 rfl tyX5 tyX5_ok nmX5 5 (by decide) w_e59d070c rfl hnm rfl (ws.length + 0) ((at_pp _ _ _ _).trans rfl) rfl rfl (Nat.le_of_ble_eq_true rfl) dX5_init_25 ?_
  clear B
  intro H locs B
  replace B := Hp.to B (set_pp ..)
  replace B := Hp.to (ws' := ws ++ ([(h, .inr (5, [.null, .null, .null, .ref q1, .ref q2, .ref q3, .null, .null, .int 0, .int 0])), (q1, .inl (ct 0, 8, .inl (fun _ => 0))), (q2, .inl (ct 0, 6, .inl (fun _ => 0))), (q3, .inl (ct 0, 6, .inl (fun _ => 0)))] : va_W)) B rfl
  refine at_pc (n := 28) rfl ?_
  refine lv_aload_n E.1.1 E.1.2.1 dX5_init_28 rfl (lv_at hl 0 rfl) ?_
  refine lv_bipush (v := 6) E.1.1 E.1.2.1 dX5_init_29 (by decide) ?_
  refine row_newa (atype := .int) (a0 := (6, .inl (fun _ => 0))) E B w_e8e14353 rfl 0 rfl (fun _ => rfl) (by decide) (by decide) (Nat.le_of_ble_eq_true rfl) (Nat.le_of_ble_eq_true rfl) (Nat.le_of_ble_eq_true rfl) dX5_init_31 ?_
  clear B
  intro q4 H B
  refine at_n (n := 33) (k1 := 4) (k2 := 26) rfl rfl rfl ?_
  refine row_putF E B iX5 rfl tyX5 tyX5_ok nmX5 6 (by decide) w_02977e6a rfl hnm rfl (ws.length + 0) ((at_pp _ _ _ _).trans rfl) rfl rfl (Nat.le_of_ble_eq_true rfl) dX5_init_33 ?_
  clear B
  intro H locs B
  replace B := Hp.to B (set_pp ..)
  replace B := Hp.to (ws' := ws ++ ([(h, .inr (5, [.null, .null, .null, .ref q1, .ref q2, .ref q3, .ref q4, .null, .int 0, .int 0])), (q1, .inl (ct 0, 8, .inl (fun _ => 0))), (q2, .inl (ct 0, 6, .inl (fun _ => 0))), (q3, .inl (ct 0, 6, .inl (fun _ => 0))), (q4, .inl (ct 0, 6, .inl (fun _ => 0)))] : va_W)) B rfl
  refine at_pc (n := 36) rfl ?_
  refine lv_aload_n E.1.1 E.1.2.1 dX5_init_36 rfl (lv_at hl 0 rfl) ?_
  refine lv_bipush (v := 6) E.1.1 E.1.2.1 dX5_init_37 (by decide) ?_
  refine row_newa (atype := .int) (a0 := (6, .inl (fun _ => 0))) E B w_e8e14353 rfl 0 rfl (fun _ => rfl) (by decide) (by decide) (Nat.le_of_ble_eq_true rfl) (Nat.le_of_ble_eq_true rfl) (Nat.le_of_ble_eq_true rfl) dX5_init_39 ?_
  clear B
  intro q5 H B
  refine at_n (n := 41) (k1 := 5) (k2 := 32) rfl rfl rfl ?_
  refine row_putF E B iX5 rfl tyX5 tyX5_ok nmX5 7 (by decide) w_223a3c49 rfl hnm rfl (ws.length + 0) ((at_pp _ _ _ _).trans rfl) rfl rfl (Nat.le_of_ble_eq_true rfl) dX5_init_41 ?_
  clear B
  intro H locs B
  replace B := Hp.to B (set_pp ..)
  replace B := Hp.to (ws' := ws ++ ([(h, .inr (5, [.null, .null, .null, .ref q1, .ref q2, .ref q3, .ref q4, .ref q5, .int 0, .int 0])), (q1, .inl (ct 0, 8, .inl (fun _ => 0))), (q2, .inl (ct 0, 6, .inl (fun _ => 0))), (q3, .inl (ct 0, 6, .inl (fun _ => 0))), (q4, .inl (ct 0, 6, .inl (fun _ => 0))), (q5, .inl (ct 0, 6, .inl (fun _ => 0)))] : va_W)) B rfl
  refine at_pc (n := 44) rfl ?_
  refine lv_aload_n E.1.1 E.1.2.1 dX5_init_44 rfl (lv_at hl 0 rfl) ?_
  refine lv_aload_n E.1.1 E.1.2.1 dX5_init_45 rfl (lv_at hl 1 rfl) ?_
  refine row_putF E B iX5 rfl tyX5 tyX5_ok nmX5 0 (by decide) w_4e23eec2 rfl hnm rfl (ws.length + 0) ((at_p _ _ _).trans rfl) rfl rfl (Nat.le_of_ble_eq_true rfl) dX5_init_46 ?_
  clear B
  intro H locs B
  replace B := Hp.to B (set_p ..)
  replace B := Hp.to (ws' := ws ++ ([(h, .inr (5, [.ref x0, .null, .null, .ref q1, .ref q2, .ref q3, .ref q4, .ref q5, .int 0, .int 0])), (q1, .inl (ct 0, 8, .inl (fun _ => 0))), (q2, .inl (ct 0, 6, .inl (fun _ => 0))), (q3, .inl (ct 0, 6, .inl (fun _ => 0))), (q4, .inl (ct 0, 6, .inl (fun _ => 0))), (q5, .inl (ct 0, 6, .inl (fun _ => 0)))] : va_W)) B rfl
  refine at_pc (n := 49) rfl ?_
  refine lv_aload_n E.1.1 E.1.2.1 dX5_init_49 rfl (lv_at hl 0 rfl) ?_
  refine lv_aload_n E.1.1 E.1.2.1 dX5_init_50 rfl (lv_at hl 2 rfl) ?_
  refine row_putF E B iX5 rfl tyX5 tyX5_ok nmX5 1 (by decide) w_2a2dd35a rfl hnm rfl (ws.length + 0) ((at_p _ _ _).trans rfl) rfl rfl (Nat.le_of_ble_eq_true rfl) dX5_init_51 ?_
  clear B
  intro H locs B
  replace B := Hp.to B (set_p ..)
  replace B := Hp.to (ws' := ws ++ ([(h, .inr (5, [.ref x0, .ref x1, .null, .ref q1, .ref q2, .ref q3, .ref q4, .ref q5, .int 0, .int 0])), (q1, .inl (ct 0, 8, .inl (fun _ => 0))), (q2, .inl (ct 0, 6, .inl (fun _ => 0))), (q3, .inl (ct 0, 6, .inl (fun _ => 0))), (q4, .inl (ct 0, 6, .inl (fun _ => 0))), (q5, .inl (ct 0, 6, .inl (fun _ => 0)))] : va_W)) B rfl
  refine at_pc (n := 54) rfl ?_
  refine lv_aload_n E.1.1 E.1.2.1 dX5_init_54 rfl (lv_at hl 0 rfl) ?_
  refine lv_aload_n E.1.1 E.1.2.1 dX5_init_55 rfl (lv_at hl 3 rfl) ?_
  refine row_putF E B iX5 rfl tyX5 tyX5_ok nmX5 2 (by decide) w_0aa8a6bb rfl hnm rfl (ws.length + 0) ((at_p _ _ _).trans rfl) rfl rfl (Nat.le_of_ble_eq_true rfl) dX5_init_56 ?_
  clear B
  intro H locs B
  replace B := Hp.to B (set_p ..)
  replace B := Hp.to (ws' := ws ++ ([(h, .inr (5, [.ref x0, .ref x1, .ref x2, .ref q1, .ref q2, .ref q3, .ref q4, .ref q5, .int 0, .int 0])), (q1, .inl (ct 0, 8, .inl (fun _ => 0))), (q2, .inl (ct 0, 6, .inl (fun _ => 0))), (q3, .inl (ct 0, 6, .inl (fun _ => 0))), (q4, .inl (ct 0, 6, .inl (fun _ => 0))), (q5, .inl (ct 0, 6, .inl (fun _ => 0)))] : va_W)) B rfl
  refine at_pc (n := 59) rfl ?_
  exact ret_V (u := (fun k => ([q1, q2, q3, q4, q5] : List Nat).getD k 0)) E hr hlk B trivial dX5_init_59
def WI11 (ct : Nat → ClassId) (tN : Nat) (ws : va_W) (h : Nat)  (u : Nat → Nat) : va_W := ws ++ ([(h, .inr (11, [.ref (u 0), .ref (u 1), .ref (u 2), .ref (u 5), .ref (u 11), .ref (u 15), .ref (u 26), .ref (u 32), .ref (u 33), .ref (u 34), .ref (u 41), .ref (u 49), .int 0, .int 0])), ((u 0), .inl (ct 0, 200, .inl (fun _ => 0))), ((u 1), .inl (ct 0, 13, .inl (fun _ => 0))), ((u 2), .inr (10, [.ref (u 3), .ref (u 4), .int 0])), ((u 3), .inl (ct 1, 4800, .inl (fun _ => 0))), ((u 4), .inl (ct 1, 400, .inl (fun _ => 0))), ((u 5), .inr (9, [.ref (u 6), .ref (u 7), .ref (u 8), .ref (u 9), .ref (u 10), .int 0])), ((u 6), .inl (ct 0, 60, .inl (fun _ => 0))), ((u 7), .inl (ct 0, 60, .inl (fun _ => 0))), ((u 8), .inl (ct 4, 180, .inr (.inr (.inr (.inr (fun _ => none)))))), ((u 9), .inl (ct 0, 480, .inl (fun _ => 0))), ((u 10), .inl (ct 0, 480, .inl (fun _ => 0))), ((u 11), .inr (4, [.ref (u 12), .ref (u 13), .ref (u 14), .int 0, .int 0, .int 0, .int 0, .int 0])), ((u 12), .inl (ct 0, 6, .inl (fun _ => 0))), ((u 13), .inl (ct 0, 6, .inl (fun _ => 0))), ((u 14), .inl (ct 0, 6, .inl (fun _ => 0))), ((u 15), .inr (2, [.ref (u 16), .ref (u 17), .ref (u 18), .ref (u 19), .ref (u 20), .ref (u 21), .ref (u 22), .ref (u 23), .ref (u 24), .ref (u 25), .int 0])), ((u 16), .inl (ct 4, 20, .inr (.inr (.inr (.inr (fun _ => none)))))), ((u 17), .inl (ct 0, 20, .inl (fun _ => 0))), ((u 18), .inl (ct 0, 20, .inl (fun _ => 0))), ((u 19), .inl (ct 0, 20, .inl (fun _ => 0))), ((u 20), .inl (ct 0, 20, .inl (fun _ => 0))), ((u 21), .inl (ct 0, 320, .inl (fun _ => 0))), ((u 22), .inl (ct 0, 320, .inl (fun _ => 0))), ((u 23), .inl (ct 0, 320, .inl (fun _ => 0))), ((u 24), .inl (ct 0, 320, .inl (fun _ => 0))), ((u 25), .inl (ct 0, 320, .inl (fun _ => 0))), ((u 26), .inr (8, [.ref (u 27), .ref (u 28), .ref (u 29), .ref (u 30), .ref (u 31), .int 0, .int 0])), ((u 27), .inl (ct 5, 200, .inr (.inr (.inr (.inr (fun _ => none)))))), ((u 28), .inl (ct 0, 60, .inl (fun _ => -1))), ((u 29), .inl (ct 0, 1024, .inl (fun _ => 0))), ((u 30), .inl (ct 0, 1024, .inl (fun _ => 0))), ((u 31), .inl (ct 0, 1024, .inl (fun _ => 0))), ((u 32), .inr (3, [.ref (u 15), .ref tN, .int 0, .int 0, .int 0, .int 0, .int 0])), ((u 33), .inr (6, [.ref (u 15), .ref (u 5), .ref (u 11), .int 0, .int 0, .int 0, .int 0, .int 0, .int 0, .int 0, .int 0, .ref tN, .int 0, .int 0])), ((u 34), .inr (1, [.ref (u 15), .ref (u 5), .ref (u 33), .ref (u 26), .ref (u 35), .ref (u 36), .ref (u 37), .ref (u 38), .ref (u 39), .ref (u 40), .int 0, .int 0, .int 0])), ((u 35), .inl (ct 0, 5, .inl (fun _ => 0))), ((u 36), .inl (ct 0, 320, .inl (fun _ => 0))), ((u 37), .inl (ct 0, 420, .inl (fun _ => 0))), ((u 38), .inl (ct 0, 420, .inl (fun _ => 0))), ((u 39), .inl (ct 0, 420, .inl (fun _ => 0))), ((u 40), .inl (ct 2, 300, .inr (.inl (fun _ => 0)))), ((u 41), .inr (0, [.ref (u 15), .ref (u 5), .ref (u 33), .ref (u 26), .ref (u 42), .ref (u 43), .ref (u 44), .ref (u 45), .ref (u 46), .ref (u 47), .ref (u 48), .int 0, .int 0, .int 0])), ((u 42), .inl (ct 0, 6, .inl (fun _ => 0))), ((u 43), .inl (ct 0, 6, .inl (fun _ => 0))), ((u 44), .inl (ct 0, 24, .inl (fun _ => 0))), ((u 45), .inl (ct 2, 40, .inr (.inl (fun _ => 0)))), ((u 46), .inl (ct 0, 24, .inl (fun _ => 0))), ((u 47), .inl (ct 3, 24, .inl (fun _ => 0))), ((u 48), .inl (ct 0, 6, .inl (fun _ => 0))), ((u 49), .inr (5, [.ref (u 5), .ref (u 11), .ref (u 26), .ref (u 50), .ref (u 51), .ref (u 52), .ref (u 53), .ref (u 54), .int 0, .int 0])), ((u 50), .inl (ct 0, 8, .inl (fun _ => 0))), ((u 51), .inl (ct 0, 6, .inl (fun _ => 0))), ((u 52), .inl (ct 0, 6, .inl (fun _ => 0))), ((u 53), .inl (ct 0, 6, .inl (fun _ => 0))), ((u 54), .inl (ct 0, 6, .inl (fun _ => 0)))] : va_W)
set_option maxHeartbeats 8000000 in
set_option maxRecDepth 100000 in
theorem init_X11 (l : Launch) (D : va_G) (ct : Nat → ClassId) (tN : Nat) (ws : va_W) (h : Nat)  : MV l D (TY ct) tN yX11_init cX11_init 1 ({ frames := 2, cells := 55, slots := 13863, locals := 120 } : Room) [.ref h] (ws ++ ([(h, .inr (11, [.null, .null, .null, .null, .null, .null, .null, .null, .null, .null, .null, .null, .int 0, .int 0]))] : va_W)) (fun (u : Nat → Nat) => True) (WI11 ct tN ws h ) 55 13863 := by
  intro sz
  refine Met.ofE (Qc := fun A => va_Qv (fun (u : Nat → Nat) => True) (BW D A (WI11 ct tN ws h )) A) (by decide) (Nat.le_of_ble_eq_true rfl) ?_
  intro p e s m args below meth c A ls hsz E hr hlk hnm B hl
  have hnm : "<init>" = meth.name := hnm
  replace hl : lv_has ls 1 [(0, .ref h)] := hl
  refine lv_aload_n E.1.1 E.1.2.1 dX11_init_0 rfl (lv_at hl 0 rfl) ?_
  refine row_obj E w_18bc2c87 w_08b13607 w_47dee913 hl dX11_init_1 (Nat.le_of_ble_eq_true rfl) (Nat.le_of_ble_eq_true rfl) ?_
  refine lv_aload_n E.1.1 E.1.2.1 dX11_init_4 rfl (lv_at hl 0 rfl) ?_
  refine lv_sipush (v := 200) E.1.1 E.1.2.1 dX11_init_5 (by decide) ?_
  refine row_newa (atype := .int) (a0 := (200, .inl (fun _ => 0))) E B w_e8e14353 rfl 0 rfl (fun _ => rfl) (by decide) (by decide) (Nat.le_of_ble_eq_true rfl) (Nat.le_of_ble_eq_true rfl) (Nat.le_of_ble_eq_true rfl) dX11_init_8 ?_
  clear B
  intro q1 H B
  refine at_n (n := 10) (k1 := 1) (k2 := 200) rfl rfl rfl ?_
  refine row_putF E B iX11 rfl tyX11 tyX11_ok nmX11 0 (by decide) w_18ce4b9a rfl hnm rfl (ws.length + 0) ((at_pp _ _ _ _).trans rfl) rfl rfl (Nat.le_of_ble_eq_true rfl) dX11_init_10 ?_
  clear B
  intro H locs B
  replace B := Hp.to B (set_pp ..)
  replace B := Hp.to (ws' := ws ++ ([(h, .inr (11, [.ref q1, .null, .null, .null, .null, .null, .null, .null, .null, .null, .null, .null, .int 0, .int 0])), (q1, .inl (ct 0, 200, .inl (fun _ => 0)))] : va_W)) B rfl
  refine at_pc (n := 13) rfl ?_
  refine lv_aload_n E.1.1 E.1.2.1 dX11_init_13 rfl (lv_at hl 0 rfl) ?_
  refine lv_bipush (v := 13) E.1.1 E.1.2.1 dX11_init_14 (by decide) ?_
  refine row_newa (atype := .int) (a0 := (13, .inl (fun _ => 0))) E B w_e8e14353 rfl 0 rfl (fun _ => rfl) (by decide) (by decide) (Nat.le_of_ble_eq_true rfl) (Nat.le_of_ble_eq_true rfl) (Nat.le_of_ble_eq_true rfl) dX11_init_16 ?_
  clear B
  intro q2 H B
  refine at_n (n := 18) (k1 := 2) (k2 := 213) rfl rfl rfl ?_
  refine row_putF E B iX11 rfl tyX11 tyX11_ok nmX11 1 (by decide) w_b34a3acb rfl hnm rfl (ws.length + 0) ((at_pp _ _ _ _).trans rfl) rfl rfl (Nat.le_of_ble_eq_true rfl) dX11_init_18 ?_
  clear B
  intro H locs B
  replace B := Hp.to B (set_pp ..)
  replace B := Hp.to (ws' := ws ++ ([(h, .inr (11, [.ref q1, .ref q2, .null, .null, .null, .null, .null, .null, .null, .null, .null, .null, .int 0, .int 0])), (q1, .inl (ct 0, 200, .inl (fun _ => 0))), (q2, .inl (ct 0, 13, .inl (fun _ => 0)))] : va_W)) B rfl
  refine at_pc (n := 21) rfl ?_
  refine lv_aload_n E.1.1 E.1.2.1 dX11_init_21 rfl (lv_at hl 0 rfl) ?_
  refine row_new (ci := 10) (fs := [.null, .null, .int 0]) E B iX10 rfl tyX10 tyX10_ok w_7ba1509f w_164bc0a7 w_fea14522 (fun j hj => hd_10 j hj) (Nat.le_of_ble_eq_true rfl) (Nat.le_of_ble_eq_true rfl) dX11_init_22 ?_
  clear B
  intro q3 H B
  replace B := Hp.to (ws' := ws ++ ([(h, .inr (11, [.ref q1, .ref q2, .null, .null, .null, .null, .null, .null, .null, .null, .null, .null, .int 0, .int 0])), (q1, .inl (ct 0, 200, .inl (fun _ => 0))), (q2, .inl (ct 0, 13, .inl (fun _ => 0))), (q3, .inr (10, [.null, .null, .int 0]))] : va_W)) B (List.append_assoc ..)
  refine at_n (n := 25) (k1 := 3) (k2 := 216) rfl rfl rfl ?_
  refine lv_dup E.1.1 E.1.2.1 dX11_init_25 rfl ?_
  replace B := Hp.to (ws' := (ws ++ ([(h, .inr (11, [.ref q1, .ref q2, .null, .null, .null, .null, .null, .null, .null, .null, .null, .null, .int 0, .int 0])), (q1, .inl (ct 0, 200, .inl (fun _ => 0))), (q2, .inl (ct 0, 13, .inl (fun _ => 0)))] : va_W)) ++ ([(q3, .inr (10, [.null, .null, .int 0]))] : va_W)) B (spl rfl)
  refine call_IVN (kn := 0) E B (init_X10 l D ct tN _ q3) (ws_good w_338a89b6) w_fea14522 (by decide +kernel) w_28b5f134 rfl (by decide +kernel) rfl rfl rfl ⟨by decide, by decide⟩ rfl hl (Nat.le_of_ble_eq_true rfl) dX11_init_26 ⟨Nat.le_of_ble_eq_true rfl, Nat.le_of_ble_eq_true rfl⟩ ?_
  clear B
  intro u4 H locs _ B
  replace B := Hp.to (ws' := ws ++ ([(h, .inr (11, [.ref q1, .ref q2, .null, .null, .null, .null, .null, .null, .null, .null, .null, .null, .int 0, .int 0])), (q1, .inl (ct 0, 200, .inl (fun _ => 0))), (q2, .inl (ct 0, 13, .inl (fun _ => 0))), (q3, .inr (10, [.ref (u4 0), .ref (u4 1), .int 0])), ((u4 0), .inl (ct 1, 4800, .inl (fun _ => 0))), ((u4 1), .inl (ct 1, 400, .inl (fun _ => 0)))] : va_W)) B (List.append_assoc ..)
  refine at_n (n := 29) (k1 := 5) (k2 := 5416) rfl rfl rfl ?_
  refine row_putF E B iX11 rfl tyX11 tyX11_ok nmX11 2 (by decide) w_b4c13842 rfl hnm rfl (ws.length + 0) ((at_p _ _ _).trans rfl) rfl rfl (Nat.le_of_ble_eq_true rfl) dX11_init_29 ?_
  clear B
  intro H locs B
  replace B := Hp.to B (set_p ..)
  replace B := Hp.to (ws' := ws ++ ([(h, .inr (11, [.ref q1, .ref q2, .ref q3, .null, .null, .null, .null, .null, .null, .null, .null, .null, .int 0, .int 0])), (q1, .inl (ct 0, 200, .inl (fun _ => 0))), (q2, .inl (ct 0, 13, .inl (fun _ => 0))), (q3, .inr (10, [.ref (u4 0), .ref (u4 1), .int 0])), ((u4 0), .inl (ct 1, 4800, .inl (fun _ => 0))), ((u4 1), .inl (ct 1, 400, .inl (fun _ => 0)))] : va_W)) B rfl
  refine at_pc (n := 32) rfl ?_
  refine lv_aload_n E.1.1 E.1.2.1 dX11_init_32 rfl (lv_at hl 0 rfl) ?_
  refine row_new (ci := 9) (fs := [.null, .null, .null, .null, .null, .int 0]) E B iX9 rfl tyX9 tyX9_ok w_e715b65e w_37061820 w_10e27d46 (fun j hj => hd_9 j hj) (Nat.le_of_ble_eq_true rfl) (Nat.le_of_ble_eq_true rfl) dX11_init_33 ?_
  clear B
  intro q5 H B
  replace B := Hp.to (ws' := ws ++ ([(h, .inr (11, [.ref q1, .ref q2, .ref q3, .null, .null, .null, .null, .null, .null, .null, .null, .null, .int 0, .int 0])), (q1, .inl (ct 0, 200, .inl (fun _ => 0))), (q2, .inl (ct 0, 13, .inl (fun _ => 0))), (q3, .inr (10, [.ref (u4 0), .ref (u4 1), .int 0])), ((u4 0), .inl (ct 1, 4800, .inl (fun _ => 0))), ((u4 1), .inl (ct 1, 400, .inl (fun _ => 0))), (q5, .inr (9, [.null, .null, .null, .null, .null, .int 0]))] : va_W)) B (List.append_assoc ..)
  refine at_n (n := 36) (k1 := 6) (k2 := 5422) rfl rfl rfl ?_
  refine lv_dup E.1.1 E.1.2.1 dX11_init_36 rfl ?_
  replace B := Hp.to (ws' := (ws ++ ([(h, .inr (11, [.ref q1, .ref q2, .ref q3, .null, .null, .null, .null, .null, .null, .null, .null, .null, .int 0, .int 0])), (q1, .inl (ct 0, 200, .inl (fun _ => 0))), (q2, .inl (ct 0, 13, .inl (fun _ => 0))), (q3, .inr (10, [.ref (u4 0), .ref (u4 1), .int 0])), ((u4 0), .inl (ct 1, 4800, .inl (fun _ => 0))), ((u4 1), .inl (ct 1, 400, .inl (fun _ => 0)))] : va_W)) ++ ([(q5, .inr (9, [.null, .null, .null, .null, .null, .int 0]))] : va_W)) B (spl rfl)
  refine call_IVN (kn := 0) E B (init_X9 l D ct tN _ q5) (ws_good w_e4988b7f) w_10e27d46 (by decide +kernel) w_4f2272bc rfl (by decide +kernel) rfl rfl rfl ⟨by decide, by decide⟩ rfl hl (Nat.le_of_ble_eq_true rfl) dX11_init_37 ⟨Nat.le_of_ble_eq_true rfl, Nat.le_of_ble_eq_true rfl⟩ ?_
  clear B
  intro u6 H locs _ B
  replace B := Hp.to (ws' := ws ++ ([(h, .inr (11, [.ref q1, .ref q2, .ref q3, .null, .null, .null, .null, .null, .null, .null, .null, .null, .int 0, .int 0])), (q1, .inl (ct 0, 200, .inl (fun _ => 0))), (q2, .inl (ct 0, 13, .inl (fun _ => 0))), (q3, .inr (10, [.ref (u4 0), .ref (u4 1), .int 0])), ((u4 0), .inl (ct 1, 4800, .inl (fun _ => 0))), ((u4 1), .inl (ct 1, 400, .inl (fun _ => 0))), (q5, .inr (9, [.ref (u6 0), .ref (u6 1), .ref (u6 2), .ref (u6 3), .ref (u6 4), .int 0])), ((u6 0), .inl (ct 0, 60, .inl (fun _ => 0))), ((u6 1), .inl (ct 0, 60, .inl (fun _ => 0))), ((u6 2), .inl (ct 4, 180, .inr (.inr (.inr (.inr (fun _ => none)))))), ((u6 3), .inl (ct 0, 480, .inl (fun _ => 0))), ((u6 4), .inl (ct 0, 480, .inl (fun _ => 0)))] : va_W)) B (List.append_assoc ..)
  refine at_n (n := 40) (k1 := 11) (k2 := 6682) rfl rfl rfl ?_
  refine row_putF E B iX11 rfl tyX11 tyX11_ok nmX11 3 (by decide) w_49df9d0b rfl hnm rfl (ws.length + 0) ((at_p _ _ _).trans rfl) rfl rfl (Nat.le_of_ble_eq_true rfl) dX11_init_40 ?_
  clear B
  intro H locs B
  replace B := Hp.to B (set_p ..)
  replace B := Hp.to (ws' := ws ++ ([(h, .inr (11, [.ref q1, .ref q2, .ref q3, .ref q5, .null, .null, .null, .null, .null, .null, .null, .null, .int 0, .int 0])), (q1, .inl (ct 0, 200, .inl (fun _ => 0))), (q2, .inl (ct 0, 13, .inl (fun _ => 0))), (q3, .inr (10, [.ref (u4 0), .ref (u4 1), .int 0])), ((u4 0), .inl (ct 1, 4800, .inl (fun _ => 0))), ((u4 1), .inl (ct 1, 400, .inl (fun _ => 0))), (q5, .inr (9, [.ref (u6 0), .ref (u6 1), .ref (u6 2), .ref (u6 3), .ref (u6 4), .int 0])), ((u6 0), .inl (ct 0, 60, .inl (fun _ => 0))), ((u6 1), .inl (ct 0, 60, .inl (fun _ => 0))), ((u6 2), .inl (ct 4, 180, .inr (.inr (.inr (.inr (fun _ => none)))))), ((u6 3), .inl (ct 0, 480, .inl (fun _ => 0))), ((u6 4), .inl (ct 0, 480, .inl (fun _ => 0)))] : va_W)) B rfl
  refine at_pc (n := 43) rfl ?_
  refine lv_aload_n E.1.1 E.1.2.1 dX11_init_43 rfl (lv_at hl 0 rfl) ?_
  refine row_new (ci := 4) (fs := [.null, .null, .null, .int 0, .int 0, .int 0, .int 0, .int 0]) E B iX4 rfl tyX4 tyX4_ok w_e576aa08 w_d84cfa56 w_2113d9a9 (fun j hj => hd_4 j hj) (Nat.le_of_ble_eq_true rfl) (Nat.le_of_ble_eq_true rfl) dX11_init_44 ?_
  clear B
  intro q7 H B
  replace B := Hp.to (ws' := ws ++ ([(h, .inr (11, [.ref q1, .ref q2, .ref q3, .ref q5, .null, .null, .null, .null, .null, .null, .null, .null, .int 0, .int 0])), (q1, .inl (ct 0, 200, .inl (fun _ => 0))), (q2, .inl (ct 0, 13, .inl (fun _ => 0))), (q3, .inr (10, [.ref (u4 0), .ref (u4 1), .int 0])), ((u4 0), .inl (ct 1, 4800, .inl (fun _ => 0))), ((u4 1), .inl (ct 1, 400, .inl (fun _ => 0))), (q5, .inr (9, [.ref (u6 0), .ref (u6 1), .ref (u6 2), .ref (u6 3), .ref (u6 4), .int 0])), ((u6 0), .inl (ct 0, 60, .inl (fun _ => 0))), ((u6 1), .inl (ct 0, 60, .inl (fun _ => 0))), ((u6 2), .inl (ct 4, 180, .inr (.inr (.inr (.inr (fun _ => none)))))), ((u6 3), .inl (ct 0, 480, .inl (fun _ => 0))), ((u6 4), .inl (ct 0, 480, .inl (fun _ => 0))), (q7, .inr (4, [.null, .null, .null, .int 0, .int 0, .int 0, .int 0, .int 0]))] : va_W)) B (List.append_assoc ..)
  refine at_n (n := 47) (k1 := 12) (k2 := 6690) rfl rfl rfl ?_
  refine lv_dup E.1.1 E.1.2.1 dX11_init_47 rfl ?_
  replace B := Hp.to (ws' := (ws ++ ([(h, .inr (11, [.ref q1, .ref q2, .ref q3, .ref q5, .null, .null, .null, .null, .null, .null, .null, .null, .int 0, .int 0])), (q1, .inl (ct 0, 200, .inl (fun _ => 0))), (q2, .inl (ct 0, 13, .inl (fun _ => 0))), (q3, .inr (10, [.ref (u4 0), .ref (u4 1), .int 0])), ((u4 0), .inl (ct 1, 4800, .inl (fun _ => 0))), ((u4 1), .inl (ct 1, 400, .inl (fun _ => 0))), (q5, .inr (9, [.ref (u6 0), .ref (u6 1), .ref (u6 2), .ref (u6 3), .ref (u6 4), .int 0])), ((u6 0), .inl (ct 0, 60, .inl (fun _ => 0))), ((u6 1), .inl (ct 0, 60, .inl (fun _ => 0))), ((u6 2), .inl (ct 4, 180, .inr (.inr (.inr (.inr (fun _ => none)))))), ((u6 3), .inl (ct 0, 480, .inl (fun _ => 0))), ((u6 4), .inl (ct 0, 480, .inl (fun _ => 0)))] : va_W)) ++ ([(q7, .inr (4, [.null, .null, .null, .int 0, .int 0, .int 0, .int 0, .int 0]))] : va_W)) B (spl rfl)
  refine call_IVN (kn := 0) E B (init_X4 l D ct tN _ q7) (ws_good w_228bb200) w_2113d9a9 (by decide +kernel) w_6833d132 rfl (by decide +kernel) rfl rfl rfl ⟨by decide, by decide⟩ rfl hl (Nat.le_of_ble_eq_true rfl) dX11_init_48 ⟨Nat.le_of_ble_eq_true rfl, Nat.le_of_ble_eq_true rfl⟩ ?_
  clear B
  intro u8 H locs _ B
  replace B := Hp.to (ws' := ws ++ ([(h, .inr (11, [.ref q1, .ref q2, .ref q3, .ref q5, .null, .null, .null, .null, .null, .null, .null, .null, .int 0, .int 0])), (q1, .inl (ct 0, 200, .inl (fun _ => 0))), (q2, .inl (ct 0, 13, .inl (fun _ => 0))), (q3, .inr (10, [.ref (u4 0), .ref (u4 1), .int 0])), ((u4 0), .inl (ct 1, 4800, .inl (fun _ => 0))), ((u4 1), .inl (ct 1, 400, .inl (fun _ => 0))), (q5, .inr (9, [.ref (u6 0), .ref (u6 1), .ref (u6 2), .ref (u6 3), .ref (u6 4), .int 0])), ((u6 0), .inl (ct 0, 60, .inl (fun _ => 0))), ((u6 1), .inl (ct 0, 60, .inl (fun _ => 0))), ((u6 2), .inl (ct 4, 180, .inr (.inr (.inr (.inr (fun _ => none)))))), ((u6 3), .inl (ct 0, 480, .inl (fun _ => 0))), ((u6 4), .inl (ct 0, 480, .inl (fun _ => 0))), (q7, .inr (4, [.ref (u8 0), .ref (u8 1), .ref (u8 2), .int 0, .int 0, .int 0, .int 0, .int 0])), ((u8 0), .inl (ct 0, 6, .inl (fun _ => 0))), ((u8 1), .inl (ct 0, 6, .inl (fun _ => 0))), ((u8 2), .inl (ct 0, 6, .inl (fun _ => 0)))] : va_W)) B (List.append_assoc ..)
  refine at_n (n := 51) (k1 := 15) (k2 := 6708) rfl rfl rfl ?_
  refine row_putF E B iX11 rfl tyX11 tyX11_ok nmX11 4 (by decide) w_2632cf99 rfl hnm rfl (ws.length + 0) ((at_p _ _ _).trans rfl) rfl rfl (Nat.le_of_ble_eq_true rfl) dX11_init_51 ?_
  clear B
  intro H locs B
  replace B := Hp.to B (set_p ..)
  replace B := Hp.to (ws' := ws ++ ([(h, .inr (11, [.ref q1, .ref q2, .ref q3, .ref q5, .ref q7, .null, .null, .null, .null, .null, .null, .null, .int 0, .int 0])), (q1, .inl (ct 0, 200, .inl (fun _ => 0))), (q2, .inl (ct 0, 13, .inl (fun _ => 0))), (q3, .inr (10, [.ref (u4 0), .ref (u4 1), .int 0])), ((u4 0), .inl (ct 1, 4800, .inl (fun _ => 0))), ((u4 1), .inl (ct 1, 400, .inl (fun _ => 0))), (q5, .inr (9, [.ref (u6 0), .ref (u6 1), .ref (u6 2), .ref (u6 3), .ref (u6 4), .int 0])), ((u6 0), .inl (ct 0, 60, .inl (fun _ => 0))), ((u6 1), .inl (ct 0, 60, .inl (fun _ => 0))), ((u6 2), .inl (ct 4, 180, .inr (.inr (.inr (.inr (fun _ => none)))))), ((u6 3), .inl (ct 0, 480, .inl (fun _ => 0))), ((u6 4), .inl (ct 0, 480, .inl (fun _ => 0))), (q7, .inr (4, [.ref (u8 0), .ref (u8 1), .ref (u8 2), .int 0, .int 0, .int 0, .int 0, .int 0])), ((u8 0), .inl (ct 0, 6, .inl (fun _ => 0))), ((u8 1), .inl (ct 0, 6, .inl (fun _ => 0))), ((u8 2), .inl (ct 0, 6, .inl (fun _ => 0)))] : va_W)) B rfl
  refine at_pc (n := 54) rfl ?_
  refine lv_aload_n E.1.1 E.1.2.1 dX11_init_54 rfl (lv_at hl 0 rfl) ?_
  refine row_new (ci := 2) (fs := [.null, .null, .null, .null, .null, .null, .null, .null, .null, .null, .int 0]) E B iX2 rfl tyX2 tyX2_ok w_84346e4a w_5f3a33a0 w_1d8cd083 (fun j hj => hd_2 j hj) (Nat.le_of_ble_eq_true rfl) (Nat.le_of_ble_eq_true rfl) dX11_init_55 ?_
  clear B
  intro q9 H B
  replace B := Hp.to (ws' := ws ++ ([(h, .inr (11, [.ref q1, .ref q2, .ref q3, .ref q5, .ref q7, .null, .null, .null, .null, .null, .null, .null, .int 0, .int 0])), (q1, .inl (ct 0, 200, .inl (fun _ => 0))), (q2, .inl (ct 0, 13, .inl (fun _ => 0))), (q3, .inr (10, [.ref (u4 0), .ref (u4 1), .int 0])), ((u4 0), .inl (ct 1, 4800, .inl (fun _ => 0))), ((u4 1), .inl (ct 1, 400, .inl (fun _ => 0))), (q5, .inr (9, [.ref (u6 0), .ref (u6 1), .ref (u6 2), .ref (u6 3), .ref (u6 4), .int 0])), ((u6 0), .inl (ct 0, 60, .inl (fun _ => 0))), ((u6 1), .inl (ct 0, 60, .inl (fun _ => 0))), ((u6 2), .inl (ct 4, 180, .inr (.inr (.inr (.inr (fun _ => none)))))), ((u6 3), .inl (ct 0, 480, .inl (fun _ => 0))), ((u6 4), .inl (ct 0, 480, .inl (fun _ => 0))), (q7, .inr (4, [.ref (u8 0), .ref (u8 1), .ref (u8 2), .int 0, .int 0, .int 0, .int 0, .int 0])), ((u8 0), .inl (ct 0, 6, .inl (fun _ => 0))), ((u8 1), .inl (ct 0, 6, .inl (fun _ => 0))), ((u8 2), .inl (ct 0, 6, .inl (fun _ => 0))), (q9, .inr (2, [.null, .null, .null, .null, .null, .null, .null, .null, .null, .null, .int 0]))] : va_W)) B (List.append_assoc ..)
  refine at_n (n := 58) (k1 := 16) (k2 := 6719) rfl rfl rfl ?_
  refine lv_dup E.1.1 E.1.2.1 dX11_init_58 rfl ?_
  replace B := Hp.to (ws' := (ws ++ ([(h, .inr (11, [.ref q1, .ref q2, .ref q3, .ref q5, .ref q7, .null, .null, .null, .null, .null, .null, .null, .int 0, .int 0])), (q1, .inl (ct 0, 200, .inl (fun _ => 0))), (q2, .inl (ct 0, 13, .inl (fun _ => 0))), (q3, .inr (10, [.ref (u4 0), .ref (u4 1), .int 0])), ((u4 0), .inl (ct 1, 4800, .inl (fun _ => 0))), ((u4 1), .inl (ct 1, 400, .inl (fun _ => 0))), (q5, .inr (9, [.ref (u6 0), .ref (u6 1), .ref (u6 2), .ref (u6 3), .ref (u6 4), .int 0])), ((u6 0), .inl (ct 0, 60, .inl (fun _ => 0))), ((u6 1), .inl (ct 0, 60, .inl (fun _ => 0))), ((u6 2), .inl (ct 4, 180, .inr (.inr (.inr (.inr (fun _ => none)))))), ((u6 3), .inl (ct 0, 480, .inl (fun _ => 0))), ((u6 4), .inl (ct 0, 480, .inl (fun _ => 0))), (q7, .inr (4, [.ref (u8 0), .ref (u8 1), .ref (u8 2), .int 0, .int 0, .int 0, .int 0, .int 0])), ((u8 0), .inl (ct 0, 6, .inl (fun _ => 0))), ((u8 1), .inl (ct 0, 6, .inl (fun _ => 0))), ((u8 2), .inl (ct 0, 6, .inl (fun _ => 0)))] : va_W)) ++ ([(q9, .inr (2, [.null, .null, .null, .null, .null, .null, .null, .null, .null, .null, .int 0]))] : va_W)) B (spl rfl)
  refine call_IVN (kn := 0) E B (init_X2 l D ct tN _ q9) (ws_good w_b646b6b2) w_1d8cd083 (by decide +kernel) w_c061ccb0 rfl (by decide +kernel) rfl rfl rfl ⟨by decide, by decide⟩ rfl hl (Nat.le_of_ble_eq_true rfl) dX11_init_59 ⟨Nat.le_of_ble_eq_true rfl, Nat.le_of_ble_eq_true rfl⟩ ?_
  clear B
  intro u10 H locs _ B
  replace B := Hp.to (ws' := ws ++ ([(h, .inr (11, [.ref q1, .ref q2, .ref q3, .ref q5, .ref q7, .null, .null, .null, .null, .null, .null, .null, .int 0, .int 0])), (q1, .inl (ct 0, 200, .inl (fun _ => 0))), (q2, .inl (ct 0, 13, .inl (fun _ => 0))), (q3, .inr (10, [.ref (u4 0), .ref (u4 1), .int 0])), ((u4 0), .inl (ct 1, 4800, .inl (fun _ => 0))), ((u4 1), .inl (ct 1, 400, .inl (fun _ => 0))), (q5, .inr (9, [.ref (u6 0), .ref (u6 1), .ref (u6 2), .ref (u6 3), .ref (u6 4), .int 0])), ((u6 0), .inl (ct 0, 60, .inl (fun _ => 0))), ((u6 1), .inl (ct 0, 60, .inl (fun _ => 0))), ((u6 2), .inl (ct 4, 180, .inr (.inr (.inr (.inr (fun _ => none)))))), ((u6 3), .inl (ct 0, 480, .inl (fun _ => 0))), ((u6 4), .inl (ct 0, 480, .inl (fun _ => 0))), (q7, .inr (4, [.ref (u8 0), .ref (u8 1), .ref (u8 2), .int 0, .int 0, .int 0, .int 0, .int 0])), ((u8 0), .inl (ct 0, 6, .inl (fun _ => 0))), ((u8 1), .inl (ct 0, 6, .inl (fun _ => 0))), ((u8 2), .inl (ct 0, 6, .inl (fun _ => 0))), (q9, .inr (2, [.ref (u10 0), .ref (u10 1), .ref (u10 2), .ref (u10 3), .ref (u10 4), .ref (u10 5), .ref (u10 6), .ref (u10 7), .ref (u10 8), .ref (u10 9), .int 0])), ((u10 0), .inl (ct 4, 20, .inr (.inr (.inr (.inr (fun _ => none)))))), ((u10 1), .inl (ct 0, 20, .inl (fun _ => 0))), ((u10 2), .inl (ct 0, 20, .inl (fun _ => 0))), ((u10 3), .inl (ct 0, 20, .inl (fun _ => 0))), ((u10 4), .inl (ct 0, 20, .inl (fun _ => 0))), ((u10 5), .inl (ct 0, 320, .inl (fun _ => 0))), ((u10 6), .inl (ct 0, 320, .inl (fun _ => 0))), ((u10 7), .inl (ct 0, 320, .inl (fun _ => 0))), ((u10 8), .inl (ct 0, 320, .inl (fun _ => 0))), ((u10 9), .inl (ct 0, 320, .inl (fun _ => 0)))] : va_W)) B (List.append_assoc ..)
  refine at_n (n := 62) (k1 := 26) (k2 := 8419) rfl rfl rfl ?_
  refine row_putF E B iX11 rfl tyX11 tyX11_ok nmX11 5 (by decide) w_2946730c rfl hnm rfl (ws.length + 0) ((at_p _ _ _).trans rfl) rfl rfl (Nat.le_of_ble_eq_true rfl) dX11_init_62 ?_
  clear B
  intro H locs B
  replace B := Hp.to B (set_p ..)
  replace B := Hp.to (ws' := ws ++ ([(h, .inr (11, [.ref q1, .ref q2, .ref q3, .ref q5, .ref q7, .ref q9, .null, .null, .null, .null, .null, .null, .int 0, .int 0])), (q1, .inl (ct 0, 200, .inl (fun _ => 0))), (q2, .inl (ct 0, 13, .inl (fun _ => 0))), (q3, .inr (10, [.ref (u4 0), .ref (u4 1), .int 0])), ((u4 0), .inl (ct 1, 4800, .inl (fun _ => 0))), ((u4 1), .inl (ct 1, 400, .inl (fun _ => 0))), (q5, .inr (9, [.ref (u6 0), .ref (u6 1), .ref (u6 2), .ref (u6 3), .ref (u6 4), .int 0])), ((u6 0), .inl (ct 0, 60, .inl (fun _ => 0))), ((u6 1), .inl (ct 0, 60, .inl (fun _ => 0))), ((u6 2), .inl (ct 4, 180, .inr (.inr (.inr (.inr (fun _ => none)))))), ((u6 3), .inl (ct 0, 480, .inl (fun _ => 0))), ((u6 4), .inl (ct 0, 480, .inl (fun _ => 0))), (q7, .inr (4, [.ref (u8 0), .ref (u8 1), .ref (u8 2), .int 0, .int 0, .int 0, .int 0, .int 0])), ((u8 0), .inl (ct 0, 6, .inl (fun _ => 0))), ((u8 1), .inl (ct 0, 6, .inl (fun _ => 0))), ((u8 2), .inl (ct 0, 6, .inl (fun _ => 0))), (q9, .inr (2, [.ref (u10 0), .ref (u10 1), .ref (u10 2), .ref (u10 3), .ref (u10 4), .ref (u10 5), .ref (u10 6), .ref (u10 7), .ref (u10 8), .ref (u10 9), .int 0])), ((u10 0), .inl (ct 4, 20, .inr (.inr (.inr (.inr (fun _ => none)))))), ((u10 1), .inl (ct 0, 20, .inl (fun _ => 0))), ((u10 2), .inl (ct 0, 20, .inl (fun _ => 0))), ((u10 3), .inl (ct 0, 20, .inl (fun _ => 0))), ((u10 4), .inl (ct 0, 20, .inl (fun _ => 0))), ((u10 5), .inl (ct 0, 320, .inl (fun _ => 0))), ((u10 6), .inl (ct 0, 320, .inl (fun _ => 0))), ((u10 7), .inl (ct 0, 320, .inl (fun _ => 0))), ((u10 8), .inl (ct 0, 320, .inl (fun _ => 0))), ((u10 9), .inl (ct 0, 320, .inl (fun _ => 0)))] : va_W)) B rfl
  refine at_pc (n := 65) rfl ?_
  refine lv_aload_n E.1.1 E.1.2.1 dX11_init_65 rfl (lv_at hl 0 rfl) ?_
  refine row_new (ci := 8) (fs := [.null, .null, .null, .null, .null, .int 0, .int 0]) E B iX8 rfl tyX8 tyX8_ok w_79d6b66d w_4f7b6957 w_e9e13901 (fun j hj => hd_8 j hj) (Nat.le_of_ble_eq_true rfl) (Nat.le_of_ble_eq_true rfl) dX11_init_66 ?_
  clear B
  intro q11 H B
  replace B := Hp.to (ws' := ws ++ ([(h, .inr (11, [.ref q1, .ref q2, .ref q3, .ref q5, .ref q7, .ref q9, .null, .null, .null, .null, .null, .null, .int 0, .int 0])), (q1, .inl (ct 0, 200, .inl (fun _ => 0))), (q2, .inl (ct 0, 13, .inl (fun _ => 0))), (q3, .inr (10, [.ref (u4 0), .ref (u4 1), .int 0])), ((u4 0), .inl (ct 1, 4800, .inl (fun _ => 0))), ((u4 1), .inl (ct 1, 400, .inl (fun _ => 0))), (q5, .inr (9, [.ref (u6 0), .ref (u6 1), .ref (u6 2), .ref (u6 3), .ref (u6 4), .int 0])), ((u6 0), .inl (ct 0, 60, .inl (fun _ => 0))), ((u6 1), .inl (ct 0, 60, .inl (fun _ => 0))), ((u6 2), .inl (ct 4, 180, .inr (.inr (.inr (.inr (fun _ => none)))))), ((u6 3), .inl (ct 0, 480, .inl (fun _ => 0))), ((u6 4), .inl (ct 0, 480, .inl (fun _ => 0))), (q7, .inr (4, [.ref (u8 0), .ref (u8 1), .ref (u8 2), .int 0, .int 0, .int 0, .int 0, .int 0])), ((u8 0), .inl (ct 0, 6, .inl (fun _ => 0))), ((u8 1), .inl (ct 0, 6, .inl (fun _ => 0))), ((u8 2), .inl (ct 0, 6, .inl (fun _ => 0))), (q9, .inr (2, [.ref (u10 0), .ref (u10 1), .ref (u10 2), .ref (u10 3), .ref (u10 4), .ref (u10 5), .ref (u10 6), .ref (u10 7), .ref (u10 8), .ref (u10 9), .int 0])), ((u10 0), .inl (ct 4, 20, .inr (.inr (.inr (.inr (fun _ => none)))))), ((u10 1), .inl (ct 0, 20, .inl (fun _ => 0))), ((u10 2), .inl (ct 0, 20, .inl (fun _ => 0))), ((u10 3), .inl (ct 0, 20, .inl (fun _ => 0))), ((u10 4), .inl (ct 0, 20, .inl (fun _ => 0))), ((u10 5), .inl (ct 0, 320, .inl (fun _ => 0))), ((u10 6), .inl (ct 0, 320, .inl (fun _ => 0))), ((u10 7), .inl (ct 0, 320, .inl (fun _ => 0))), ((u10 8), .inl (ct 0, 320, .inl (fun _ => 0))), ((u10 9), .inl (ct 0, 320, .inl (fun _ => 0))), (q11, .inr (8, [.null, .null, .null, .null, .null, .int 0, .int 0]))] : va_W)) B (List.append_assoc ..)
  refine at_n (n := 69) (k1 := 27) (k2 := 8426) rfl rfl rfl ?_
  refine lv_dup E.1.1 E.1.2.1 dX11_init_69 rfl ?_
  replace B := Hp.to (ws' := (ws ++ ([(h, .inr (11, [.ref q1, .ref q2, .ref q3, .ref q5, .ref q7, .ref q9, .null, .null, .null, .null, .null, .null, .int 0, .int 0])), (q1, .inl (ct 0, 200, .inl (fun _ => 0))), (q2, .inl (ct 0, 13, .inl (fun _ => 0))), (q3, .inr (10, [.ref (u4 0), .ref (u4 1), .int 0])), ((u4 0), .inl (ct 1, 4800, .inl (fun _ => 0))), ((u4 1), .inl (ct 1, 400, .inl (fun _ => 0))), (q5, .inr (9, [.ref (u6 0), .ref (u6 1), .ref (u6 2), .ref (u6 3), .ref (u6 4), .int 0])), ((u6 0), .inl (ct 0, 60, .inl (fun _ => 0))), ((u6 1), .inl (ct 0, 60, .inl (fun _ => 0))), ((u6 2), .inl (ct 4, 180, .inr (.inr (.inr (.inr (fun _ => none)))))), ((u6 3), .inl (ct 0, 480, .inl (fun _ => 0))), ((u6 4), .inl (ct 0, 480, .inl (fun _ => 0))), (q7, .inr (4, [.ref (u8 0), .ref (u8 1), .ref (u8 2), .int 0, .int 0, .int 0, .int 0, .int 0])), ((u8 0), .inl (ct 0, 6, .inl (fun _ => 0))), ((u8 1), .inl (ct 0, 6, .inl (fun _ => 0))), ((u8 2), .inl (ct 0, 6, .inl (fun _ => 0))), (q9, .inr (2, [.ref (u10 0), .ref (u10 1), .ref (u10 2), .ref (u10 3), .ref (u10 4), .ref (u10 5), .ref (u10 6), .ref (u10 7), .ref (u10 8), .ref (u10 9), .int 0])), ((u10 0), .inl (ct 4, 20, .inr (.inr (.inr (.inr (fun _ => none)))))), ((u10 1), .inl (ct 0, 20, .inl (fun _ => 0))), ((u10 2), .inl (ct 0, 20, .inl (fun _ => 0))), ((u10 3), .inl (ct 0, 20, .inl (fun _ => 0))), ((u10 4), .inl (ct 0, 20, .inl (fun _ => 0))), ((u10 5), .inl (ct 0, 320, .inl (fun _ => 0))), ((u10 6), .inl (ct 0, 320, .inl (fun _ => 0))), ((u10 7), .inl (ct 0, 320, .inl (fun _ => 0))), ((u10 8), .inl (ct 0, 320, .inl (fun _ => 0))), ((u10 9), .inl (ct 0, 320, .inl (fun _ => 0)))] : va_W)) ++ ([(q11, .inr (8, [.null, .null, .null, .null, .null, .int 0, .int 0]))] : va_W)) B (spl rfl)
  refine call_IV (kn := 0) E B (init_X8 l D ct tN _ q11) (ws_good w_5bbfc01b) w_e9e13901 w_a25e071e w_5c3775e9 rfl (by decide +kernel) rfl rfl rfl ⟨by decide, by decide⟩ rfl hl (Nat.le_of_ble_eq_true rfl) dX11_init_70 ⟨Nat.le_of_ble_eq_true rfl, Nat.le_of_ble_eq_true rfl⟩ ?_
  clear B
  intro u12 H locs _ B
  replace B := Hp.to (ws' := ws ++ ([(h, .inr (11, [.ref q1, .ref q2, .ref q3, .ref q5, .ref q7, .ref q9, .null, .null, .null, .null, .null, .null, .int 0, .int 0])), (q1, .inl (ct 0, 200, .inl (fun _ => 0))), (q2, .inl (ct 0, 13, .inl (fun _ => 0))), (q3, .inr (10, [.ref (u4 0), .ref (u4 1), .int 0])), ((u4 0), .inl (ct 1, 4800, .inl (fun _ => 0))), ((u4 1), .inl (ct 1, 400, .inl (fun _ => 0))), (q5, .inr (9, [.ref (u6 0), .ref (u6 1), .ref (u6 2), .ref (u6 3), .ref (u6 4), .int 0])), ((u6 0), .inl (ct 0, 60, .inl (fun _ => 0))), ((u6 1), .inl (ct 0, 60, .inl (fun _ => 0))), ((u6 2), .inl (ct 4, 180, .inr (.inr (.inr (.inr (fun _ => none)))))), ((u6 3), .inl (ct 0, 480, .inl (fun _ => 0))), ((u6 4), .inl (ct 0, 480, .inl (fun _ => 0))), (q7, .inr (4, [.ref (u8 0), .ref (u8 1), .ref (u8 2), .int 0, .int 0, .int 0, .int 0, .int 0])), ((u8 0), .inl (ct 0, 6, .inl (fun _ => 0))), ((u8 1), .inl (ct 0, 6, .inl (fun _ => 0))), ((u8 2), .inl (ct 0, 6, .inl (fun _ => 0))), (q9, .inr (2, [.ref (u10 0), .ref (u10 1), .ref (u10 2), .ref (u10 3), .ref (u10 4), .ref (u10 5), .ref (u10 6), .ref (u10 7), .ref (u10 8), .ref (u10 9), .int 0])), ((u10 0), .inl (ct 4, 20, .inr (.inr (.inr (.inr (fun _ => none)))))), ((u10 1), .inl (ct 0, 20, .inl (fun _ => 0))), ((u10 2), .inl (ct 0, 20, .inl (fun _ => 0))), ((u10 3), .inl (ct 0, 20, .inl (fun _ => 0))), ((u10 4), .inl (ct 0, 20, .inl (fun _ => 0))), ((u10 5), .inl (ct 0, 320, .inl (fun _ => 0))), ((u10 6), .inl (ct 0, 320, .inl (fun _ => 0))), ((u10 7), .inl (ct 0, 320, .inl (fun _ => 0))), ((u10 8), .inl (ct 0, 320, .inl (fun _ => 0))), ((u10 9), .inl (ct 0, 320, .inl (fun _ => 0))), (q11, .inr (8, [.ref (u12 0), .ref (u12 1), .ref (u12 2), .ref (u12 3), .ref (u12 4), .int 0, .int 0])), ((u12 0), .inl (ct 5, 200, .inr (.inr (.inr (.inr (fun _ => none)))))), ((u12 1), .inl (ct 0, 60, .inl (fun _ => -1))), ((u12 2), .inl (ct 0, 1024, .inl (fun _ => 0))), ((u12 3), .inl (ct 0, 1024, .inl (fun _ => 0))), ((u12 4), .inl (ct 0, 1024, .inl (fun _ => 0)))] : va_W)) B (List.append_assoc ..)
  refine at_n (n := 73) (k1 := 32) (k2 := 11758) rfl rfl rfl ?_
  refine row_putF E B iX11 rfl tyX11 tyX11_ok nmX11 6 (by decide) w_817dcde5 rfl hnm rfl (ws.length + 0) ((at_p _ _ _).trans rfl) rfl rfl (Nat.le_of_ble_eq_true rfl) dX11_init_73 ?_
  clear B
  intro H locs B
  replace B := Hp.to B (set_p ..)
  replace B := Hp.to (ws' := ws ++ ([(h, .inr (11, [.ref q1, .ref q2, .ref q3, .ref q5, .ref q7, .ref q9, .ref q11, .null, .null, .null, .null, .null, .int 0, .int 0])), (q1, .inl (ct 0, 200, .inl (fun _ => 0))), (q2, .inl (ct 0, 13, .inl (fun _ => 0))), (q3, .inr (10, [.ref (u4 0), .ref (u4 1), .int 0])), ((u4 0), .inl (ct 1, 4800, .inl (fun _ => 0))), ((u4 1), .inl (ct 1, 400, .inl (fun _ => 0))), (q5, .inr (9, [.ref (u6 0), .ref (u6 1), .ref (u6 2), .ref (u6 3), .ref (u6 4), .int 0])), ((u6 0), .inl (ct 0, 60, .inl (fun _ => 0))), ((u6 1), .inl (ct 0, 60, .inl (fun _ => 0))), ((u6 2), .inl (ct 4, 180, .inr (.inr (.inr (.inr (fun _ => none)))))), ((u6 3), .inl (ct 0, 480, .inl (fun _ => 0))), ((u6 4), .inl (ct 0, 480, .inl (fun _ => 0))), (q7, .inr (4, [.ref (u8 0), .ref (u8 1), .ref (u8 2), .int 0, .int 0, .int 0, .int 0, .int 0])), ((u8 0), .inl (ct 0, 6, .inl (fun _ => 0))), ((u8 1), .inl (ct 0, 6, .inl (fun _ => 0))), ((u8 2), .inl (ct 0, 6, .inl (fun _ => 0))), (q9, .inr (2, [.ref (u10 0), .ref (u10 1), .ref (u10 2), .ref (u10 3), .ref (u10 4), .ref (u10 5), .ref (u10 6), .ref (u10 7), .ref (u10 8), .ref (u10 9), .int 0])), ((u10 0), .inl (ct 4, 20, .inr (.inr (.inr (.inr (fun _ => none)))))), ((u10 1), .inl (ct 0, 20, .inl (fun _ => 0))), ((u10 2), .inl (ct 0, 20, .inl (fun _ => 0))), ((u10 3), .inl (ct 0, 20, .inl (fun _ => 0))), ((u10 4), .inl (ct 0, 20, .inl (fun _ => 0))), ((u10 5), .inl (ct 0, 320, .inl (fun _ => 0))), ((u10 6), .inl (ct 0, 320, .inl (fun _ => 0))), ((u10 7), .inl (ct 0, 320, .inl (fun _ => 0))), ((u10 8), .inl (ct 0, 320, .inl (fun _ => 0))), ((u10 9), .inl (ct 0, 320, .inl (fun _ => 0))), (q11, .inr (8, [.ref (u12 0), .ref (u12 1), .ref (u12 2), .ref (u12 3), .ref (u12 4), .int 0, .int 0])), ((u12 0), .inl (ct 5, 200, .inr (.inr (.inr (.inr (fun _ => none)))))), ((u12 1), .inl (ct 0, 60, .inl (fun _ => -1))), ((u12 2), .inl (ct 0, 1024, .inl (fun _ => 0))), ((u12 3), .inl (ct 0, 1024, .inl (fun _ => 0))), ((u12 4), .inl (ct 0, 1024, .inl (fun _ => 0)))] : va_W)) B rfl
  refine at_pc (n := 76) rfl ?_
  refine lv_aload_n E.1.1 E.1.2.1 dX11_init_76 rfl (lv_at hl 0 rfl) ?_
  refine row_new (ci := 3) (fs := [.null, .null, .int 0, .int 0, .int 0, .int 0, .int 0]) E B iX3 rfl tyX3 tyX3_ok w_d7def371 w_e939d063 w_64e3844b (fun j hj => hd_3 j hj) (Nat.le_of_ble_eq_true rfl) (Nat.le_of_ble_eq_true rfl) dX11_init_77 ?_
  clear B
  intro q13 H B
  replace B := Hp.to (ws' := ws ++ ([(h, .inr (11, [.ref q1, .ref q2, .ref q3, .ref q5, .ref q7, .ref q9, .ref q11, .null, .null, .null, .null, .null, .int 0, .int 0])), (q1, .inl (ct 0, 200, .inl (fun _ => 0))), (q2, .inl (ct 0, 13, .inl (fun _ => 0))), (q3, .inr (10, [.ref (u4 0), .ref (u4 1), .int 0])), ((u4 0), .inl (ct 1, 4800, .inl (fun _ => 0))), ((u4 1), .inl (ct 1, 400, .inl (fun _ => 0))), (q5, .inr (9, [.ref (u6 0), .ref (u6 1), .ref (u6 2), .ref (u6 3), .ref (u6 4), .int 0])), ((u6 0), .inl (ct 0, 60, .inl (fun _ => 0))), ((u6 1), .inl (ct 0, 60, .inl (fun _ => 0))), ((u6 2), .inl (ct 4, 180, .inr (.inr (.inr (.inr (fun _ => none)))))), ((u6 3), .inl (ct 0, 480, .inl (fun _ => 0))), ((u6 4), .inl (ct 0, 480, .inl (fun _ => 0))), (q7, .inr (4, [.ref (u8 0), .ref (u8 1), .ref (u8 2), .int 0, .int 0, .int 0, .int 0, .int 0])), ((u8 0), .inl (ct 0, 6, .inl (fun _ => 0))), ((u8 1), .inl (ct 0, 6, .inl (fun _ => 0))), ((u8 2), .inl (ct 0, 6, .inl (fun _ => 0))), (q9, .inr (2, [.ref (u10 0), .ref (u10 1), .ref (u10 2), .ref (u10 3), .ref (u10 4), .ref (u10 5), .ref (u10 6), .ref (u10 7), .ref (u10 8), .ref (u10 9), .int 0])), ((u10 0), .inl (ct 4, 20, .inr (.inr (.inr (.inr (fun _ => none)))))), ((u10 1), .inl (ct 0, 20, .inl (fun _ => 0))), ((u10 2), .inl (ct 0, 20, .inl (fun _ => 0))), ((u10 3), .inl (ct 0, 20, .inl (fun _ => 0))), ((u10 4), .inl (ct 0, 20, .inl (fun _ => 0))), ((u10 5), .inl (ct 0, 320, .inl (fun _ => 0))), ((u10 6), .inl (ct 0, 320, .inl (fun _ => 0))), ((u10 7), .inl (ct 0, 320, .inl (fun _ => 0))), ((u10 8), .inl (ct 0, 320, .inl (fun _ => 0))), ((u10 9), .inl (ct 0, 320, .inl (fun _ => 0))), (q11, .inr (8, [.ref (u12 0), .ref (u12 1), .ref (u12 2), .ref (u12 3), .ref (u12 4), .int 0, .int 0])), ((u12 0), .inl (ct 5, 200, .inr (.inr (.inr (.inr (fun _ => none)))))), ((u12 1), .inl (ct 0, 60, .inl (fun _ => -1))), ((u12 2), .inl (ct 0, 1024, .inl (fun _ => 0))), ((u12 3), .inl (ct 0, 1024, .inl (fun _ => 0))), ((u12 4), .inl (ct 0, 1024, .inl (fun _ => 0))), (q13, .inr (3, [.null, .null, .int 0, .int 0, .int 0, .int 0, .int 0]))] : va_W)) B (List.append_assoc ..)
  refine at_n (n := 80) (k1 := 33) (k2 := 11765) rfl rfl rfl ?_
  refine lv_dup E.1.1 E.1.2.1 dX11_init_80 rfl ?_
  refine lv_aload_n E.1.1 E.1.2.1 dX11_init_81 rfl (lv_at hl 0 rfl) ?_
  refine row_get (v := .ref q9) E B iX11 rfl 5 (by decide) w_2946730c (ws.length + 0) ((at_p _ _ _).trans rfl) rfl dX11_init_82 ?_
  replace B := Hp.to (ws' := (ws ++ ([(h, .inr (11, [.ref q1, .ref q2, .ref q3, .ref q5, .ref q7, .ref q9, .ref q11, .null, .null, .null, .null, .null, .int 0, .int 0])), (q1, .inl (ct 0, 200, .inl (fun _ => 0))), (q2, .inl (ct 0, 13, .inl (fun _ => 0))), (q3, .inr (10, [.ref (u4 0), .ref (u4 1), .int 0])), ((u4 0), .inl (ct 1, 4800, .inl (fun _ => 0))), ((u4 1), .inl (ct 1, 400, .inl (fun _ => 0))), (q5, .inr (9, [.ref (u6 0), .ref (u6 1), .ref (u6 2), .ref (u6 3), .ref (u6 4), .int 0])), ((u6 0), .inl (ct 0, 60, .inl (fun _ => 0))), ((u6 1), .inl (ct 0, 60, .inl (fun _ => 0))), ((u6 2), .inl (ct 4, 180, .inr (.inr (.inr (.inr (fun _ => none)))))), ((u6 3), .inl (ct 0, 480, .inl (fun _ => 0))), ((u6 4), .inl (ct 0, 480, .inl (fun _ => 0))), (q7, .inr (4, [.ref (u8 0), .ref (u8 1), .ref (u8 2), .int 0, .int 0, .int 0, .int 0, .int 0])), ((u8 0), .inl (ct 0, 6, .inl (fun _ => 0))), ((u8 1), .inl (ct 0, 6, .inl (fun _ => 0))), ((u8 2), .inl (ct 0, 6, .inl (fun _ => 0))), (q9, .inr (2, [.ref (u10 0), .ref (u10 1), .ref (u10 2), .ref (u10 3), .ref (u10 4), .ref (u10 5), .ref (u10 6), .ref (u10 7), .ref (u10 8), .ref (u10 9), .int 0])), ((u10 0), .inl (ct 4, 20, .inr (.inr (.inr (.inr (fun _ => none)))))), ((u10 1), .inl (ct 0, 20, .inl (fun _ => 0))), ((u10 2), .inl (ct 0, 20, .inl (fun _ => 0))), ((u10 3), .inl (ct 0, 20, .inl (fun _ => 0))), ((u10 4), .inl (ct 0, 20, .inl (fun _ => 0))), ((u10 5), .inl (ct 0, 320, .inl (fun _ => 0))), ((u10 6), .inl (ct 0, 320, .inl (fun _ => 0))), ((u10 7), .inl (ct 0, 320, .inl (fun _ => 0))), ((u10 8), .inl (ct 0, 320, .inl (fun _ => 0))), ((u10 9), .inl (ct 0, 320, .inl (fun _ => 0))), (q11, .inr (8, [.ref (u12 0), .ref (u12 1), .ref (u12 2), .ref (u12 3), .ref (u12 4), .int 0, .int 0])), ((u12 0), .inl (ct 5, 200, .inr (.inr (.inr (.inr (fun _ => none)))))), ((u12 1), .inl (ct 0, 60, .inl (fun _ => -1))), ((u12 2), .inl (ct 0, 1024, .inl (fun _ => 0))), ((u12 3), .inl (ct 0, 1024, .inl (fun _ => 0))), ((u12 4), .inl (ct 0, 1024, .inl (fun _ => 0)))] : va_W)) ++ ([(q13, .inr (3, [.null, .null, .int 0, .int 0, .int 0, .int 0, .int 0]))] : va_W)) B (spl rfl)
  refine call_IV (kn := 1) E B (init_X3 l D ct tN _ q13 q9) (ws_good w_8bddb3bb) w_64e3844b w_c32a6e05 w_dd11f97f rfl (by decide +kernel) rfl rfl rfl ⟨by decide, by decide⟩ rfl hl (Nat.le_of_ble_eq_true rfl) dX11_init_85 ⟨Nat.le_of_ble_eq_true rfl, Nat.le_of_ble_eq_true rfl⟩ ?_
  clear B
  intro u14 H locs _ B
  replace B := Hp.to (ws' := ws ++ ([(h, .inr (11, [.ref q1, .ref q2, .ref q3, .ref q5, .ref q7, .ref q9, .ref q11, .null, .null, .null, .null, .null, .int 0, .int 0])), (q1, .inl (ct 0, 200, .inl (fun _ => 0))), (q2, .inl (ct 0, 13, .inl (fun _ => 0))), (q3, .inr (10, [.ref (u4 0), .ref (u4 1), .int 0])), ((u4 0), .inl (ct 1, 4800, .inl (fun _ => 0))), ((u4 1), .inl (ct 1, 400, .inl (fun _ => 0))), (q5, .inr (9, [.ref (u6 0), .ref (u6 1), .ref (u6 2), .ref (u6 3), .ref (u6 4), .int 0])), ((u6 0), .inl (ct 0, 60, .inl (fun _ => 0))), ((u6 1), .inl (ct 0, 60, .inl (fun _ => 0))), ((u6 2), .inl (ct 4, 180, .inr (.inr (.inr (.inr (fun _ => none)))))), ((u6 3), .inl (ct 0, 480, .inl (fun _ => 0))), ((u6 4), .inl (ct 0, 480, .inl (fun _ => 0))), (q7, .inr (4, [.ref (u8 0), .ref (u8 1), .ref (u8 2), .int 0, .int 0, .int 0, .int 0, .int 0])), ((u8 0), .inl (ct 0, 6, .inl (fun _ => 0))), ((u8 1), .inl (ct 0, 6, .inl (fun _ => 0))), ((u8 2), .inl (ct 0, 6, .inl (fun _ => 0))), (q9, .inr (2, [.ref (u10 0), .ref (u10 1), .ref (u10 2), .ref (u10 3), .ref (u10 4), .ref (u10 5), .ref (u10 6), .ref (u10 7), .ref (u10 8), .ref (u10 9), .int 0])), ((u10 0), .inl (ct 4, 20, .inr (.inr (.inr (.inr (fun _ => none)))))), ((u10 1), .inl (ct 0, 20, .inl (fun _ => 0))), ((u10 2), .inl (ct 0, 20, .inl (fun _ => 0))), ((u10 3), .inl (ct 0, 20, .inl (fun _ => 0))), ((u10 4), .inl (ct 0, 20, .inl (fun _ => 0))), ((u10 5), .inl (ct 0, 320, .inl (fun _ => 0))), ((u10 6), .inl (ct 0, 320, .inl (fun _ => 0))), ((u10 7), .inl (ct 0, 320, .inl (fun _ => 0))), ((u10 8), .inl (ct 0, 320, .inl (fun _ => 0))), ((u10 9), .inl (ct 0, 320, .inl (fun _ => 0))), (q11, .inr (8, [.ref (u12 0), .ref (u12 1), .ref (u12 2), .ref (u12 3), .ref (u12 4), .int 0, .int 0])), ((u12 0), .inl (ct 5, 200, .inr (.inr (.inr (.inr (fun _ => none)))))), ((u12 1), .inl (ct 0, 60, .inl (fun _ => -1))), ((u12 2), .inl (ct 0, 1024, .inl (fun _ => 0))), ((u12 3), .inl (ct 0, 1024, .inl (fun _ => 0))), ((u12 4), .inl (ct 0, 1024, .inl (fun _ => 0))), (q13, .inr (3, [.ref q9, .ref tN, .int 0, .int 0, .int 0, .int 0, .int 0]))] : va_W)) B (List.append_assoc ..)
  refine at_n (n := 88) (k1 := 33) (k2 := 11765) rfl rfl rfl ?_
  refine row_putF E B iX11 rfl tyX11 tyX11_ok nmX11 7 (by decide) w_cb4fff5f rfl hnm rfl (ws.length + 0) ((at_p _ _ _).trans rfl) rfl rfl (Nat.le_of_ble_eq_true rfl) dX11_init_88 ?_
  clear B
  intro H locs B
  replace B := Hp.to B (set_p ..)
  replace B := Hp.to (ws' := ws ++ ([(h, .inr (11, [.ref q1, .ref q2, .ref q3, .ref q5, .ref q7, .ref q9, .ref q11, .ref q13, .null, .null, .null, .null, .int 0, .int 0])), (q1, .inl (ct 0, 200, .inl (fun _ => 0))), (q2, .inl (ct 0, 13, .inl (fun _ => 0))), (q3, .inr (10, [.ref (u4 0), .ref (u4 1), .int 0])), ((u4 0), .inl (ct 1, 4800, .inl (fun _ => 0))), ((u4 1), .inl (ct 1, 400, .inl (fun _ => 0))), (q5, .inr (9, [.ref (u6 0), .ref (u6 1), .ref (u6 2), .ref (u6 3), .ref (u6 4), .int 0])), ((u6 0), .inl (ct 0, 60, .inl (fun _ => 0))), ((u6 1), .inl (ct 0, 60, .inl (fun _ => 0))), ((u6 2), .inl (ct 4, 180, .inr (.inr (.inr (.inr (fun _ => none)))))), ((u6 3), .inl (ct 0, 480, .inl (fun _ => 0))), ((u6 4), .inl (ct 0, 480, .inl (fun _ => 0))), (q7, .inr (4, [.ref (u8 0), .ref (u8 1), .ref (u8 2), .int 0, .int 0, .int 0, .int 0, .int 0])), ((u8 0), .inl (ct 0, 6, .inl (fun _ => 0))), ((u8 1), .inl (ct 0, 6, .inl (fun _ => 0))), ((u8 2), .inl (ct 0, 6, .inl (fun _ => 0))), (q9, .inr (2, [.ref (u10 0), .ref (u10 1), .ref (u10 2), .ref (u10 3), .ref (u10 4), .ref (u10 5), .ref (u10 6), .ref (u10 7), .ref (u10 8), .ref (u10 9), .int 0])), ((u10 0), .inl (ct 4, 20, .inr (.inr (.inr (.inr (fun _ => none)))))), ((u10 1), .inl (ct 0, 20, .inl (fun _ => 0))), ((u10 2), .inl (ct 0, 20, .inl (fun _ => 0))), ((u10 3), .inl (ct 0, 20, .inl (fun _ => 0))), ((u10 4), .inl (ct 0, 20, .inl (fun _ => 0))), ((u10 5), .inl (ct 0, 320, .inl (fun _ => 0))), ((u10 6), .inl (ct 0, 320, .inl (fun _ => 0))), ((u10 7), .inl (ct 0, 320, .inl (fun _ => 0))), ((u10 8), .inl (ct 0, 320, .inl (fun _ => 0))), ((u10 9), .inl (ct 0, 320, .inl (fun _ => 0))), (q11, .inr (8, [.ref (u12 0), .ref (u12 1), .ref (u12 2), .ref (u12 3), .ref (u12 4), .int 0, .int 0])), ((u12 0), .inl (ct 5, 200, .inr (.inr (.inr (.inr (fun _ => none)))))), ((u12 1), .inl (ct 0, 60, .inl (fun _ => -1))), ((u12 2), .inl (ct 0, 1024, .inl (fun _ => 0))), ((u12 3), .inl (ct 0, 1024, .inl (fun _ => 0))), ((u12 4), .inl (ct 0, 1024, .inl (fun _ => 0))), (q13, .inr (3, [.ref q9, .ref tN, .int 0, .int 0, .int 0, .int 0, .int 0]))] : va_W)) B rfl
  refine at_pc (n := 91) rfl ?_
  refine lv_aload_n E.1.1 E.1.2.1 dX11_init_91 rfl (lv_at hl 0 rfl) ?_
  refine row_new (ci := 6) (fs := [.null, .null, .null, .int 0, .int 0, .int 0, .int 0, .int 0, .int 0, .int 0, .int 0, .null, .int 0, .int 0]) E B iX6 rfl tyX6 tyX6_ok w_6ddf79c8 w_5ebb4376 w_bd4fc458 (fun j hj => hd_6 j hj) (Nat.le_of_ble_eq_true rfl) (Nat.le_of_ble_eq_true rfl) dX11_init_92 ?_
  clear B
  intro q15 H B
  replace B := Hp.to (ws' := ws ++ ([(h, .inr (11, [.ref q1, .ref q2, .ref q3, .ref q5, .ref q7, .ref q9, .ref q11, .ref q13, .null, .null, .null, .null, .int 0, .int 0])), (q1, .inl (ct 0, 200, .inl (fun _ => 0))), (q2, .inl (ct 0, 13, .inl (fun _ => 0))), (q3, .inr (10, [.ref (u4 0), .ref (u4 1), .int 0])), ((u4 0), .inl (ct 1, 4800, .inl (fun _ => 0))), ((u4 1), .inl (ct 1, 400, .inl (fun _ => 0))), (q5, .inr (9, [.ref (u6 0), .ref (u6 1), .ref (u6 2), .ref (u6 3), .ref (u6 4), .int 0])), ((u6 0), .inl (ct 0, 60, .inl (fun _ => 0))), ((u6 1), .inl (ct 0, 60, .inl (fun _ => 0))), ((u6 2), .inl (ct 4, 180, .inr (.inr (.inr (.inr (fun _ => none)))))), ((u6 3), .inl (ct 0, 480, .inl (fun _ => 0))), ((u6 4), .inl (ct 0, 480, .inl (fun _ => 0))), (q7, .inr (4, [.ref (u8 0), .ref (u8 1), .ref (u8 2), .int 0, .int 0, .int 0, .int 0, .int 0])), ((u8 0), .inl (ct 0, 6, .inl (fun _ => 0))), ((u8 1), .inl (ct 0, 6, .inl (fun _ => 0))), ((u8 2), .inl (ct 0, 6, .inl (fun _ => 0))), (q9, .inr (2, [.ref (u10 0), .ref (u10 1), .ref (u10 2), .ref (u10 3), .ref (u10 4), .ref (u10 5), .ref (u10 6), .ref (u10 7), .ref (u10 8), .ref (u10 9), .int 0])), ((u10 0), .inl (ct 4, 20, .inr (.inr (.inr (.inr (fun _ => none)))))), ((u10 1), .inl (ct 0, 20, .inl (fun _ => 0))), ((u10 2), .inl (ct 0, 20, .inl (fun _ => 0))), ((u10 3), .inl (ct 0, 20, .inl (fun _ => 0))), ((u10 4), .inl (ct 0, 20, .inl (fun _ => 0))), ((u10 5), .inl (ct 0, 320, .inl (fun _ => 0))), ((u10 6), .inl (ct 0, 320, .inl (fun _ => 0))), ((u10 7), .inl (ct 0, 320, .inl (fun _ => 0))), ((u10 8), .inl (ct 0, 320, .inl (fun _ => 0))), ((u10 9), .inl (ct 0, 320, .inl (fun _ => 0))), (q11, .inr (8, [.ref (u12 0), .ref (u12 1), .ref (u12 2), .ref (u12 3), .ref (u12 4), .int 0, .int 0])), ((u12 0), .inl (ct 5, 200, .inr (.inr (.inr (.inr (fun _ => none)))))), ((u12 1), .inl (ct 0, 60, .inl (fun _ => -1))), ((u12 2), .inl (ct 0, 1024, .inl (fun _ => 0))), ((u12 3), .inl (ct 0, 1024, .inl (fun _ => 0))), ((u12 4), .inl (ct 0, 1024, .inl (fun _ => 0))), (q13, .inr (3, [.ref q9, .ref tN, .int 0, .int 0, .int 0, .int 0, .int 0])), (q15, .inr (6, [.null, .null, .null, .int 0, .int 0, .int 0, .int 0, .int 0, .int 0, .int 0, .int 0, .null, .int 0, .int 0]))] : va_W)) B (List.append_assoc ..)
  refine at_n (n := 95) (k1 := 34) (k2 := 11779) rfl rfl rfl ?_
  refine lv_dup E.1.1 E.1.2.1 dX11_init_95 rfl ?_
  refine lv_aload_n E.1.1 E.1.2.1 dX11_init_96 rfl (lv_at hl 0 rfl) ?_
  refine row_get (v := .ref q9) E B iX11 rfl 5 (by decide) w_2946730c (ws.length + 0) ((at_p _ _ _).trans rfl) rfl dX11_init_97 ?_
  refine lv_aload_n E.1.1 E.1.2.1 dX11_init_100 rfl (lv_at hl 0 rfl) ?_
  refine row_get (v := .ref q5) E B iX11 rfl 3 (by decide) w_49df9d0b (ws.length + 0) ((at_p _ _ _).trans rfl) rfl dX11_init_101 ?_
  refine lv_aload_n E.1.1 E.1.2.1 dX11_init_104 rfl (lv_at hl 0 rfl) ?_
  refine row_get (v := .ref q7) E B iX11 rfl 4 (by decide) w_2632cf99 (ws.length + 0) ((at_p _ _ _).trans rfl) rfl dX11_init_105 ?_
  replace B := Hp.to (ws' := (ws ++ ([(h, .inr (11, [.ref q1, .ref q2, .ref q3, .ref q5, .ref q7, .ref q9, .ref q11, .ref q13, .null, .null, .null, .null, .int 0, .int 0])), (q1, .inl (ct 0, 200, .inl (fun _ => 0))), (q2, .inl (ct 0, 13, .inl (fun _ => 0))), (q3, .inr (10, [.ref (u4 0), .ref (u4 1), .int 0])), ((u4 0), .inl (ct 1, 4800, .inl (fun _ => 0))), ((u4 1), .inl (ct 1, 400, .inl (fun _ => 0))), (q5, .inr (9, [.ref (u6 0), .ref (u6 1), .ref (u6 2), .ref (u6 3), .ref (u6 4), .int 0])), ((u6 0), .inl (ct 0, 60, .inl (fun _ => 0))), ((u6 1), .inl (ct 0, 60, .inl (fun _ => 0))), ((u6 2), .inl (ct 4, 180, .inr (.inr (.inr (.inr (fun _ => none)))))), ((u6 3), .inl (ct 0, 480, .inl (fun _ => 0))), ((u6 4), .inl (ct 0, 480, .inl (fun _ => 0))), (q7, .inr (4, [.ref (u8 0), .ref (u8 1), .ref (u8 2), .int 0, .int 0, .int 0, .int 0, .int 0])), ((u8 0), .inl (ct 0, 6, .inl (fun _ => 0))), ((u8 1), .inl (ct 0, 6, .inl (fun _ => 0))), ((u8 2), .inl (ct 0, 6, .inl (fun _ => 0))), (q9, .inr (2, [.ref (u10 0), .ref (u10 1), .ref (u10 2), .ref (u10 3), .ref (u10 4), .ref (u10 5), .ref (u10 6), .ref (u10 7), .ref (u10 8), .ref (u10 9), .int 0])), ((u10 0), .inl (ct 4, 20, .inr (.inr (.inr (.inr (fun _ => none)))))), ((u10 1), .inl (ct 0, 20, .inl (fun _ => 0))), ((u10 2), .inl (ct 0, 20, .inl (fun _ => 0))), ((u10 3), .inl (ct 0, 20, .inl (fun _ => 0))), ((u10 4), .inl (ct 0, 20, .inl (fun _ => 0))), ((u10 5), .inl (ct 0, 320, .inl (fun _ => 0))), ((u10 6), .inl (ct 0, 320, .inl (fun _ => 0))), ((u10 7), .inl (ct 0, 320, .inl (fun _ => 0))), ((u10 8), .inl (ct 0, 320, .inl (fun _ => 0))), ((u10 9), .inl (ct 0, 320, .inl (fun _ => 0))), (q11, .inr (8, [.ref (u12 0), .ref (u12 1), .ref (u12 2), .ref (u12 3), .ref (u12 4), .int 0, .int 0])), ((u12 0), .inl (ct 5, 200, .inr (.inr (.inr (.inr (fun _ => none)))))), ((u12 1), .inl (ct 0, 60, .inl (fun _ => -1))), ((u12 2), .inl (ct 0, 1024, .inl (fun _ => 0))), ((u12 3), .inl (ct 0, 1024, .inl (fun _ => 0))), ((u12 4), .inl (ct 0, 1024, .inl (fun _ => 0))), (q13, .inr (3, [.ref q9, .ref tN, .int 0, .int 0, .int 0, .int 0, .int 0]))] : va_W)) ++ ([(q15, .inr (6, [.null, .null, .null, .int 0, .int 0, .int 0, .int 0, .int 0, .int 0, .int 0, .int 0, .null, .int 0, .int 0]))] : va_W)) B (spl rfl)
  refine call_IV (kn := 3) E B (init_X6 l D ct tN _ q15 q9 q5 q7) (ws_good w_0e0745a2) w_bd4fc458 w_14ab5024 w_cb1b6006 rfl (by decide +kernel) rfl rfl rfl ⟨by decide, by decide⟩ rfl hl (Nat.le_of_ble_eq_true rfl) dX11_init_108 ⟨Nat.le_of_ble_eq_true rfl, Nat.le_of_ble_eq_true rfl⟩ ?_
  clear B
  intro u16 H locs _ B
  replace B := Hp.to (ws' := ws ++ ([(h, .inr (11, [.ref q1, .ref q2, .ref q3, .ref q5, .ref q7, .ref q9, .ref q11, .ref q13, .null, .null, .null, .null, .int 0, .int 0])), (q1, .inl (ct 0, 200, .inl (fun _ => 0))), (q2, .inl (ct 0, 13, .inl (fun _ => 0))), (q3, .inr (10, [.ref (u4 0), .ref (u4 1), .int 0])), ((u4 0), .inl (ct 1, 4800, .inl (fun _ => 0))), ((u4 1), .inl (ct 1, 400, .inl (fun _ => 0))), (q5, .inr (9, [.ref (u6 0), .ref (u6 1), .ref (u6 2), .ref (u6 3), .ref (u6 4), .int 0])), ((u6 0), .inl (ct 0, 60, .inl (fun _ => 0))), ((u6 1), .inl (ct 0, 60, .inl (fun _ => 0))), ((u6 2), .inl (ct 4, 180, .inr (.inr (.inr (.inr (fun _ => none)))))), ((u6 3), .inl (ct 0, 480, .inl (fun _ => 0))), ((u6 4), .inl (ct 0, 480, .inl (fun _ => 0))), (q7, .inr (4, [.ref (u8 0), .ref (u8 1), .ref (u8 2), .int 0, .int 0, .int 0, .int 0, .int 0])), ((u8 0), .inl (ct 0, 6, .inl (fun _ => 0))), ((u8 1), .inl (ct 0, 6, .inl (fun _ => 0))), ((u8 2), .inl (ct 0, 6, .inl (fun _ => 0))), (q9, .inr (2, [.ref (u10 0), .ref (u10 1), .ref (u10 2), .ref (u10 3), .ref (u10 4), .ref (u10 5), .ref (u10 6), .ref (u10 7), .ref (u10 8), .ref (u10 9), .int 0])), ((u10 0), .inl (ct 4, 20, .inr (.inr (.inr (.inr (fun _ => none)))))), ((u10 1), .inl (ct 0, 20, .inl (fun _ => 0))), ((u10 2), .inl (ct 0, 20, .inl (fun _ => 0))), ((u10 3), .inl (ct 0, 20, .inl (fun _ => 0))), ((u10 4), .inl (ct 0, 20, .inl (fun _ => 0))), ((u10 5), .inl (ct 0, 320, .inl (fun _ => 0))), ((u10 6), .inl (ct 0, 320, .inl (fun _ => 0))), ((u10 7), .inl (ct 0, 320, .inl (fun _ => 0))), ((u10 8), .inl (ct 0, 320, .inl (fun _ => 0))), ((u10 9), .inl (ct 0, 320, .inl (fun _ => 0))), (q11, .inr (8, [.ref (u12 0), .ref (u12 1), .ref (u12 2), .ref (u12 3), .ref (u12 4), .int 0, .int 0])), ((u12 0), .inl (ct 5, 200, .inr (.inr (.inr (.inr (fun _ => none)))))), ((u12 1), .inl (ct 0, 60, .inl (fun _ => -1))), ((u12 2), .inl (ct 0, 1024, .inl (fun _ => 0))), ((u12 3), .inl (ct 0, 1024, .inl (fun _ => 0))), ((u12 4), .inl (ct 0, 1024, .inl (fun _ => 0))), (q13, .inr (3, [.ref q9, .ref tN, .int 0, .int 0, .int 0, .int 0, .int 0])), (q15, .inr (6, [.ref q9, .ref q5, .ref q7, .int 0, .int 0, .int 0, .int 0, .int 0, .int 0, .int 0, .int 0, .ref tN, .int 0, .int 0]))] : va_W)) B (List.append_assoc ..)
  refine at_n (n := 111) (k1 := 34) (k2 := 11779) rfl rfl rfl ?_
  refine row_putF E B iX11 rfl tyX11 tyX11_ok nmX11 8 (by decide) w_a895f913 rfl hnm rfl (ws.length + 0) ((at_p _ _ _).trans rfl) rfl rfl (Nat.le_of_ble_eq_true rfl) dX11_init_111 ?_
  clear B
  intro H locs B
  replace B := Hp.to B (set_p ..)
  replace B := Hp.to (ws' := ws ++ ([(h, .inr (11, [.ref q1, .ref q2, .ref q3, .ref q5, .ref q7, .ref q9, .ref q11, .ref q13, .ref q15, .null, .null, .null, .int 0, .int 0])), (q1, .inl (ct 0, 200, .inl (fun _ => 0))), (q2, .inl (ct 0, 13, .inl (fun _ => 0))), (q3, .inr (10, [.ref (u4 0), .ref (u4 1), .int 0])), ((u4 0), .inl (ct 1, 4800, .inl (fun _ => 0))), ((u4 1), .inl (ct 1, 400, .inl (fun _ => 0))), (q5, .inr (9, [.ref (u6 0), .ref (u6 1), .ref (u6 2), .ref (u6 3), .ref (u6 4), .int 0])), ((u6 0), .inl (ct 0, 60, .inl (fun _ => 0))), ((u6 1), .inl (ct 0, 60, .inl (fun _ => 0))), ((u6 2), .inl (ct 4, 180, .inr (.inr (.inr (.inr (fun _ => none)))))), ((u6 3), .inl (ct 0, 480, .inl (fun _ => 0))), ((u6 4), .inl (ct 0, 480, .inl (fun _ => 0))), (q7, .inr (4, [.ref (u8 0), .ref (u8 1), .ref (u8 2), .int 0, .int 0, .int 0, .int 0, .int 0])), ((u8 0), .inl (ct 0, 6, .inl (fun _ => 0))), ((u8 1), .inl (ct 0, 6, .inl (fun _ => 0))), ((u8 2), .inl (ct 0, 6, .inl (fun _ => 0))), (q9, .inr (2, [.ref (u10 0), .ref (u10 1), .ref (u10 2), .ref (u10 3), .ref (u10 4), .ref (u10 5), .ref (u10 6), .ref (u10 7), .ref (u10 8), .ref (u10 9), .int 0])), ((u10 0), .inl (ct 4, 20, .inr (.inr (.inr (.inr (fun _ => none)))))), ((u10 1), .inl (ct 0, 20, .inl (fun _ => 0))), ((u10 2), .inl (ct 0, 20, .inl (fun _ => 0))), ((u10 3), .inl (ct 0, 20, .inl (fun _ => 0))), ((u10 4), .inl (ct 0, 20, .inl (fun _ => 0))), ((u10 5), .inl (ct 0, 320, .inl (fun _ => 0))), ((u10 6), .inl (ct 0, 320, .inl (fun _ => 0))), ((u10 7), .inl (ct 0, 320, .inl (fun _ => 0))), ((u10 8), .inl (ct 0, 320, .inl (fun _ => 0))), ((u10 9), .inl (ct 0, 320, .inl (fun _ => 0))), (q11, .inr (8, [.ref (u12 0), .ref (u12 1), .ref (u12 2), .ref (u12 3), .ref (u12 4), .int 0, .int 0])), ((u12 0), .inl (ct 5, 200, .inr (.inr (.inr (.inr (fun _ => none)))))), ((u12 1), .inl (ct 0, 60, .inl (fun _ => -1))), ((u12 2), .inl (ct 0, 1024, .inl (fun _ => 0))), ((u12 3), .inl (ct 0, 1024, .inl (fun _ => 0))), ((u12 4), .inl (ct 0, 1024, .inl (fun _ => 0))), (q13, .inr (3, [.ref q9, .ref tN, .int 0, .int 0, .int 0, .int 0, .int 0])), (q15, .inr (6, [.ref q9, .ref q5, .ref q7, .int 0, .int 0, .int 0, .int 0, .int 0, .int 0, .int 0, .int 0, .ref tN, .int 0, .int 0]))] : va_W)) B rfl
  refine at_pc (n := 114) rfl ?_
  refine lv_aload_n E.1.1 E.1.2.1 dX11_init_114 rfl (lv_at hl 0 rfl) ?_
  refine row_new (ci := 1) (fs := [.null, .null, .null, .null, .null, .null, .null, .null, .null, .null, .int 0, .int 0, .int 0]) E B iX1 rfl tyX1 tyX1_ok w_83d2f98b w_77a10a06 w_c5aaac22 (fun j hj => hd_1 j hj) (Nat.le_of_ble_eq_true rfl) (Nat.le_of_ble_eq_true rfl) dX11_init_115 ?_
  clear B
  intro q17 H B
  replace B := Hp.to (ws' := ws ++ ([(h, .inr (11, [.ref q1, .ref q2, .ref q3, .ref q5, .ref q7, .ref q9, .ref q11, .ref q13, .ref q15, .null, .null, .null, .int 0, .int 0])), (q1, .inl (ct 0, 200, .inl (fun _ => 0))), (q2, .inl (ct 0, 13, .inl (fun _ => 0))), (q3, .inr (10, [.ref (u4 0), .ref (u4 1), .int 0])), ((u4 0), .inl (ct 1, 4800, .inl (fun _ => 0))), ((u4 1), .inl (ct 1, 400, .inl (fun _ => 0))), (q5, .inr (9, [.ref (u6 0), .ref (u6 1), .ref (u6 2), .ref (u6 3), .ref (u6 4), .int 0])), ((u6 0), .inl (ct 0, 60, .inl (fun _ => 0))), ((u6 1), .inl (ct 0, 60, .inl (fun _ => 0))), ((u6 2), .inl (ct 4, 180, .inr (.inr (.inr (.inr (fun _ => none)))))), ((u6 3), .inl (ct 0, 480, .inl (fun _ => 0))), ((u6 4), .inl (ct 0, 480, .inl (fun _ => 0))), (q7, .inr (4, [.ref (u8 0), .ref (u8 1), .ref (u8 2), .int 0, .int 0, .int 0, .int 0, .int 0])), ((u8 0), .inl (ct 0, 6, .inl (fun _ => 0))), ((u8 1), .inl (ct 0, 6, .inl (fun _ => 0))), ((u8 2), .inl (ct 0, 6, .inl (fun _ => 0))), (q9, .inr (2, [.ref (u10 0), .ref (u10 1), .ref (u10 2), .ref (u10 3), .ref (u10 4), .ref (u10 5), .ref (u10 6), .ref (u10 7), .ref (u10 8), .ref (u10 9), .int 0])), ((u10 0), .inl (ct 4, 20, .inr (.inr (.inr (.inr (fun _ => none)))))), ((u10 1), .inl (ct 0, 20, .inl (fun _ => 0))), ((u10 2), .inl (ct 0, 20, .inl (fun _ => 0))), ((u10 3), .inl (ct 0, 20, .inl (fun _ => 0))), ((u10 4), .inl (ct 0, 20, .inl (fun _ => 0))), ((u10 5), .inl (ct 0, 320, .inl (fun _ => 0))), ((u10 6), .inl (ct 0, 320, .inl (fun _ => 0))), ((u10 7), .inl (ct 0, 320, .inl (fun _ => 0))), ((u10 8), .inl (ct 0, 320, .inl (fun _ => 0))), ((u10 9), .inl (ct 0, 320, .inl (fun _ => 0))), (q11, .inr (8, [.ref (u12 0), .ref (u12 1), .ref (u12 2), .ref (u12 3), .ref (u12 4), .int 0, .int 0])), ((u12 0), .inl (ct 5, 200, .inr (.inr (.inr (.inr (fun _ => none)))))), ((u12 1), .inl (ct 0, 60, .inl (fun _ => -1))), ((u12 2), .inl (ct 0, 1024, .inl (fun _ => 0))), ((u12 3), .inl (ct 0, 1024, .inl (fun _ => 0))), ((u12 4), .inl (ct 0, 1024, .inl (fun _ => 0))), (q13, .inr (3, [.ref q9, .ref tN, .int 0, .int 0, .int 0, .int 0, .int 0])), (q15, .inr (6, [.ref q9, .ref q5, .ref q7, .int 0, .int 0, .int 0, .int 0, .int 0, .int 0, .int 0, .int 0, .ref tN, .int 0, .int 0])), (q17, .inr (1, [.null, .null, .null, .null, .null, .null, .null, .null, .null, .null, .int 0, .int 0, .int 0]))] : va_W)) B (List.append_assoc ..)
  refine at_n (n := 118) (k1 := 35) (k2 := 11792) rfl rfl rfl ?_
  refine lv_dup E.1.1 E.1.2.1 dX11_init_118 rfl ?_
  refine lv_aload_n E.1.1 E.1.2.1 dX11_init_119 rfl (lv_at hl 0 rfl) ?_
  refine row_get (v := .ref q9) E B iX11 rfl 5 (by decide) w_2946730c (ws.length + 0) ((at_p _ _ _).trans rfl) rfl dX11_init_120 ?_
  refine lv_aload_n E.1.1 E.1.2.1 dX11_init_123 rfl (lv_at hl 0 rfl) ?_
  refine row_get (v := .ref q5) E B iX11 rfl 3 (by decide) w_49df9d0b (ws.length + 0) ((at_p _ _ _).trans rfl) rfl dX11_init_124 ?_
  refine lv_aload_n E.1.1 E.1.2.1 dX11_init_127 rfl (lv_at hl 0 rfl) ?_
  refine row_get (v := .ref q15) E B iX11 rfl 8 (by decide) w_a895f913 (ws.length + 0) ((at_p _ _ _).trans rfl) rfl dX11_init_128 ?_
  refine lv_aload_n E.1.1 E.1.2.1 dX11_init_131 rfl (lv_at hl 0 rfl) ?_
  refine row_get (v := .ref q11) E B iX11 rfl 6 (by decide) w_817dcde5 (ws.length + 0) ((at_p _ _ _).trans rfl) rfl dX11_init_132 ?_
  replace B := Hp.to (ws' := (ws ++ ([(h, .inr (11, [.ref q1, .ref q2, .ref q3, .ref q5, .ref q7, .ref q9, .ref q11, .ref q13, .ref q15, .null, .null, .null, .int 0, .int 0])), (q1, .inl (ct 0, 200, .inl (fun _ => 0))), (q2, .inl (ct 0, 13, .inl (fun _ => 0))), (q3, .inr (10, [.ref (u4 0), .ref (u4 1), .int 0])), ((u4 0), .inl (ct 1, 4800, .inl (fun _ => 0))), ((u4 1), .inl (ct 1, 400, .inl (fun _ => 0))), (q5, .inr (9, [.ref (u6 0), .ref (u6 1), .ref (u6 2), .ref (u6 3), .ref (u6 4), .int 0])), ((u6 0), .inl (ct 0, 60, .inl (fun _ => 0))), ((u6 1), .inl (ct 0, 60, .inl (fun _ => 0))), ((u6 2), .inl (ct 4, 180, .inr (.inr (.inr (.inr (fun _ => none)))))), ((u6 3), .inl (ct 0, 480, .inl (fun _ => 0))), ((u6 4), .inl (ct 0, 480, .inl (fun _ => 0))), (q7, .inr (4, [.ref (u8 0), .ref (u8 1), .ref (u8 2), .int 0, .int 0, .int 0, .int 0, .int 0])), ((u8 0), .inl (ct 0, 6, .inl (fun _ => 0))), ((u8 1), .inl (ct 0, 6, .inl (fun _ => 0))), ((u8 2), .inl (ct 0, 6, .inl (fun _ => 0))), (q9, .inr (2, [.ref (u10 0), .ref (u10 1), .ref (u10 2), .ref (u10 3), .ref (u10 4), .ref (u10 5), .ref (u10 6), .ref (u10 7), .ref (u10 8), .ref (u10 9), .int 0])), ((u10 0), .inl (ct 4, 20, .inr (.inr (.inr (.inr (fun _ => none)))))), ((u10 1), .inl (ct 0, 20, .inl (fun _ => 0))), ((u10 2), .inl (ct 0, 20, .inl (fun _ => 0))), ((u10 3), .inl (ct 0, 20, .inl (fun _ => 0))), ((u10 4), .inl (ct 0, 20, .inl (fun _ => 0))), ((u10 5), .inl (ct 0, 320, .inl (fun _ => 0))), ((u10 6), .inl (ct 0, 320, .inl (fun _ => 0))), ((u10 7), .inl (ct 0, 320, .inl (fun _ => 0))), ((u10 8), .inl (ct 0, 320, .inl (fun _ => 0))), ((u10 9), .inl (ct 0, 320, .inl (fun _ => 0))), (q11, .inr (8, [.ref (u12 0), .ref (u12 1), .ref (u12 2), .ref (u12 3), .ref (u12 4), .int 0, .int 0])), ((u12 0), .inl (ct 5, 200, .inr (.inr (.inr (.inr (fun _ => none)))))), ((u12 1), .inl (ct 0, 60, .inl (fun _ => -1))), ((u12 2), .inl (ct 0, 1024, .inl (fun _ => 0))), ((u12 3), .inl (ct 0, 1024, .inl (fun _ => 0))), ((u12 4), .inl (ct 0, 1024, .inl (fun _ => 0))), (q13, .inr (3, [.ref q9, .ref tN, .int 0, .int 0, .int 0, .int 0, .int 0])), (q15, .inr (6, [.ref q9, .ref q5, .ref q7, .int 0, .int 0, .int 0, .int 0, .int 0, .int 0, .int 0, .int 0, .ref tN, .int 0, .int 0]))] : va_W)) ++ ([(q17, .inr (1, [.null, .null, .null, .null, .null, .null, .null, .null, .null, .null, .int 0, .int 0, .int 0]))] : va_W)) B (spl rfl)
  refine call_IV (kn := 4) E B (init_X1 l D ct tN _ q17 q9 q5 q15 q11) (ws_good w_83c35d12) w_c5aaac22 w_ac3d0eba w_93810df2 rfl (by decide +kernel) rfl rfl rfl ⟨by decide, by decide⟩ rfl hl (Nat.le_of_ble_eq_true rfl) dX11_init_135 ⟨Nat.le_of_ble_eq_true rfl, Nat.le_of_ble_eq_true rfl⟩ ?_
  clear B
  intro u18 H locs _ B
  replace B := Hp.to (ws' := ws ++ ([(h, .inr (11, [.ref q1, .ref q2, .ref q3, .ref q5, .ref q7, .ref q9, .ref q11, .ref q13, .ref q15, .null, .null, .null, .int 0, .int 0])), (q1, .inl (ct 0, 200, .inl (fun _ => 0))), (q2, .inl (ct 0, 13, .inl (fun _ => 0))), (q3, .inr (10, [.ref (u4 0), .ref (u4 1), .int 0])), ((u4 0), .inl (ct 1, 4800, .inl (fun _ => 0))), ((u4 1), .inl (ct 1, 400, .inl (fun _ => 0))), (q5, .inr (9, [.ref (u6 0), .ref (u6 1), .ref (u6 2), .ref (u6 3), .ref (u6 4), .int 0])), ((u6 0), .inl (ct 0, 60, .inl (fun _ => 0))), ((u6 1), .inl (ct 0, 60, .inl (fun _ => 0))), ((u6 2), .inl (ct 4, 180, .inr (.inr (.inr (.inr (fun _ => none)))))), ((u6 3), .inl (ct 0, 480, .inl (fun _ => 0))), ((u6 4), .inl (ct 0, 480, .inl (fun _ => 0))), (q7, .inr (4, [.ref (u8 0), .ref (u8 1), .ref (u8 2), .int 0, .int 0, .int 0, .int 0, .int 0])), ((u8 0), .inl (ct 0, 6, .inl (fun _ => 0))), ((u8 1), .inl (ct 0, 6, .inl (fun _ => 0))), ((u8 2), .inl (ct 0, 6, .inl (fun _ => 0))), (q9, .inr (2, [.ref (u10 0), .ref (u10 1), .ref (u10 2), .ref (u10 3), .ref (u10 4), .ref (u10 5), .ref (u10 6), .ref (u10 7), .ref (u10 8), .ref (u10 9), .int 0])), ((u10 0), .inl (ct 4, 20, .inr (.inr (.inr (.inr (fun _ => none)))))), ((u10 1), .inl (ct 0, 20, .inl (fun _ => 0))), ((u10 2), .inl (ct 0, 20, .inl (fun _ => 0))), ((u10 3), .inl (ct 0, 20, .inl (fun _ => 0))), ((u10 4), .inl (ct 0, 20, .inl (fun _ => 0))), ((u10 5), .inl (ct 0, 320, .inl (fun _ => 0))), ((u10 6), .inl (ct 0, 320, .inl (fun _ => 0))), ((u10 7), .inl (ct 0, 320, .inl (fun _ => 0))), ((u10 8), .inl (ct 0, 320, .inl (fun _ => 0))), ((u10 9), .inl (ct 0, 320, .inl (fun _ => 0))), (q11, .inr (8, [.ref (u12 0), .ref (u12 1), .ref (u12 2), .ref (u12 3), .ref (u12 4), .int 0, .int 0])), ((u12 0), .inl (ct 5, 200, .inr (.inr (.inr (.inr (fun _ => none)))))), ((u12 1), .inl (ct 0, 60, .inl (fun _ => -1))), ((u12 2), .inl (ct 0, 1024, .inl (fun _ => 0))), ((u12 3), .inl (ct 0, 1024, .inl (fun _ => 0))), ((u12 4), .inl (ct 0, 1024, .inl (fun _ => 0))), (q13, .inr (3, [.ref q9, .ref tN, .int 0, .int 0, .int 0, .int 0, .int 0])), (q15, .inr (6, [.ref q9, .ref q5, .ref q7, .int 0, .int 0, .int 0, .int 0, .int 0, .int 0, .int 0, .int 0, .ref tN, .int 0, .int 0])), (q17, .inr (1, [.ref q9, .ref q5, .ref q15, .ref q11, .ref (u18 0), .ref (u18 1), .ref (u18 2), .ref (u18 3), .ref (u18 4), .ref (u18 5), .int 0, .int 0, .int 0])), ((u18 0), .inl (ct 0, 5, .inl (fun _ => 0))), ((u18 1), .inl (ct 0, 320, .inl (fun _ => 0))), ((u18 2), .inl (ct 0, 420, .inl (fun _ => 0))), ((u18 3), .inl (ct 0, 420, .inl (fun _ => 0))), ((u18 4), .inl (ct 0, 420, .inl (fun _ => 0))), ((u18 5), .inl (ct 2, 300, .inr (.inl (fun _ => 0))))] : va_W)) B (List.append_assoc ..)
  refine at_n (n := 138) (k1 := 41) (k2 := 13677) rfl rfl rfl ?_
  refine row_putF E B iX11 rfl tyX11 tyX11_ok nmX11 9 (by decide) w_2d4811da rfl hnm rfl (ws.length + 0) ((at_p _ _ _).trans rfl) rfl rfl (Nat.le_of_ble_eq_true rfl) dX11_init_138 ?_
  clear B
  intro H locs B
  replace B := Hp.to B (set_p ..)
  replace B := Hp.to (ws' := ws ++ ([(h, .inr (11, [.ref q1, .ref q2, .ref q3, .ref q5, .ref q7, .ref q9, .ref q11, .ref q13, .ref q15, .ref q17, .null, .null, .int 0, .int 0])), (q1, .inl (ct 0, 200, .inl (fun _ => 0))), (q2, .inl (ct 0, 13, .inl (fun _ => 0))), (q3, .inr (10, [.ref (u4 0), .ref (u4 1), .int 0])), ((u4 0), .inl (ct 1, 4800, .inl (fun _ => 0))), ((u4 1), .inl (ct 1, 400, .inl (fun _ => 0))), (q5, .inr (9, [.ref (u6 0), .ref (u6 1), .ref (u6 2), .ref (u6 3), .ref (u6 4), .int 0])), ((u6 0), .inl (ct 0, 60, .inl (fun _ => 0))), ((u6 1), .inl (ct 0, 60, .inl (fun _ => 0))), ((u6 2), .inl (ct 4, 180, .inr (.inr (.inr (.inr (fun _ => none)))))), ((u6 3), .inl (ct 0, 480, .inl (fun _ => 0))), ((u6 4), .inl (ct 0, 480, .inl (fun _ => 0))), (q7, .inr (4, [.ref (u8 0), .ref (u8 1), .ref (u8 2), .int 0, .int 0, .int 0, .int 0, .int 0])), ((u8 0), .inl (ct 0, 6, .inl (fun _ => 0))), ((u8 1), .inl (ct 0, 6, .inl (fun _ => 0))), ((u8 2), .inl (ct 0, 6, .inl (fun _ => 0))), (q9, .inr (2, [.ref (u10 0), .ref (u10 1), .ref (u10 2), .ref (u10 3), .ref (u10 4), .ref (u10 5), .ref (u10 6), .ref (u10 7), .ref (u10 8), .ref (u10 9), .int 0])), ((u10 0), .inl (ct 4, 20, .inr (.inr (.inr (.inr (fun _ => none)))))), ((u10 1), .inl (ct 0, 20, .inl (fun _ => 0))), ((u10 2), .inl (ct 0, 20, .inl (fun _ => 0))), ((u10 3), .inl (ct 0, 20, .inl (fun _ => 0))), ((u10 4), .inl (ct 0, 20, .inl (fun _ => 0))), ((u10 5), .inl (ct 0, 320, .inl (fun _ => 0))), ((u10 6), .inl (ct 0, 320, .inl (fun _ => 0))), ((u10 7), .inl (ct 0, 320, .inl (fun _ => 0))), ((u10 8), .inl (ct 0, 320, .inl (fun _ => 0))), ((u10 9), .inl (ct 0, 320, .inl (fun _ => 0))), (q11, .inr (8, [.ref (u12 0), .ref (u12 1), .ref (u12 2), .ref (u12 3), .ref (u12 4), .int 0, .int 0])), ((u12 0), .inl (ct 5, 200, .inr (.inr (.inr (.inr (fun _ => none)))))), ((u12 1), .inl (ct 0, 60, .inl (fun _ => -1))), ((u12 2), .inl (ct 0, 1024, .inl (fun _ => 0))), ((u12 3), .inl (ct 0, 1024, .inl (fun _ => 0))), ((u12 4), .inl (ct 0, 1024, .inl (fun _ => 0))), (q13, .inr (3, [.ref q9, .ref tN, .int 0, .int 0, .int 0, .int 0, .int 0])), (q15, .inr (6, [.ref q9, .ref q5, .ref q7, .int 0, .int 0, .int 0, .int 0, .int 0, .int 0, .int 0, .int 0, .ref tN, .int 0, .int 0])), (q17, .inr (1, [.ref q9, .ref q5, .ref q15, .ref q11, .ref (u18 0), .ref (u18 1), .ref (u18 2), .ref (u18 3), .ref (u18 4), .ref (u18 5), .int 0, .int 0, .int 0])), ((u18 0), .inl (ct 0, 5, .inl (fun _ => 0))), ((u18 1), .inl (ct 0, 320, .inl (fun _ => 0))), ((u18 2), .inl (ct 0, 420, .inl (fun _ => 0))), ((u18 3), .inl (ct 0, 420, .inl (fun _ => 0))), ((u18 4), .inl (ct 0, 420, .inl (fun _ => 0))), ((u18 5), .inl (ct 2, 300, .inr (.inl (fun _ => 0))))] : va_W)) B rfl
  refine at_pc (n := 141) rfl ?_
  refine lv_aload_n E.1.1 E.1.2.1 dX11_init_141 rfl (lv_at hl 0 rfl) ?_
  refine row_new (ci := 0) (fs := [.null, .null, .null, .null, .null, .null, .null, .null, .null, .null, .null, .int 0, .int 0, .int 0]) E B iX0 rfl tyX0 tyX0_ok w_ad6f1cf4 w_20960fe7 w_79916c1d (fun j hj => hd_0 j hj) (Nat.le_of_ble_eq_true rfl) (Nat.le_of_ble_eq_true rfl) dX11_init_142 ?_
  clear B
  intro q19 H B
  replace B := Hp.to (ws' := ws ++ ([(h, .inr (11, [.ref q1, .ref q2, .ref q3, .ref q5, .ref q7, .ref q9, .ref q11, .ref q13, .ref q15, .ref q17, .null, .null, .int 0, .int 0])), (q1, .inl (ct 0, 200, .inl (fun _ => 0))), (q2, .inl (ct 0, 13, .inl (fun _ => 0))), (q3, .inr (10, [.ref (u4 0), .ref (u4 1), .int 0])), ((u4 0), .inl (ct 1, 4800, .inl (fun _ => 0))), ((u4 1), .inl (ct 1, 400, .inl (fun _ => 0))), (q5, .inr (9, [.ref (u6 0), .ref (u6 1), .ref (u6 2), .ref (u6 3), .ref (u6 4), .int 0])), ((u6 0), .inl (ct 0, 60, .inl (fun _ => 0))), ((u6 1), .inl (ct 0, 60, .inl (fun _ => 0))), ((u6 2), .inl (ct 4, 180, .inr (.inr (.inr (.inr (fun _ => none)))))), ((u6 3), .inl (ct 0, 480, .inl (fun _ => 0))), ((u6 4), .inl (ct 0, 480, .inl (fun _ => 0))), (q7, .inr (4, [.ref (u8 0), .ref (u8 1), .ref (u8 2), .int 0, .int 0, .int 0, .int 0, .int 0])), ((u8 0), .inl (ct 0, 6, .inl (fun _ => 0))), ((u8 1), .inl (ct 0, 6, .inl (fun _ => 0))), ((u8 2), .inl (ct 0, 6, .inl (fun _ => 0))), (q9, .inr (2, [.ref (u10 0), .ref (u10 1), .ref (u10 2), .ref (u10 3), .ref (u10 4), .ref (u10 5), .ref (u10 6), .ref (u10 7), .ref (u10 8), .ref (u10 9), .int 0])), ((u10 0), .inl (ct 4, 20, .inr (.inr (.inr (.inr (fun _ => none)))))), ((u10 1), .inl (ct 0, 20, .inl (fun _ => 0))), ((u10 2), .inl (ct 0, 20, .inl (fun _ => 0))), ((u10 3), .inl (ct 0, 20, .inl (fun _ => 0))), ((u10 4), .inl (ct 0, 20, .inl (fun _ => 0))), ((u10 5), .inl (ct 0, 320, .inl (fun _ => 0))), ((u10 6), .inl (ct 0, 320, .inl (fun _ => 0))), ((u10 7), .inl (ct 0, 320, .inl (fun _ => 0))), ((u10 8), .inl (ct 0, 320, .inl (fun _ => 0))), ((u10 9), .inl (ct 0, 320, .inl (fun _ => 0))), (q11, .inr (8, [.ref (u12 0), .ref (u12 1), .ref (u12 2), .ref (u12 3), .ref (u12 4), .int 0, .int 0])), ((u12 0), .inl (ct 5, 200, .inr (.inr (.inr (.inr (fun _ => none)))))), ((u12 1), .inl (ct 0, 60, .inl (fun _ => -1))), ((u12 2), .inl (ct 0, 1024, .inl (fun _ => 0))), ((u12 3), .inl (ct 0, 1024, .inl (fun _ => 0))), ((u12 4), .inl (ct 0, 1024, .inl (fun _ => 0))), (q13, .inr (3, [.ref q9, .ref tN, .int 0, .int 0, .int 0, .int 0, .int 0])), (q15, .inr (6, [.ref q9, .ref q5, .ref q7, .int 0, .int 0, .int 0, .int 0, .int 0, .int 0, .int 0, .int 0, .ref tN, .int 0, .int 0])), (q17, .inr (1, [.ref q9, .ref q5, .ref q15, .ref q11, .ref (u18 0), .ref (u18 1), .ref (u18 2), .ref (u18 3), .ref (u18 4), .ref (u18 5), .int 0, .int 0, .int 0])), ((u18 0), .inl (ct 0, 5, .inl (fun _ => 0))), ((u18 1), .inl (ct 0, 320, .inl (fun _ => 0))), ((u18 2), .inl (ct 0, 420, .inl (fun _ => 0))), ((u18 3), .inl (ct 0, 420, .inl (fun _ => 0))), ((u18 4), .inl (ct 0, 420, .inl (fun _ => 0))), ((u18 5), .inl (ct 2, 300, .inr (.inl (fun _ => 0)))), (q19, .inr (0, [.null, .null, .null, .null, .null, .null, .null, .null, .null, .null, .null, .int 0, .int 0, .int 0]))] : va_W)) B (List.append_assoc ..)
  refine at_n (n := 145) (k1 := 42) (k2 := 13691) rfl rfl rfl ?_
  refine lv_dup E.1.1 E.1.2.1 dX11_init_145 rfl ?_
  refine lv_aload_n E.1.1 E.1.2.1 dX11_init_146 rfl (lv_at hl 0 rfl) ?_
  refine row_get (v := .ref q9) E B iX11 rfl 5 (by decide) w_2946730c (ws.length + 0) ((at_p _ _ _).trans rfl) rfl dX11_init_147 ?_
  refine lv_aload_n E.1.1 E.1.2.1 dX11_init_150 rfl (lv_at hl 0 rfl) ?_
  refine row_get (v := .ref q5) E B iX11 rfl 3 (by decide) w_49df9d0b (ws.length + 0) ((at_p _ _ _).trans rfl) rfl dX11_init_151 ?_
  refine lv_aload_n E.1.1 E.1.2.1 dX11_init_154 rfl (lv_at hl 0 rfl) ?_
  refine row_get (v := .ref q15) E B iX11 rfl 8 (by decide) w_a895f913 (ws.length + 0) ((at_p _ _ _).trans rfl) rfl dX11_init_155 ?_
  refine lv_aload_n E.1.1 E.1.2.1 dX11_init_158 rfl (lv_at hl 0 rfl) ?_
  refine row_get (v := .ref q11) E B iX11 rfl 6 (by decide) w_817dcde5 (ws.length + 0) ((at_p _ _ _).trans rfl) rfl dX11_init_159 ?_
  replace B := Hp.to (ws' := (ws ++ ([(h, .inr (11, [.ref q1, .ref q2, .ref q3, .ref q5, .ref q7, .ref q9, .ref q11, .ref q13, .ref q15, .ref q17, .null, .null, .int 0, .int 0])), (q1, .inl (ct 0, 200, .inl (fun _ => 0))), (q2, .inl (ct 0, 13, .inl (fun _ => 0))), (q3, .inr (10, [.ref (u4 0), .ref (u4 1), .int 0])), ((u4 0), .inl (ct 1, 4800, .inl (fun _ => 0))), ((u4 1), .inl (ct 1, 400, .inl (fun _ => 0))), (q5, .inr (9, [.ref (u6 0), .ref (u6 1), .ref (u6 2), .ref (u6 3), .ref (u6 4), .int 0])), ((u6 0), .inl (ct 0, 60, .inl (fun _ => 0))), ((u6 1), .inl (ct 0, 60, .inl (fun _ => 0))), ((u6 2), .inl (ct 4, 180, .inr (.inr (.inr (.inr (fun _ => none)))))), ((u6 3), .inl (ct 0, 480, .inl (fun _ => 0))), ((u6 4), .inl (ct 0, 480, .inl (fun _ => 0))), (q7, .inr (4, [.ref (u8 0), .ref (u8 1), .ref (u8 2), .int 0, .int 0, .int 0, .int 0, .int 0])), ((u8 0), .inl (ct 0, 6, .inl (fun _ => 0))), ((u8 1), .inl (ct 0, 6, .inl (fun _ => 0))), ((u8 2), .inl (ct 0, 6, .inl (fun _ => 0))), (q9, .inr (2, [.ref (u10 0), .ref (u10 1), .ref (u10 2), .ref (u10 3), .ref (u10 4), .ref (u10 5), .ref (u10 6), .ref (u10 7), .ref (u10 8), .ref (u10 9), .int 0])), ((u10 0), .inl (ct 4, 20, .inr (.inr (.inr (.inr (fun _ => none)))))), ((u10 1), .inl (ct 0, 20, .inl (fun _ => 0))), ((u10 2), .inl (ct 0, 20, .inl (fun _ => 0))), ((u10 3), .inl (ct 0, 20, .inl (fun _ => 0))), ((u10 4), .inl (ct 0, 20, .inl (fun _ => 0))), ((u10 5), .inl (ct 0, 320, .inl (fun _ => 0))), ((u10 6), .inl (ct 0, 320, .inl (fun _ => 0))), ((u10 7), .inl (ct 0, 320, .inl (fun _ => 0))), ((u10 8), .inl (ct 0, 320, .inl (fun _ => 0))), ((u10 9), .inl (ct 0, 320, .inl (fun _ => 0))), (q11, .inr (8, [.ref (u12 0), .ref (u12 1), .ref (u12 2), .ref (u12 3), .ref (u12 4), .int 0, .int 0])), ((u12 0), .inl (ct 5, 200, .inr (.inr (.inr (.inr (fun _ => none)))))), ((u12 1), .inl (ct 0, 60, .inl (fun _ => -1))), ((u12 2), .inl (ct 0, 1024, .inl (fun _ => 0))), ((u12 3), .inl (ct 0, 1024, .inl (fun _ => 0))), ((u12 4), .inl (ct 0, 1024, .inl (fun _ => 0))), (q13, .inr (3, [.ref q9, .ref tN, .int 0, .int 0, .int 0, .int 0, .int 0])), (q15, .inr (6, [.ref q9, .ref q5, .ref q7, .int 0, .int 0, .int 0, .int 0, .int 0, .int 0, .int 0, .int 0, .ref tN, .int 0, .int 0])), (q17, .inr (1, [.ref q9, .ref q5, .ref q15, .ref q11, .ref (u18 0), .ref (u18 1), .ref (u18 2), .ref (u18 3), .ref (u18 4), .ref (u18 5), .int 0, .int 0, .int 0])), ((u18 0), .inl (ct 0, 5, .inl (fun _ => 0))), ((u18 1), .inl (ct 0, 320, .inl (fun _ => 0))), ((u18 2), .inl (ct 0, 420, .inl (fun _ => 0))), ((u18 3), .inl (ct 0, 420, .inl (fun _ => 0))), ((u18 4), .inl (ct 0, 420, .inl (fun _ => 0))), ((u18 5), .inl (ct 2, 300, .inr (.inl (fun _ => 0))))] : va_W)) ++ ([(q19, .inr (0, [.null, .null, .null, .null, .null, .null, .null, .null, .null, .null, .null, .int 0, .int 0, .int 0]))] : va_W)) B (spl rfl)
  refine call_IV (kn := 4) E B (init_X0 l D ct tN _ q19 q9 q5 q15 q11) (ws_good w_fe8064a0) w_79916c1d w_fa939814 w_311f6dbd rfl (by decide +kernel) rfl rfl rfl ⟨by decide, by decide⟩ rfl hl (Nat.le_of_ble_eq_true rfl) dX11_init_162 ⟨Nat.le_of_ble_eq_true rfl, Nat.le_of_ble_eq_true rfl⟩ ?_
  clear B
  intro u20 H locs _ B
  replace B := Hp.to (ws' := ws ++ ([(h, .inr (11, [.ref q1, .ref q2, .ref q3, .ref q5, .ref q7, .ref q9, .ref q11, .ref q13, .ref q15, .ref q17, .null, .null, .int 0, .int 0])), (q1, .inl (ct 0, 200, .inl (fun _ => 0))), (q2, .inl (ct 0, 13, .inl (fun _ => 0))), (q3, .inr (10, [.ref (u4 0), .ref (u4 1), .int 0])), ((u4 0), .inl (ct 1, 4800, .inl (fun _ => 0))), ((u4 1), .inl (ct 1, 400, .inl (fun _ => 0))), (q5, .inr (9, [.ref (u6 0), .ref (u6 1), .ref (u6 2), .ref (u6 3), .ref (u6 4), .int 0])), ((u6 0), .inl (ct 0, 60, .inl (fun _ => 0))), ((u6 1), .inl (ct 0, 60, .inl (fun _ => 0))), ((u6 2), .inl (ct 4, 180, .inr (.inr (.inr (.inr (fun _ => none)))))), ((u6 3), .inl (ct 0, 480, .inl (fun _ => 0))), ((u6 4), .inl (ct 0, 480, .inl (fun _ => 0))), (q7, .inr (4, [.ref (u8 0), .ref (u8 1), .ref (u8 2), .int 0, .int 0, .int 0, .int 0, .int 0])), ((u8 0), .inl (ct 0, 6, .inl (fun _ => 0))), ((u8 1), .inl (ct 0, 6, .inl (fun _ => 0))), ((u8 2), .inl (ct 0, 6, .inl (fun _ => 0))), (q9, .inr (2, [.ref (u10 0), .ref (u10 1), .ref (u10 2), .ref (u10 3), .ref (u10 4), .ref (u10 5), .ref (u10 6), .ref (u10 7), .ref (u10 8), .ref (u10 9), .int 0])), ((u10 0), .inl (ct 4, 20, .inr (.inr (.inr (.inr (fun _ => none)))))), ((u10 1), .inl (ct 0, 20, .inl (fun _ => 0))), ((u10 2), .inl (ct 0, 20, .inl (fun _ => 0))), ((u10 3), .inl (ct 0, 20, .inl (fun _ => 0))), ((u10 4), .inl (ct 0, 20, .inl (fun _ => 0))), ((u10 5), .inl (ct 0, 320, .inl (fun _ => 0))), ((u10 6), .inl (ct 0, 320, .inl (fun _ => 0))), ((u10 7), .inl (ct 0, 320, .inl (fun _ => 0))), ((u10 8), .inl (ct 0, 320, .inl (fun _ => 0))), ((u10 9), .inl (ct 0, 320, .inl (fun _ => 0))), (q11, .inr (8, [.ref (u12 0), .ref (u12 1), .ref (u12 2), .ref (u12 3), .ref (u12 4), .int 0, .int 0])), ((u12 0), .inl (ct 5, 200, .inr (.inr (.inr (.inr (fun _ => none)))))), ((u12 1), .inl (ct 0, 60, .inl (fun _ => -1))), ((u12 2), .inl (ct 0, 1024, .inl (fun _ => 0))), ((u12 3), .inl (ct 0, 1024, .inl (fun _ => 0))), ((u12 4), .inl (ct 0, 1024, .inl (fun _ => 0))), (q13, .inr (3, [.ref q9, .ref tN, .int 0, .int 0, .int 0, .int 0, .int 0])), (q15, .inr (6, [.ref q9, .ref q5, .ref q7, .int 0, .int 0, .int 0, .int 0, .int 0, .int 0, .int 0, .int 0, .ref tN, .int 0, .int 0])), (q17, .inr (1, [.ref q9, .ref q5, .ref q15, .ref q11, .ref (u18 0), .ref (u18 1), .ref (u18 2), .ref (u18 3), .ref (u18 4), .ref (u18 5), .int 0, .int 0, .int 0])), ((u18 0), .inl (ct 0, 5, .inl (fun _ => 0))), ((u18 1), .inl (ct 0, 320, .inl (fun _ => 0))), ((u18 2), .inl (ct 0, 420, .inl (fun _ => 0))), ((u18 3), .inl (ct 0, 420, .inl (fun _ => 0))), ((u18 4), .inl (ct 0, 420, .inl (fun _ => 0))), ((u18 5), .inl (ct 2, 300, .inr (.inl (fun _ => 0)))), (q19, .inr (0, [.ref q9, .ref q5, .ref q15, .ref q11, .ref (u20 0), .ref (u20 1), .ref (u20 2), .ref (u20 3), .ref (u20 4), .ref (u20 5), .ref (u20 6), .int 0, .int 0, .int 0])), ((u20 0), .inl (ct 0, 6, .inl (fun _ => 0))), ((u20 1), .inl (ct 0, 6, .inl (fun _ => 0))), ((u20 2), .inl (ct 0, 24, .inl (fun _ => 0))), ((u20 3), .inl (ct 2, 40, .inr (.inl (fun _ => 0)))), ((u20 4), .inl (ct 0, 24, .inl (fun _ => 0))), ((u20 5), .inl (ct 3, 24, .inl (fun _ => 0))), ((u20 6), .inl (ct 0, 6, .inl (fun _ => 0)))] : va_W)) B (List.append_assoc ..)
  refine at_n (n := 165) (k1 := 49) (k2 := 13821) rfl rfl rfl ?_
  refine row_putF E B iX11 rfl tyX11 tyX11_ok nmX11 10 (by decide) w_1731f48c rfl hnm rfl (ws.length + 0) ((at_p _ _ _).trans rfl) rfl rfl (Nat.le_of_ble_eq_true rfl) dX11_init_165 ?_
  clear B
  intro H locs B
  replace B := Hp.to B (set_p ..)
  replace B := Hp.to (ws' := ws ++ ([(h, .inr (11, [.ref q1, .ref q2, .ref q3, .ref q5, .ref q7, .ref q9, .ref q11, .ref q13, .ref q15, .ref q17, .ref q19, .null, .int 0, .int 0])), (q1, .inl (ct 0, 200, .inl (fun _ => 0))), (q2, .inl (ct 0, 13, .inl (fun _ => 0))), (q3, .inr (10, [.ref (u4 0), .ref (u4 1), .int 0])), ((u4 0), .inl (ct 1, 4800, .inl (fun _ => 0))), ((u4 1), .inl (ct 1, 400, .inl (fun _ => 0))), (q5, .inr (9, [.ref (u6 0), .ref (u6 1), .ref (u6 2), .ref (u6 3), .ref (u6 4), .int 0])), ((u6 0), .inl (ct 0, 60, .inl (fun _ => 0))), ((u6 1), .inl (ct 0, 60, .inl (fun _ => 0))), ((u6 2), .inl (ct 4, 180, .inr (.inr (.inr (.inr (fun _ => none)))))), ((u6 3), .inl (ct 0, 480, .inl (fun _ => 0))), ((u6 4), .inl (ct 0, 480, .inl (fun _ => 0))), (q7, .inr (4, [.ref (u8 0), .ref (u8 1), .ref (u8 2), .int 0, .int 0, .int 0, .int 0, .int 0])), ((u8 0), .inl (ct 0, 6, .inl (fun _ => 0))), ((u8 1), .inl (ct 0, 6, .inl (fun _ => 0))), ((u8 2), .inl (ct 0, 6, .inl (fun _ => 0))), (q9, .inr (2, [.ref (u10 0), .ref (u10 1), .ref (u10 2), .ref (u10 3), .ref (u10 4), .ref (u10 5), .ref (u10 6), .ref (u10 7), .ref (u10 8), .ref (u10 9), .int 0])), ((u10 0), .inl (ct 4, 20, .inr (.inr (.inr (.inr (fun _ => none)))))), ((u10 1), .inl (ct 0, 20, .inl (fun _ => 0))), ((u10 2), .inl (ct 0, 20, .inl (fun _ => 0))), ((u10 3), .inl (ct 0, 20, .inl (fun _ => 0))), ((u10 4), .inl (ct 0, 20, .inl (fun _ => 0))), ((u10 5), .inl (ct 0, 320, .inl (fun _ => 0))), ((u10 6), .inl (ct 0, 320, .inl (fun _ => 0))), ((u10 7), .inl (ct 0, 320, .inl (fun _ => 0))), ((u10 8), .inl (ct 0, 320, .inl (fun _ => 0))), ((u10 9), .inl (ct 0, 320, .inl (fun _ => 0))), (q11, .inr (8, [.ref (u12 0), .ref (u12 1), .ref (u12 2), .ref (u12 3), .ref (u12 4), .int 0, .int 0])), ((u12 0), .inl (ct 5, 200, .inr (.inr (.inr (.inr (fun _ => none)))))), ((u12 1), .inl (ct 0, 60, .inl (fun _ => -1))), ((u12 2), .inl (ct 0, 1024, .inl (fun _ => 0))), ((u12 3), .inl (ct 0, 1024, .inl (fun _ => 0))), ((u12 4), .inl (ct 0, 1024, .inl (fun _ => 0))), (q13, .inr (3, [.ref q9, .ref tN, .int 0, .int 0, .int 0, .int 0, .int 0])), (q15, .inr (6, [.ref q9, .ref q5, .ref q7, .int 0, .int 0, .int 0, .int 0, .int 0, .int 0, .int 0, .int 0, .ref tN, .int 0, .int 0])), (q17, .inr (1, [.ref q9, .ref q5, .ref q15, .ref q11, .ref (u18 0), .ref (u18 1), .ref (u18 2), .ref (u18 3), .ref (u18 4), .ref (u18 5), .int 0, .int 0, .int 0])), ((u18 0), .inl (ct 0, 5, .inl (fun _ => 0))), ((u18 1), .inl (ct 0, 320, .inl (fun _ => 0))), ((u18 2), .inl (ct 0, 420, .inl (fun _ => 0))), ((u18 3), .inl (ct 0, 420, .inl (fun _ => 0))), ((u18 4), .inl (ct 0, 420, .inl (fun _ => 0))), ((u18 5), .inl (ct 2, 300, .inr (.inl (fun _ => 0)))), (q19, .inr (0, [.ref q9, .ref q5, .ref q15, .ref q11, .ref (u20 0), .ref (u20 1), .ref (u20 2), .ref (u20 3), .ref (u20 4), .ref (u20 5), .ref (u20 6), .int 0, .int 0, .int 0])), ((u20 0), .inl (ct 0, 6, .inl (fun _ => 0))), ((u20 1), .inl (ct 0, 6, .inl (fun _ => 0))), ((u20 2), .inl (ct 0, 24, .inl (fun _ => 0))), ((u20 3), .inl (ct 2, 40, .inr (.inl (fun _ => 0)))), ((u20 4), .inl (ct 0, 24, .inl (fun _ => 0))), ((u20 5), .inl (ct 3, 24, .inl (fun _ => 0))), ((u20 6), .inl (ct 0, 6, .inl (fun _ => 0)))] : va_W)) B rfl
  refine at_pc (n := 168) rfl ?_
  refine lv_aload_n E.1.1 E.1.2.1 dX11_init_168 rfl (lv_at hl 0 rfl) ?_
  refine row_new (ci := 5) (fs := [.null, .null, .null, .null, .null, .null, .null, .null, .int 0, .int 0]) E B iX5 rfl tyX5 tyX5_ok w_3d064872 w_8ea79d83 w_e42eab56 (fun j hj => hd_5 j hj) (Nat.le_of_ble_eq_true rfl) (Nat.le_of_ble_eq_true rfl) dX11_init_169 ?_
  clear B
  intro q21 H B
  replace B := Hp.to (ws' := ws ++ ([(h, .inr (11, [.ref q1, .ref q2, .ref q3, .ref q5, .ref q7, .ref q9, .ref q11, .ref q13, .ref q15, .ref q17, .ref q19, .null, .int 0, .int 0])), (q1, .inl (ct 0, 200, .inl (fun _ => 0))), (q2, .inl (ct 0, 13, .inl (fun _ => 0))), (q3, .inr (10, [.ref (u4 0), .ref (u4 1), .int 0])), ((u4 0), .inl (ct 1, 4800, .inl (fun _ => 0))), ((u4 1), .inl (ct 1, 400, .inl (fun _ => 0))), (q5, .inr (9, [.ref (u6 0), .ref (u6 1), .ref (u6 2), .ref (u6 3), .ref (u6 4), .int 0])), ((u6 0), .inl (ct 0, 60, .inl (fun _ => 0))), ((u6 1), .inl (ct 0, 60, .inl (fun _ => 0))), ((u6 2), .inl (ct 4, 180, .inr (.inr (.inr (.inr (fun _ => none)))))), ((u6 3), .inl (ct 0, 480, .inl (fun _ => 0))), ((u6 4), .inl (ct 0, 480, .inl (fun _ => 0))), (q7, .inr (4, [.ref (u8 0), .ref (u8 1), .ref (u8 2), .int 0, .int 0, .int 0, .int 0, .int 0])), ((u8 0), .inl (ct 0, 6, .inl (fun _ => 0))), ((u8 1), .inl (ct 0, 6, .inl (fun _ => 0))), ((u8 2), .inl (ct 0, 6, .inl (fun _ => 0))), (q9, .inr (2, [.ref (u10 0), .ref (u10 1), .ref (u10 2), .ref (u10 3), .ref (u10 4), .ref (u10 5), .ref (u10 6), .ref (u10 7), .ref (u10 8), .ref (u10 9), .int 0])), ((u10 0), .inl (ct 4, 20, .inr (.inr (.inr (.inr (fun _ => none)))))), ((u10 1), .inl (ct 0, 20, .inl (fun _ => 0))), ((u10 2), .inl (ct 0, 20, .inl (fun _ => 0))), ((u10 3), .inl (ct 0, 20, .inl (fun _ => 0))), ((u10 4), .inl (ct 0, 20, .inl (fun _ => 0))), ((u10 5), .inl (ct 0, 320, .inl (fun _ => 0))), ((u10 6), .inl (ct 0, 320, .inl (fun _ => 0))), ((u10 7), .inl (ct 0, 320, .inl (fun _ => 0))), ((u10 8), .inl (ct 0, 320, .inl (fun _ => 0))), ((u10 9), .inl (ct 0, 320, .inl (fun _ => 0))), (q11, .inr (8, [.ref (u12 0), .ref (u12 1), .ref (u12 2), .ref (u12 3), .ref (u12 4), .int 0, .int 0])), ((u12 0), .inl (ct 5, 200, .inr (.inr (.inr (.inr (fun _ => none)))))), ((u12 1), .inl (ct 0, 60, .inl (fun _ => -1))), ((u12 2), .inl (ct 0, 1024, .inl (fun _ => 0))), ((u12 3), .inl (ct 0, 1024, .inl (fun _ => 0))), ((u12 4), .inl (ct 0, 1024, .inl (fun _ => 0))), (q13, .inr (3, [.ref q9, .ref tN, .int 0, .int 0, .int 0, .int 0, .int 0])), (q15, .inr (6, [.ref q9, .ref q5, .ref q7, .int 0, .int 0, .int 0, .int 0, .int 0, .int 0, .int 0, .int 0, .ref tN, .int 0, .int 0])), (q17, .inr (1, [.ref q9, .ref q5, .ref q15, .ref q11, .ref (u18 0), .ref (u18 1), .ref (u18 2), .ref (u18 3), .ref (u18 4), .ref (u18 5), .int 0, .int 0, .int 0])), ((u18 0), .inl (ct 0, 5, .inl (fun _ => 0))), ((u18 1), .inl (ct 0, 320, .inl (fun _ => 0))), ((u18 2), .inl (ct 0, 420, .inl (fun _ => 0))), ((u18 3), .inl (ct 0, 420, .inl (fun _ => 0))), ((u18 4), .inl (ct 0, 420, .inl (fun _ => 0))), ((u18 5), .inl (ct 2, 300, .inr (.inl (fun _ => 0)))), (q19, .inr (0, [.ref q9, .ref q5, .ref q15, .ref q11, .ref (u20 0), .ref (u20 1), .ref (u20 2), .ref (u20 3), .ref (u20 4), .ref (u20 5), .ref (u20 6), .int 0, .int 0, .int 0])), ((u20 0), .inl (ct 0, 6, .inl (fun _ => 0))), ((u20 1), .inl (ct 0, 6, .inl (fun _ => 0))), ((u20 2), .inl (ct 0, 24, .inl (fun _ => 0))), ((u20 3), .inl (ct 2, 40, .inr (.inl (fun _ => 0)))), ((u20 4), .inl (ct 0, 24, .inl (fun _ => 0))), ((u20 5), .inl (ct 3, 24, .inl (fun _ => 0))), ((u20 6), .inl (ct 0, 6, .inl (fun _ => 0))), (q21, .inr (5, [.null, .null, .null, .null, .null, .null, .null, .null, .int 0, .int 0]))] : va_W)) B (List.append_assoc ..)
  refine at_n (n := 172) (k1 := 50) (k2 := 13831) rfl rfl rfl ?_
  refine lv_dup E.1.1 E.1.2.1 dX11_init_172 rfl ?_
  refine lv_aload_n E.1.1 E.1.2.1 dX11_init_173 rfl (lv_at hl 0 rfl) ?_
  refine row_get (v := .ref q5) E B iX11 rfl 3 (by decide) w_49df9d0b (ws.length + 0) ((at_p _ _ _).trans rfl) rfl dX11_init_174 ?_
  refine lv_aload_n E.1.1 E.1.2.1 dX11_init_177 rfl (lv_at hl 0 rfl) ?_
  refine row_get (v := .ref q7) E B iX11 rfl 4 (by decide) w_2632cf99 (ws.length + 0) ((at_p _ _ _).trans rfl) rfl dX11_init_178 ?_
  refine lv_aload_n E.1.1 E.1.2.1 dX11_init_181 rfl (lv_at hl 0 rfl) ?_
  refine row_get (v := .ref q11) E B iX11 rfl 6 (by decide) w_817dcde5 (ws.length + 0) ((at_p _ _ _).trans rfl) rfl dX11_init_182 ?_
  replace B := Hp.to (ws' := (ws ++ ([(h, .inr (11, [.ref q1, .ref q2, .ref q3, .ref q5, .ref q7, .ref q9, .ref q11, .ref q13, .ref q15, .ref q17, .ref q19, .null, .int 0, .int 0])), (q1, .inl (ct 0, 200, .inl (fun _ => 0))), (q2, .inl (ct 0, 13, .inl (fun _ => 0))), (q3, .inr (10, [.ref (u4 0), .ref (u4 1), .int 0])), ((u4 0), .inl (ct 1, 4800, .inl (fun _ => 0))), ((u4 1), .inl (ct 1, 400, .inl (fun _ => 0))), (q5, .inr (9, [.ref (u6 0), .ref (u6 1), .ref (u6 2), .ref (u6 3), .ref (u6 4), .int 0])), ((u6 0), .inl (ct 0, 60, .inl (fun _ => 0))), ((u6 1), .inl (ct 0, 60, .inl (fun _ => 0))), ((u6 2), .inl (ct 4, 180, .inr (.inr (.inr (.inr (fun _ => none)))))), ((u6 3), .inl (ct 0, 480, .inl (fun _ => 0))), ((u6 4), .inl (ct 0, 480, .inl (fun _ => 0))), (q7, .inr (4, [.ref (u8 0), .ref (u8 1), .ref (u8 2), .int 0, .int 0, .int 0, .int 0, .int 0])), ((u8 0), .inl (ct 0, 6, .inl (fun _ => 0))), ((u8 1), .inl (ct 0, 6, .inl (fun _ => 0))), ((u8 2), .inl (ct 0, 6, .inl (fun _ => 0))), (q9, .inr (2, [.ref (u10 0), .ref (u10 1), .ref (u10 2), .ref (u10 3), .ref (u10 4), .ref (u10 5), .ref (u10 6), .ref (u10 7), .ref (u10 8), .ref (u10 9), .int 0])), ((u10 0), .inl (ct 4, 20, .inr (.inr (.inr (.inr (fun _ => none)))))), ((u10 1), .inl (ct 0, 20, .inl (fun _ => 0))), ((u10 2), .inl (ct 0, 20, .inl (fun _ => 0))), ((u10 3), .inl (ct 0, 20, .inl (fun _ => 0))), ((u10 4), .inl (ct 0, 20, .inl (fun _ => 0))), ((u10 5), .inl (ct 0, 320, .inl (fun _ => 0))), ((u10 6), .inl (ct 0, 320, .inl (fun _ => 0))), ((u10 7), .inl (ct 0, 320, .inl (fun _ => 0))), ((u10 8), .inl (ct 0, 320, .inl (fun _ => 0))), ((u10 9), .inl (ct 0, 320, .inl (fun _ => 0))), (q11, .inr (8, [.ref (u12 0), .ref (u12 1), .ref (u12 2), .ref (u12 3), .ref (u12 4), .int 0, .int 0])), ((u12 0), .inl (ct 5, 200, .inr (.inr (.inr (.inr (fun _ => none)))))), ((u12 1), .inl (ct 0, 60, .inl (fun _ => -1))), ((u12 2), .inl (ct 0, 1024, .inl (fun _ => 0))), ((u12 3), .inl (ct 0, 1024, .inl (fun _ => 0))), ((u12 4), .inl (ct 0, 1024, .inl (fun _ => 0))), (q13, .inr (3, [.ref q9, .ref tN, .int 0, .int 0, .int 0, .int 0, .int 0])), (q15, .inr (6, [.ref q9, .ref q5, .ref q7, .int 0, .int 0, .int 0, .int 0, .int 0, .int 0, .int 0, .int 0, .ref tN, .int 0, .int 0])), (q17, .inr (1, [.ref q9, .ref q5, .ref q15, .ref q11, .ref (u18 0), .ref (u18 1), .ref (u18 2), .ref (u18 3), .ref (u18 4), .ref (u18 5), .int 0, .int 0, .int 0])), ((u18 0), .inl (ct 0, 5, .inl (fun _ => 0))), ((u18 1), .inl (ct 0, 320, .inl (fun _ => 0))), ((u18 2), .inl (ct 0, 420, .inl (fun _ => 0))), ((u18 3), .inl (ct 0, 420, .inl (fun _ => 0))), ((u18 4), .inl (ct 0, 420, .inl (fun _ => 0))), ((u18 5), .inl (ct 2, 300, .inr (.inl (fun _ => 0)))), (q19, .inr (0, [.ref q9, .ref q5, .ref q15, .ref q11, .ref (u20 0), .ref (u20 1), .ref (u20 2), .ref (u20 3), .ref (u20 4), .ref (u20 5), .ref (u20 6), .int 0, .int 0, .int 0])), ((u20 0), .inl (ct 0, 6, .inl (fun _ => 0))), ((u20 1), .inl (ct 0, 6, .inl (fun _ => 0))), ((u20 2), .inl (ct 0, 24, .inl (fun _ => 0))), ((u20 3), .inl (ct 2, 40, .inr (.inl (fun _ => 0)))), ((u20 4), .inl (ct 0, 24, .inl (fun _ => 0))), ((u20 5), .inl (ct 3, 24, .inl (fun _ => 0))), ((u20 6), .inl (ct 0, 6, .inl (fun _ => 0)))] : va_W)) ++ ([(q21, .inr (5, [.null, .null, .null, .null, .null, .null, .null, .null, .int 0, .int 0]))] : va_W)) B (spl rfl)
  refine call_IV (kn := 3) E B (init_X5 l D ct tN _ q21 q5 q7 q11) (ws_good w_13deefe5) w_e42eab56 w_3098d345 w_ef4ee9af rfl (by decide +kernel) rfl rfl rfl ⟨by decide, by decide⟩ rfl hl (Nat.le_of_ble_eq_true rfl) dX11_init_185 ⟨Nat.le_of_ble_eq_true rfl, Nat.le_of_ble_eq_true rfl⟩ ?_
  clear B
  intro u22 H locs _ B
  replace B := Hp.to (ws' := ws ++ ([(h, .inr (11, [.ref q1, .ref q2, .ref q3, .ref q5, .ref q7, .ref q9, .ref q11, .ref q13, .ref q15, .ref q17, .ref q19, .null, .int 0, .int 0])), (q1, .inl (ct 0, 200, .inl (fun _ => 0))), (q2, .inl (ct 0, 13, .inl (fun _ => 0))), (q3, .inr (10, [.ref (u4 0), .ref (u4 1), .int 0])), ((u4 0), .inl (ct 1, 4800, .inl (fun _ => 0))), ((u4 1), .inl (ct 1, 400, .inl (fun _ => 0))), (q5, .inr (9, [.ref (u6 0), .ref (u6 1), .ref (u6 2), .ref (u6 3), .ref (u6 4), .int 0])), ((u6 0), .inl (ct 0, 60, .inl (fun _ => 0))), ((u6 1), .inl (ct 0, 60, .inl (fun _ => 0))), ((u6 2), .inl (ct 4, 180, .inr (.inr (.inr (.inr (fun _ => none)))))), ((u6 3), .inl (ct 0, 480, .inl (fun _ => 0))), ((u6 4), .inl (ct 0, 480, .inl (fun _ => 0))), (q7, .inr (4, [.ref (u8 0), .ref (u8 1), .ref (u8 2), .int 0, .int 0, .int 0, .int 0, .int 0])), ((u8 0), .inl (ct 0, 6, .inl (fun _ => 0))), ((u8 1), .inl (ct 0, 6, .inl (fun _ => 0))), ((u8 2), .inl (ct 0, 6, .inl (fun _ => 0))), (q9, .inr (2, [.ref (u10 0), .ref (u10 1), .ref (u10 2), .ref (u10 3), .ref (u10 4), .ref (u10 5), .ref (u10 6), .ref (u10 7), .ref (u10 8), .ref (u10 9), .int 0])), ((u10 0), .inl (ct 4, 20, .inr (.inr (.inr (.inr (fun _ => none)))))), ((u10 1), .inl (ct 0, 20, .inl (fun _ => 0))), ((u10 2), .inl (ct 0, 20, .inl (fun _ => 0))), ((u10 3), .inl (ct 0, 20, .inl (fun _ => 0))), ((u10 4), .inl (ct 0, 20, .inl (fun _ => 0))), ((u10 5), .inl (ct 0, 320, .inl (fun _ => 0))), ((u10 6), .inl (ct 0, 320, .inl (fun _ => 0))), ((u10 7), .inl (ct 0, 320, .inl (fun _ => 0))), ((u10 8), .inl (ct 0, 320, .inl (fun _ => 0))), ((u10 9), .inl (ct 0, 320, .inl (fun _ => 0))), (q11, .inr (8, [.ref (u12 0), .ref (u12 1), .ref (u12 2), .ref (u12 3), .ref (u12 4), .int 0, .int 0])), ((u12 0), .inl (ct 5, 200, .inr (.inr (.inr (.inr (fun _ => none)))))), ((u12 1), .inl (ct 0, 60, .inl (fun _ => -1))), ((u12 2), .inl (ct 0, 1024, .inl (fun _ => 0))), ((u12 3), .inl (ct 0, 1024, .inl (fun _ => 0))), ((u12 4), .inl (ct 0, 1024, .inl (fun _ => 0))), (q13, .inr (3, [.ref q9, .ref tN, .int 0, .int 0, .int 0, .int 0, .int 0])), (q15, .inr (6, [.ref q9, .ref q5, .ref q7, .int 0, .int 0, .int 0, .int 0, .int 0, .int 0, .int 0, .int 0, .ref tN, .int 0, .int 0])), (q17, .inr (1, [.ref q9, .ref q5, .ref q15, .ref q11, .ref (u18 0), .ref (u18 1), .ref (u18 2), .ref (u18 3), .ref (u18 4), .ref (u18 5), .int 0, .int 0, .int 0])), ((u18 0), .inl (ct 0, 5, .inl (fun _ => 0))), ((u18 1), .inl (ct 0, 320, .inl (fun _ => 0))), ((u18 2), .inl (ct 0, 420, .inl (fun _ => 0))), ((u18 3), .inl (ct 0, 420, .inl (fun _ => 0))), ((u18 4), .inl (ct 0, 420, .inl (fun _ => 0))), ((u18 5), .inl (ct 2, 300, .inr (.inl (fun _ => 0)))), (q19, .inr (0, [.ref q9, .ref q5, .ref q15, .ref q11, .ref (u20 0), .ref (u20 1), .ref (u20 2), .ref (u20 3), .ref (u20 4), .ref (u20 5), .ref (u20 6), .int 0, .int 0, .int 0])), ((u20 0), .inl (ct 0, 6, .inl (fun _ => 0))), ((u20 1), .inl (ct 0, 6, .inl (fun _ => 0))), ((u20 2), .inl (ct 0, 24, .inl (fun _ => 0))), ((u20 3), .inl (ct 2, 40, .inr (.inl (fun _ => 0)))), ((u20 4), .inl (ct 0, 24, .inl (fun _ => 0))), ((u20 5), .inl (ct 3, 24, .inl (fun _ => 0))), ((u20 6), .inl (ct 0, 6, .inl (fun _ => 0))), (q21, .inr (5, [.ref q5, .ref q7, .ref q11, .ref (u22 0), .ref (u22 1), .ref (u22 2), .ref (u22 3), .ref (u22 4), .int 0, .int 0])), ((u22 0), .inl (ct 0, 8, .inl (fun _ => 0))), ((u22 1), .inl (ct 0, 6, .inl (fun _ => 0))), ((u22 2), .inl (ct 0, 6, .inl (fun _ => 0))), ((u22 3), .inl (ct 0, 6, .inl (fun _ => 0))), ((u22 4), .inl (ct 0, 6, .inl (fun _ => 0)))] : va_W)) B (List.append_assoc ..)
  refine at_n (n := 188) (k1 := 55) (k2 := 13863) rfl rfl rfl ?_
  refine row_putF E B iX11 rfl tyX11 tyX11_ok nmX11 11 (by decide) w_da60932c rfl hnm rfl (ws.length + 0) ((at_p _ _ _).trans rfl) rfl rfl (Nat.le_of_ble_eq_true rfl) dX11_init_188 ?_
  clear B
  intro H locs B
  replace B := Hp.to B (set_p ..)
  replace B := Hp.to (ws' := ws ++ ([(h, .inr (11, [.ref q1, .ref q2, .ref q3, .ref q5, .ref q7, .ref q9, .ref q11, .ref q13, .ref q15, .ref q17, .ref q19, .ref q21, .int 0, .int 0])), (q1, .inl (ct 0, 200, .inl (fun _ => 0))), (q2, .inl (ct 0, 13, .inl (fun _ => 0))), (q3, .inr (10, [.ref (u4 0), .ref (u4 1), .int 0])), ((u4 0), .inl (ct 1, 4800, .inl (fun _ => 0))), ((u4 1), .inl (ct 1, 400, .inl (fun _ => 0))), (q5, .inr (9, [.ref (u6 0), .ref (u6 1), .ref (u6 2), .ref (u6 3), .ref (u6 4), .int 0])), ((u6 0), .inl (ct 0, 60, .inl (fun _ => 0))), ((u6 1), .inl (ct 0, 60, .inl (fun _ => 0))), ((u6 2), .inl (ct 4, 180, .inr (.inr (.inr (.inr (fun _ => none)))))), ((u6 3), .inl (ct 0, 480, .inl (fun _ => 0))), ((u6 4), .inl (ct 0, 480, .inl (fun _ => 0))), (q7, .inr (4, [.ref (u8 0), .ref (u8 1), .ref (u8 2), .int 0, .int 0, .int 0, .int 0, .int 0])), ((u8 0), .inl (ct 0, 6, .inl (fun _ => 0))), ((u8 1), .inl (ct 0, 6, .inl (fun _ => 0))), ((u8 2), .inl (ct 0, 6, .inl (fun _ => 0))), (q9, .inr (2, [.ref (u10 0), .ref (u10 1), .ref (u10 2), .ref (u10 3), .ref (u10 4), .ref (u10 5), .ref (u10 6), .ref (u10 7), .ref (u10 8), .ref (u10 9), .int 0])), ((u10 0), .inl (ct 4, 20, .inr (.inr (.inr (.inr (fun _ => none)))))), ((u10 1), .inl (ct 0, 20, .inl (fun _ => 0))), ((u10 2), .inl (ct 0, 20, .inl (fun _ => 0))), ((u10 3), .inl (ct 0, 20, .inl (fun _ => 0))), ((u10 4), .inl (ct 0, 20, .inl (fun _ => 0))), ((u10 5), .inl (ct 0, 320, .inl (fun _ => 0))), ((u10 6), .inl (ct 0, 320, .inl (fun _ => 0))), ((u10 7), .inl (ct 0, 320, .inl (fun _ => 0))), ((u10 8), .inl (ct 0, 320, .inl (fun _ => 0))), ((u10 9), .inl (ct 0, 320, .inl (fun _ => 0))), (q11, .inr (8, [.ref (u12 0), .ref (u12 1), .ref (u12 2), .ref (u12 3), .ref (u12 4), .int 0, .int 0])), ((u12 0), .inl (ct 5, 200, .inr (.inr (.inr (.inr (fun _ => none)))))), ((u12 1), .inl (ct 0, 60, .inl (fun _ => -1))), ((u12 2), .inl (ct 0, 1024, .inl (fun _ => 0))), ((u12 3), .inl (ct 0, 1024, .inl (fun _ => 0))), ((u12 4), .inl (ct 0, 1024, .inl (fun _ => 0))), (q13, .inr (3, [.ref q9, .ref tN, .int 0, .int 0, .int 0, .int 0, .int 0])), (q15, .inr (6, [.ref q9, .ref q5, .ref q7, .int 0, .int 0, .int 0, .int 0, .int 0, .int 0, .int 0, .int 0, .ref tN, .int 0, .int 0])), (q17, .inr (1, [.ref q9, .ref q5, .ref q15, .ref q11, .ref (u18 0), .ref (u18 1), .ref (u18 2), .ref (u18 3), .ref (u18 4), .ref (u18 5), .int 0, .int 0, .int 0])), ((u18 0), .inl (ct 0, 5, .inl (fun _ => 0))), ((u18 1), .inl (ct 0, 320, .inl (fun _ => 0))), ((u18 2), .inl (ct 0, 420, .inl (fun _ => 0))), ((u18 3), .inl (ct 0, 420, .inl (fun _ => 0))), ((u18 4), .inl (ct 0, 420, .inl (fun _ => 0))), ((u18 5), .inl (ct 2, 300, .inr (.inl (fun _ => 0)))), (q19, .inr (0, [.ref q9, .ref q5, .ref q15, .ref q11, .ref (u20 0), .ref (u20 1), .ref (u20 2), .ref (u20 3), .ref (u20 4), .ref (u20 5), .ref (u20 6), .int 0, .int 0, .int 0])), ((u20 0), .inl (ct 0, 6, .inl (fun _ => 0))), ((u20 1), .inl (ct 0, 6, .inl (fun _ => 0))), ((u20 2), .inl (ct 0, 24, .inl (fun _ => 0))), ((u20 3), .inl (ct 2, 40, .inr (.inl (fun _ => 0)))), ((u20 4), .inl (ct 0, 24, .inl (fun _ => 0))), ((u20 5), .inl (ct 3, 24, .inl (fun _ => 0))), ((u20 6), .inl (ct 0, 6, .inl (fun _ => 0))), (q21, .inr (5, [.ref q5, .ref q7, .ref q11, .ref (u22 0), .ref (u22 1), .ref (u22 2), .ref (u22 3), .ref (u22 4), .int 0, .int 0])), ((u22 0), .inl (ct 0, 8, .inl (fun _ => 0))), ((u22 1), .inl (ct 0, 6, .inl (fun _ => 0))), ((u22 2), .inl (ct 0, 6, .inl (fun _ => 0))), ((u22 3), .inl (ct 0, 6, .inl (fun _ => 0))), ((u22 4), .inl (ct 0, 6, .inl (fun _ => 0)))] : va_W)) B rfl
  refine at_pc (n := 191) rfl ?_
  exact ret_V (u := (fun k => ([q1, q2, q3, (u4 0), (u4 1), q5, (u6 0), (u6 1), (u6 2), (u6 3), (u6 4), q7, (u8 0), (u8 1), (u8 2), q9, (u10 0), (u10 1), (u10 2), (u10 3), (u10 4), (u10 5), (u10 6), (u10 7), (u10 8), (u10 9), q11, (u12 0), (u12 1), (u12 2), (u12 3), (u12 4), q13, q15, q17, (u18 0), (u18 1), (u18 2), (u18 3), (u18 4), (u18 5), q19, (u20 0), (u20 1), (u20 2), (u20 3), (u20 4), (u20 5), (u20 6), q21, (u22 0), (u22 1), (u22 2), (u22 3), (u22 4)] : List Nat).getD k 0)) E hr hlk B trivial dX11_init_191
def WI12 (ct : Nat → ClassId) (tN : Nat) (ws : va_W) (h : Nat)  (u : Nat → Nat) : va_W := ws ++ ([(h, .inr (12, [.ref (u 0), .int 0, .int 0, .int 0, .int 0, .int 0, .int 0, .int 0, .int 0, .int 0, .ref (u 1), .ref (u 2), .ref (u 3), .ref (u 4), .ref (u 5), .ref (u 6), .ref (u 7), .ref (u 8), .ref (u 9), .ref (u 10), .ref (u 11), .ref (u 12), .ref (u 13), .ref (u 14), .ref (u 15), .ref (u 16), .ref (u 17), .ref (u 18), .ref (u 19), .ref (u 20), .ref (u 21), .ref (u 22), .ref (u 23), .ref (u 24), .ref (u 25), .int 0, .int 0, .int 0, .int 0, .int 0, .int 0, .int 0, .int 0, .int 0, .ref (u 26), .ref (u 27), .ref (u 28), .ref (u 29), .ref (u 30), .ref (u 31), .ref (u 32), .ref (u 33), .ref (u 34), .ref (u 35), .ref (u 36), .ref (u 37), .ref (u 38), .ref (u 39), .ref (u 40), .ref (u 41), .ref (u 42), .ref (u 43), .ref (u 44), .ref (u 45), .ref (u 46), .ref (u 47), .ref (u 48), .ref (u 49), .int 0, .ref (u 50), .ref (u 51), .ref (u 52), .int 0, .int 0, .int 0, .int 0, .int 0, .int 0, .int 0, .ref (u 53), .int 0, .ref (u 54), .ref (u 55), .ref (u 56), .ref (u 57), .ref (u 58), .ref (u 59), .ref (u 60), .ref (u 61), .int 0, .ref (u 62), .int 0, .int 0, .ref (u 63), .ref (u 64), .ref (u 65)])), ((u 0), .inl (ct 1, 200, .inl (fun _ => 0))), ((u 1), .inl (ct 0, 60, .inl (fun _ => 0))), ((u 2), .inl (ct 0, 60, .inl (fun _ => 0))), ((u 3), .inl (ct 0, 180, .inl (fun _ => 0))), ((u 4), .inl (ct 0, 1440, .inl (fun _ => 0))), ((u 5), .inl (ct 0, 320, .inl (fun _ => 0))), ((u 6), .inl (ct 1, 3840, .inl (fun _ => 0))), ((u 7), .inl (ct 0, 6, .inl (fun _ => 0))), ((u 8), .inl (ct 0, 6, .inl (fun _ => 0))), ((u 9), .inl (ct 0, 24, .inl (fun _ => 0))), ((u 10), .inl (ct 3, 24, .inl (fun _ => 0))), ((u 11), .inl (ct 3, 24, .inl (fun _ => 0))), ((u 12), .inl (ct 1, 960, .inl (fun _ => 0))), ((u 13), .inl (ct 0, 80, .inl (fun _ => 0))), ((u 14), .inl (ct 0, 20, .inl (fun _ => 0))), ((u 15), .inl (ct 0, 20, .inl (fun _ => 0))), ((u 16), .inl (ct 0, 20, .inl (fun _ => 0))), ((u 17), .inl (ct 0, 20, .inl (fun _ => 0))), ((u 18), .inl (ct 0, 320, .inl (fun _ => 0))), ((u 19), .inl (ct 0, 320, .inl (fun _ => 0))), ((u 20), .inl (ct 0, 320, .inl (fun _ => 0))), ((u 21), .inl (ct 0, 320, .inl (fun _ => 0))), ((u 22), .inl (ct 0, 320, .inl (fun _ => 0))), ((u 23), .inl (ct 0, 320, .inl (fun _ => 0))), ((u 24), .inl (ct 0, 3200, .inl (fun _ => 0))), ((u 25), .inl (ct 0, 3200, .inl (fun _ => 0))), ((u 26), .inl (ct 0, 200, .inl (fun _ => 0))), ((u 27), .inl (ct 0, 200, .inl (fun _ => 0))), ((u 28), .inl (ct 3, 200, .inl (fun _ => 0))), ((u 29), .inl (ct 0, 16, .inl (fun _ => 0))), ((u 30), .inl (ct 0, 16, .inl (fun _ => 0))), ((u 31), .inl (ct 0, 400, .inl (fun _ => 0))), ((u 32), .inl (ct 0, 200, .inl (fun _ => 0))), ((u 33), .inl (ct 0, 200, .inl (fun _ => 0))), ((u 34), .inl (ct 0, 200, .inl (fun _ => 0))), ((u 35), .inl (ct 0, 200, .inl (fun _ => 0))), ((u 36), .inl (ct 0, 200, .inl (fun _ => 0))), ((u 37), .inl (ct 0, 200, .inl (fun _ => 0))), ((u 38), .inl (ct 0, 1600, .inl (fun _ => 0))), ((u 39), .inl (ct 0, 200, .inl (fun _ => 0))), ((u 40), .inl (ct 0, 2400, .inl (fun _ => 0))), ((u 41), .inl (ct 0, 2400, .inl (fun _ => 0))), ((u 42), .inl (ct 0, 200, .inl (fun _ => 0))), ((u 43), .inl (ct 0, 400, .inl (fun _ => 0))), ((u 44), .inl (ct 0, 400, .inl (fun _ => 0))), ((u 45), .inl (ct 0, 400, .inl (fun _ => 0))), ((u 46), .inl (ct 0, 400, .inl (fun _ => 0))), ((u 47), .inl (ct 0, 400, .inl (fun _ => 0))), ((u 48), .inl (ct 0, 400, .inl (fun _ => 0))), ((u 49), .inl (ct 0, 400, .inl (fun _ => 0))), ((u 50), .inl (ct 0, 4000, .inl (fun _ => 0))), ((u 51), .inl (ct 0, 4000, .inl (fun _ => 0))), ((u 52), .inl (ct 0, 4000, .inl (fun _ => 0))), ((u 53), .inl (ct 0, 60, .inl (fun _ => 0))), ((u 54), .inl (ct 0, 6, .inl (fun _ => 0))), ((u 55), .inl (ct 0, 6, .inl (fun _ => 0))), ((u 56), .inl (ct 0, 24, .inl (fun _ => 0))), ((u 57), .inl (ct 3, 1600, .inl (fun _ => 0))), ((u 58), .inl (ct 0, 24, .inl (fun _ => 0))), ((u 59), .inl (ct 3, 24, .inl (fun _ => 0))), ((u 60), .inl (ct 0, 480, .inl (fun _ => 0))), ((u 61), .inl (ct 0, 480, .inl (fun _ => 0))), ((u 62), .inl (ct 1, 200, .inl (fun _ => 0))), ((u 63), .inl (ct 0, 6, .inl (fun _ => 0))), ((u 64), .inl (ct 0, 6, .inl (fun _ => 0))), ((u 65), .inl (ct 0, 6, .inl (fun _ => 0)))] : va_W)
set_option maxHeartbeats 8000000 in
set_option maxRecDepth 100000 in
theorem init_X12 (l : Launch) (D : va_G) (ct : Nat → ClassId) (tN : Nat) (ws : va_W) (h : Nat)  : MV l D (TY ct) tN yX12_init cX12_init 1 ({ frames := 1, cells := 66, slots := 42378, locals := 40 } : Room) [.ref h] (ws ++ ([(h, .inr (12, [.null, .int 0, .int 0, .int 0, .int 0, .int 0, .int 0, .int 0, .int 0, .int 0, .null, .null, .null, .null, .null, .null, .null, .null, .null, .null, .null, .null, .null, .null, .null, .null, .null, .null, .null, .null, .null, .null, .null, .null, .null, .int 0, .int 0, .int 0, .int 0, .int 0, .int 0, .int 0, .int 0, .int 0, .null, .null, .null, .null, .null, .null, .null, .null, .null, .null, .null, .null, .null, .null, .null, .null, .null, .null, .null, .null, .null, .null, .null, .null, .int 0, .null, .null, .null, .int 0, .int 0, .int 0, .int 0, .int 0, .int 0, .int 0, .null, .int 0, .null, .null, .null, .null, .null, .null, .null, .null, .int 0, .null, .int 0, .int 0, .null, .null, .null]))] : va_W)) (fun (u : Nat → Nat) => True) (WI12 ct tN ws h ) 66 42378 := by
  intro sz
  refine Met.ofE (Qc := fun A => va_Qv (fun (u : Nat → Nat) => True) (BW D A (WI12 ct tN ws h )) A) (by decide) (Nat.le_of_ble_eq_true rfl) ?_
  intro p e s m args below meth c A ls hsz E hr hlk hnm B hl
  have hnm : "<init>" = meth.name := hnm
  replace hl : lv_has ls 1 [(0, .ref h)] := hl
  refine lv_aload_n E.1.1 E.1.2.1 dX12_init_0 rfl (lv_at hl 0 rfl) ?_
  refine row_obj E w_7386363c w_08b13607 w_47dee913 hl dX12_init_1 (Nat.le_of_ble_eq_true rfl) (Nat.le_of_ble_eq_true rfl) ?_
  refine lv_aload_n E.1.1 E.1.2.1 dX12_init_4 rfl (lv_at hl 0 rfl) ?_
  refine lv_sipush (v := 200) E.1.1 E.1.2.1 dX12_init_5 (by decide) ?_
  refine row_newa (atype := .byte) (a0 := (200, .inl (fun _ => 0))) E B w_db47154c rfl 1 rfl (fun _ => rfl) (by decide) (by decide) (Nat.le_of_ble_eq_true rfl) (Nat.le_of_ble_eq_true rfl) (Nat.le_of_ble_eq_true rfl) dX12_init_8 ?_
  clear B
  intro q1 H B
  refine at_n (n := 10) (k1 := 1) (k2 := 200) rfl rfl rfl ?_
  refine row_putF E B iX12 rfl tyX12 tyX12_ok nmX12 0 (by decide) w_49c95b56 rfl hnm rfl (ws.length + 0) ((at_pp _ _ _ _).trans rfl) rfl rfl (Nat.le_of_ble_eq_true rfl) dX12_init_10 ?_
  clear B
  intro H locs B
  replace B := Hp.to B (set_pp ..)
  replace B := Hp.to (ws' := ws ++ ([(h, .inr (12, [.ref q1, .int 0, .int 0, .int 0, .int 0, .int 0, .int 0, .int 0, .int 0, .int 0, .null, .null, .null, .null, .null, .null, .null, .null, .null, .null, .null, .null, .null, .null, .null, .null, .null, .null, .null, .null, .null, .null, .null, .null, .null, .int 0, .int 0, .int 0, .int 0, .int 0, .int 0, .int 0, .int 0, .int 0, .null, .null, .null, .null, .null, .null, .null, .null, .null, .null, .null, .null, .null, .null, .null, .null, .null, .null, .null, .null, .null, .null, .null, .null, .int 0, .null, .null, .null, .int 0, .int 0, .int 0, .int 0, .int 0, .int 0, .int 0, .null, .int 0, .null, .null, .null, .null, .null, .null, .null, .null, .int 0, .null, .int 0, .int 0, .null, .null, .null])), (q1, .inl (ct 1, 200, .inl (fun _ => 0)))] : va_W)) B rfl
  refine at_pc (n := 13) rfl ?_
  refine lv_aload_n E.1.1 E.1.2.1 dX12_init_13 rfl (lv_at hl 0 rfl) ?_
  refine lv_bipush (v := 60) E.1.1 E.1.2.1 dX12_init_14 (by decide) ?_
  refine row_newa (atype := .int) (a0 := (60, .inl (fun _ => 0))) E B w_e8e14353 rfl 0 rfl (fun _ => rfl) (by decide) (by decide) (Nat.le_of_ble_eq_true rfl) (Nat.le_of_ble_eq_true rfl) (Nat.le_of_ble_eq_true rfl) dX12_init_16 ?_
  clear B
  intro q2 H B
  refine at_n (n := 18) (k1 := 2) (k2 := 260) rfl rfl rfl ?_
  refine row_putF E B iX12 rfl tyX12 tyX12_ok nmX12 10 (by decide) w_f063964a rfl hnm rfl (ws.length + 0) ((at_pp _ _ _ _).trans rfl) rfl rfl (Nat.le_of_ble_eq_true rfl) dX12_init_18 ?_
  clear B
  intro H locs B
  replace B := Hp.to B (set_pp ..)
  replace B := Hp.to (ws' := ws ++ ([(h, .inr (12, [.ref q1, .int 0, .int 0, .int 0, .int 0, .int 0, .int 0, .int 0, .int 0, .int 0, .ref q2, .null, .null, .null, .null, .null, .null, .null, .null, .null, .null, .null, .null, .null, .null, .null, .null, .null, .null, .null, .null, .null, .null, .null, .null, .int 0, .int 0, .int 0, .int 0, .int 0, .int 0, .int 0, .int 0, .int 0, .null, .null, .null, .null, .null, .null, .null, .null, .null, .null, .null, .null, .null, .null, .null, .null, .null, .null, .null, .null, .null, .null, .null, .null, .int 0, .null, .null, .null, .int 0, .int 0, .int 0, .int 0, .int 0, .int 0, .int 0, .null, .int 0, .null, .null, .null, .null, .null, .null, .null, .null, .int 0, .null, .int 0, .int 0, .null, .null, .null])), (q1, .inl (ct 1, 200, .inl (fun _ => 0))), (q2, .inl (ct 0, 60, .inl (fun _ => 0)))] : va_W)) B rfl
  refine at_pc (n := 21) rfl ?_
  refine lv_aload_n E.1.1 E.1.2.1 dX12_init_21 rfl (lv_at hl 0 rfl) ?_
  refine lv_bipush (v := 60) E.1.1 E.1.2.1 dX12_init_22 (by decide) ?_
  refine row_newa (atype := .int) (a0 := (60, .inl (fun _ => 0))) E B w_e8e14353 rfl 0 rfl (fun _ => rfl) (by decide) (by decide) (Nat.le_of_ble_eq_true rfl) (Nat.le_of_ble_eq_true rfl) (Nat.le_of_ble_eq_true rfl) dX12_init_24 ?_
  clear B
  intro q3 H B
  refine at_n (n := 26) (k1 := 3) (k2 := 320) rfl rfl rfl ?_
  refine row_putF E B iX12 rfl tyX12 tyX12_ok nmX12 11 (by decide) w_5fedb2a3 rfl hnm rfl (ws.length + 0) ((at_pp _ _ _ _).trans rfl) rfl rfl (Nat.le_of_ble_eq_true rfl) dX12_init_26 ?_
  clear B
  intro H locs B
  replace B := Hp.to B (set_pp ..)
  replace B := Hp.to (ws' := ws ++ ([(h, .inr (12, [.ref q1, .int 0, .int 0, .int 0, .int 0, .int 0, .int 0, .int 0, .int 0, .int 0, .ref q2, .ref q3, .null, .null, .null, .null, .null, .null, .null, .null, .null, .null, .null, .null, .null, .null, .null, .null, .null, .null, .null, .null, .null, .null, .null, .int 0, .int 0, .int 0, .int 0, .int 0, .int 0, .int 0, .int 0, .int 0, .null, .null, .null, .null, .null, .null, .null, .null, .null, .null, .null, .null, .null, .null, .null, .null, .null, .null, .null, .null, .null, .null, .null, .null, .int 0, .null, .null, .null, .int 0, .int 0, .int 0, .int 0, .int 0, .int 0, .int 0, .null, .int 0, .null, .null, .null, .null, .null, .null, .null, .null, .int 0, .null, .int 0, .int 0, .null, .null, .null])), (q1, .inl (ct 1, 200, .inl (fun _ => 0))), (q2, .inl (ct 0, 60, .inl (fun _ => 0))), (q3, .inl (ct 0, 60, .inl (fun _ => 0)))] : va_W)) B rfl
  refine at_pc (n := 29) rfl ?_
  refine lv_aload_n E.1.1 E.1.2.1 dX12_init_29 rfl (lv_at hl 0 rfl) ?_
  refine lv_sipush (v := 180) E.1.1 E.1.2.1 dX12_init_30 (by decide) ?_
  refine row_newa (atype := .int) (a0 := (180, .inl (fun _ => 0))) E B w_e8e14353 rfl 0 rfl (fun _ => rfl) (by decide) (by decide) (Nat.le_of_ble_eq_true rfl) (Nat.le_of_ble_eq_true rfl) (Nat.le_of_ble_eq_true rfl) dX12_init_33 ?_
  clear B
  intro q4 H B
  refine at_n (n := 35) (k1 := 4) (k2 := 500) rfl rfl rfl ?_
  refine row_putF E B iX12 rfl tyX12 tyX12_ok nmX12 12 (by decide) w_5372e528 rfl hnm rfl (ws.length + 0) ((at_pp _ _ _ _).trans rfl) rfl rfl (Nat.le_of_ble_eq_true rfl) dX12_init_35 ?_
  clear B
  intro H locs B
  replace B := Hp.to B (set_pp ..)
  replace B := Hp.to (ws' := ws ++ ([(h, .inr (12, [.ref q1, .int 0, .int 0, .int 0, .int 0, .int 0, .int 0, .int 0, .int 0, .int 0, .ref q2, .ref q3, .ref q4, .null, .null, .null, .null, .null, .null, .null, .null, .null, .null, .null, .null, .null, .null, .null, .null, .null, .null, .null, .null, .null, .null, .int 0, .int 0, .int 0, .int 0, .int 0, .int 0, .int 0, .int 0, .int 0, .null, .null, .null, .null, .null, .null, .null, .null, .null, .null, .null, .null, .null, .null, .null, .null, .null, .null, .null, .null, .null, .null, .null, .null, .int 0, .null, .null, .null, .int 0, .int 0, .int 0, .int 0, .int 0, .int 0, .int 0, .null, .int 0, .null, .null, .null, .null, .null, .null, .null, .null, .int 0, .null, .int 0, .int 0, .null, .null, .null])), (q1, .inl (ct 1, 200, .inl (fun _ => 0))), (q2, .inl (ct 0, 60, .inl (fun _ => 0))), (q3, .inl (ct 0, 60, .inl (fun _ => 0))), (q4, .inl (ct 0, 180, .inl (fun _ => 0)))] : va_W)) B rfl
  refine at_pc (n := 38) rfl ?_
  refine lv_aload_n E.1.1 E.1.2.1 dX12_init_38 rfl (lv_at hl 0 rfl) ?_
  refine lv_sipush (v := 1440) E.1.1 E.1.2.1 dX12_init_39 (by decide) ?_
  refine row_newa (atype := .int) (a0 := (1440, .inl (fun _ => 0))) E B w_e8e14353 rfl 0 rfl (fun _ => rfl) (by decide) (by decide) (Nat.le_of_ble_eq_true rfl) (Nat.le_of_ble_eq_true rfl) (Nat.le_of_ble_eq_true rfl) dX12_init_42 ?_
  clear B
  intro q5 H B
  refine at_n (n := 44) (k1 := 5) (k2 := 1940) rfl rfl rfl ?_
  refine row_putF E B iX12 rfl tyX12 tyX12_ok nmX12 13 (by decide) w_29fe991c rfl hnm rfl (ws.length + 0) ((at_pp _ _ _ _).trans rfl) rfl rfl (Nat.le_of_ble_eq_true rfl) dX12_init_44 ?_
  clear B
  intro H locs B
  replace B := Hp.to B (set_pp ..)
  replace B := Hp.to (ws' := ws ++ ([(h, .inr (12, [.ref q1, .int 0, .int 0, .int 0, .int 0, .int 0, .int 0, .int 0, .int 0, .int 0, .ref q2, .ref q3, .ref q4, .ref q5, .null, .null, .null, .null, .null, .null, .null, .null, .null, .null, .null, .null, .null, .null, .null, .null, .null, .null, .null, .null, .null, .int 0, .int 0, .int 0, .int 0, .int 0, .int 0, .int 0, .int 0, .int 0, .null, .null, .null, .null, .null, .null, .null, .null, .null, .null, .null, .null, .null, .null, .null, .null, .null, .null, .null, .null, .null, .null, .null, .null, .int 0, .null, .null, .null, .int 0, .int 0, .int 0, .int 0, .int 0, .int 0, .int 0, .null, .int 0, .null, .null, .null, .null, .null, .null, .null, .null, .int 0, .null, .int 0, .int 0, .null, .null, .null])), (q1, .inl (ct 1, 200, .inl (fun _ => 0))), (q2, .inl (ct 0, 60, .inl (fun _ => 0))), (q3, .inl (ct 0, 60, .inl (fun _ => 0))), (q4, .inl (ct 0, 180, .inl (fun _ => 0))), (q5, .inl (ct 0, 1440, .inl (fun _ => 0)))] : va_W)) B rfl
  refine at_pc (n := 47) rfl ?_
  refine lv_aload_n E.1.1 E.1.2.1 dX12_init_47 rfl (lv_at hl 0 rfl) ?_
  refine lv_sipush (v := 320) E.1.1 E.1.2.1 dX12_init_48 (by decide) ?_
  refine row_newa (atype := .int) (a0 := (320, .inl (fun _ => 0))) E B w_e8e14353 rfl 0 rfl (fun _ => rfl) (by decide) (by decide) (Nat.le_of_ble_eq_true rfl) (Nat.le_of_ble_eq_true rfl) (Nat.le_of_ble_eq_true rfl) dX12_init_51 ?_
  clear B
  intro q6 H B
  refine at_n (n := 53) (k1 := 6) (k2 := 2260) rfl rfl rfl ?_
  refine row_putF E B iX12 rfl tyX12 tyX12_ok nmX12 14 (by decide) w_fa7b8961 rfl hnm rfl (ws.length + 0) ((at_pp _ _ _ _).trans rfl) rfl rfl (Nat.le_of_ble_eq_true rfl) dX12_init_53 ?_
  clear B
  intro H locs B
  replace B := Hp.to B (set_pp ..)
  replace B := Hp.to (ws' := ws ++ ([(h, .inr (12, [.ref q1, .int 0, .int 0, .int 0, .int 0, .int 0, .int 0, .int 0, .int 0, .int 0, .ref q2, .ref q3, .ref q4, .ref q5, .ref q6, .null, .null, .null, .null, .null, .null, .null, .null, .null, .null, .null, .null, .null, .null, .null, .null, .null, .null, .null, .null, .int 0, .int 0, .int 0, .int 0, .int 0, .int 0, .int 0, .int 0, .int 0, .null, .null, .null, .null, .null, .null, .null, .null, .null, .null, .null, .null, .null, .null, .null, .null, .null, .null, .null, .null, .null, .null, .null, .null, .int 0, .null, .null, .null, .int 0, .int 0, .int 0, .int 0, .int 0, .int 0, .int 0, .null, .int 0, .null, .null, .null, .null, .null, .null, .null, .null, .int 0, .null, .int 0, .int 0, .null, .null, .null])), (q1, .inl (ct 1, 200, .inl (fun _ => 0))), (q2, .inl (ct 0, 60, .inl (fun _ => 0))), (q3, .inl (ct 0, 60, .inl (fun _ => 0))), (q4, .inl (ct 0, 180, .inl (fun _ => 0))), (q5, .inl (ct 0, 1440, .inl (fun _ => 0))), (q6, .inl (ct 0, 320, .inl (fun _ => 0)))] : va_W)) B rfl
  refine at_pc (n := 56) rfl ?_
  refine lv_aload_n E.1.1 E.1.2.1 dX12_init_56 rfl (lv_at hl 0 rfl) ?_
  refine lv_sipush (v := 3840) E.1.1 E.1.2.1 dX12_init_57 (by decide) ?_
  refine row_newa (atype := .byte) (a0 := (3840, .inl (fun _ => 0))) E B w_db47154c rfl 1 rfl (fun _ => rfl) (by decide) (by decide) (Nat.le_of_ble_eq_true rfl) (Nat.le_of_ble_eq_true rfl) (Nat.le_of_ble_eq_true rfl) dX12_init_60 ?_
  clear B
  intro q7 H B
  refine at_n (n := 62) (k1 := 7) (k2 := 6100) rfl rfl rfl ?_
  refine row_putF E B iX12 rfl tyX12 tyX12_ok nmX12 15 (by decide) w_36f70e6c rfl hnm rfl (ws.length + 0) ((at_pp _ _ _ _).trans rfl) rfl rfl (Nat.le_of_ble_eq_true rfl) dX12_init_62 ?_
  clear B
  intro H locs B
  replace B := Hp.to B (set_pp ..)
  replace B := Hp.to (ws' := ws ++ ([(h, .inr (12, [.ref q1, .int 0, .int 0, .int 0, .int 0, .int 0, .int 0, .int 0, .int 0, .int 0, .ref q2, .ref q3, .ref q4, .ref q5, .ref q6, .ref q7, .null, .null, .null, .null, .null, .null, .null, .null, .null, .null, .null, .null, .null, .null, .null, .null, .null, .null, .null, .int 0, .int 0, .int 0, .int 0, .int 0, .int 0, .int 0, .int 0, .int 0, .null, .null, .null, .null, .null, .null, .null, .null, .null, .null, .null, .null, .null, .null, .null, .null, .null, .null, .null, .null, .null, .null, .null, .null, .int 0, .null, .null, .null, .int 0, .int 0, .int 0, .int 0, .int 0, .int 0, .int 0, .null, .int 0, .null, .null, .null, .null, .null, .null, .null, .null, .int 0, .null, .int 0, .int 0, .null, .null, .null])), (q1, .inl (ct 1, 200, .inl (fun _ => 0))), (q2, .inl (ct 0, 60, .inl (fun _ => 0))), (q3, .inl (ct 0, 60, .inl (fun _ => 0))), (q4, .inl (ct 0, 180, .inl (fun _ => 0))), (q5, .inl (ct 0, 1440, .inl (fun _ => 0))), (q6, .inl (ct 0, 320, .inl (fun _ => 0))), (q7, .inl (ct 1, 3840, .inl (fun _ => 0)))] : va_W)) B rfl
  refine at_pc (n := 65) rfl ?_
  refine lv_aload_n E.1.1 E.1.2.1 dX12_init_65 rfl (lv_at hl 0 rfl) ?_
  refine lv_bipush (v := 6) E.1.1 E.1.2.1 dX12_init_66 (by decide) ?_
  refine row_newa (atype := .int) (a0 := (6, .inl (fun _ => 0))) E B w_e8e14353 rfl 0 rfl (fun _ => rfl) (by decide) (by decide) (Nat.le_of_ble_eq_true rfl) (Nat.le_of_ble_eq_true rfl) (Nat.le_of_ble_eq_true rfl) dX12_init_68 ?_
  clear B
  intro q8 H B
  refine at_n (n := 70) (k1 := 8) (k2 := 6106) rfl rfl rfl ?_
  refine row_putF E B iX12 rfl tyX12 tyX12_ok nmX12 16 (by decide) w_b1155243 rfl hnm rfl (ws.length + 0) ((at_pp _ _ _ _).trans rfl) rfl rfl (Nat.le_of_ble_eq_true rfl) dX12_init_70 ?_
  clear B
  intro H locs B
  replace B := Hp.to B (set_pp ..)
  replace B := Hp.to (ws' := ws ++ ([(h, .inr (12, [.ref q1, .int 0, .int 0, .int 0, .int 0, .int 0, .int 0, .int 0, .int 0, .int 0, .ref q2, .ref q3, .ref q4, .ref q5, .ref q6, .ref q7, .ref q8, .null, .null, .null, .null, .null, .null, .null, .null, .null, .null, .null, .null, .null, .null, .null, .null, .null, .null, .int 0, .int 0, .int 0, .int 0, .int 0, .int 0, .int 0, .int 0, .int 0, .null, .null, .null, .null, .null, .null, .null, .null, .null, .null, .null, .null, .null, .null, .null, .null, .null, .null, .null, .null, .null, .null, .null, .null, .int 0, .null, .null, .null, .int 0, .int 0, .int 0, .int 0, .int 0, .int 0, .int 0, .null, .int 0, .null, .null, .null, .null, .null, .null, .null, .null, .int 0, .null, .int 0, .int 0, .null, .null, .null])), (q1, .inl (ct 1, 200, .inl (fun _ => 0))), (q2, .inl (ct 0, 60, .inl (fun _ => 0))), (q3, .inl (ct 0, 60, .inl (fun _ => 0))), (q4, .inl (ct 0, 180, .inl (fun _ => 0))), (q5, .inl (ct 0, 1440, .inl (fun _ => 0))), (q6, .inl (ct 0, 320, .inl (fun _ => 0))), (q7, .inl (ct 1, 3840, .inl (fun _ => 0))), (q8, .inl (ct 0, 6, .inl (fun _ => 0)))] : va_W)) B rfl
  refine at_pc (n := 73) rfl ?_
  refine lv_aload_n E.1.1 E.1.2.1 dX12_init_73 rfl (lv_at hl 0 rfl) ?_
  refine lv_bipush (v := 6) E.1.1 E.1.2.1 dX12_init_74 (by decide) ?_
  refine row_newa (atype := .int) (a0 := (6, .inl (fun _ => 0))) E B w_e8e14353 rfl 0 rfl (fun _ => rfl) (by decide) (by decide) (Nat.le_of_ble_eq_true rfl) (Nat.le_of_ble_eq_true rfl) (Nat.le_of_ble_eq_true rfl) dX12_init_76 ?_
  clear B
  intro q9 H B
  refine at_n (n := 78) (k1 := 9) (k2 := 6112) rfl rfl rfl ?_
  refine row_putF E B iX12 rfl tyX12 tyX12_ok nmX12 17 (by decide) w_115ab7a6 rfl hnm rfl (ws.length + 0) ((at_pp _ _ _ _).trans rfl) rfl rfl (Nat.le_of_ble_eq_true rfl) dX12_init_78 ?_
  clear B
  intro H locs B
  replace B := Hp.to B (set_pp ..)
  replace B := Hp.to (ws' := ws ++ ([(h, .inr (12, [.ref q1, .int 0, .int 0, .int 0, .int 0, .int 0, .int 0, .int 0, .int 0, .int 0, .ref q2, .ref q3, .ref q4, .ref q5, .ref q6, .ref q7, .ref q8, .ref q9, .null, .null, .null, .null, .null, .null, .null, .null, .null, .null, .null, .null, .null, .null, .null, .null, .null, .int 0, .int 0, .int 0, .int 0, .int 0, .int 0, .int 0, .int 0, .int 0, .null, .null, .null, .null, .null, .null, .null, .null, .null, .null, .null, .null, .null, .null, .null, .null, .null, .null, .null, .null, .null, .null, .null, .null, .int 0, .null, .null, .null, .int 0, .int 0, .int 0, .int 0, .int 0, .int 0, .int 0, .null, .int 0, .null, .null, .null, .null, .null, .null, .null, .null, .int 0, .null, .int 0, .int 0, .null, .null, .null])), (q1, .inl (ct 1, 200, .inl (fun _ => 0))), (q2, .inl (ct 0, 60, .inl (fun _ => 0))), (q3, .inl (ct 0, 60, .inl (fun _ => 0))), (q4, .inl (ct 0, 180, .inl (fun _ => 0))), (q5, .inl (ct 0, 1440, .inl (fun _ => 0))), (q6, .inl (ct 0, 320, .inl (fun _ => 0))), (q7, .inl (ct 1, 3840, .inl (fun _ => 0))), (q8, .inl (ct 0, 6, .inl (fun _ => 0))), (q9, .inl (ct 0, 6, .inl (fun _ => 0)))] : va_W)) B rfl
  refine at_pc (n := 81) rfl ?_
  refine lv_aload_n E.1.1 E.1.2.1 dX12_init_81 rfl (lv_at hl 0 rfl) ?_
  refine lv_bipush (v := 24) E.1.1 E.1.2.1 dX12_init_82 (by decide) ?_
  refine row_newa (atype := .int) (a0 := (24, .inl (fun _ => 0))) E B w_e8e14353 rfl 0 rfl (fun _ => rfl) (by decide) (by decide) (Nat.le_of_ble_eq_true rfl) (Nat.le_of_ble_eq_true rfl) (Nat.le_of_ble_eq_true rfl) dX12_init_84 ?_
  clear B
  intro q10 H B
  refine at_n (n := 86) (k1 := 10) (k2 := 6136) rfl rfl rfl ?_
  refine row_putF E B iX12 rfl tyX12 tyX12_ok nmX12 18 (by decide) w_037b5fcc rfl hnm rfl (ws.length + 0) ((at_pp _ _ _ _).trans rfl) rfl rfl (Nat.le_of_ble_eq_true rfl) dX12_init_86 ?_
  clear B
  intro H locs B
  replace B := Hp.to B (set_pp ..)
  replace B := Hp.to (ws' := ws ++ ([(h, .inr (12, [.ref q1, .int 0, .int 0, .int 0, .int 0, .int 0, .int 0, .int 0, .int 0, .int 0, .ref q2, .ref q3, .ref q4, .ref q5, .ref q6, .ref q7, .ref q8, .ref q9, .ref q10, .null, .null, .null, .null, .null, .null, .null, .null, .null, .null, .null, .null, .null, .null, .null, .null, .int 0, .int 0, .int 0, .int 0, .int 0, .int 0, .int 0, .int 0, .int 0, .null, .null, .null, .null, .null, .null, .null, .null, .null, .null, .null, .null, .null, .null, .null, .null, .null, .null, .null, .null, .null, .null, .null, .null, .int 0, .null, .null, .null, .int 0, .int 0, .int 0, .int 0, .int 0, .int 0, .int 0, .null, .int 0, .null, .null, .null, .null, .null, .null, .null, .null, .int 0, .null, .int 0, .int 0, .null, .null, .null])), (q1, .inl (ct 1, 200, .inl (fun _ => 0))), (q2, .inl (ct 0, 60, .inl (fun _ => 0))), (q3, .inl (ct 0, 60, .inl (fun _ => 0))), (q4, .inl (ct 0, 180, .inl (fun _ => 0))), (q5, .inl (ct 0, 1440, .inl (fun _ => 0))), (q6, .inl (ct 0, 320, .inl (fun _ => 0))), (q7, .inl (ct 1, 3840, .inl (fun _ => 0))), (q8, .inl (ct 0, 6, .inl (fun _ => 0))), (q9, .inl (ct 0, 6, .inl (fun _ => 0))), (q10, .inl (ct 0, 24, .inl (fun _ => 0)))] : va_W)) B rfl
  refine at_pc (n := 89) rfl ?_
  refine lv_aload_n E.1.1 E.1.2.1 dX12_init_89 rfl (lv_at hl 0 rfl) ?_
  refine lv_bipush (v := 24) E.1.1 E.1.2.1 dX12_init_90 (by decide) ?_
  refine row_newa (atype := .boolean) (a0 := (24, .inl (fun _ => 0))) E B w_7d01f517 rfl 3 rfl (fun _ => rfl) (by decide) (by decide) (Nat.le_of_ble_eq_true rfl) (Nat.le_of_ble_eq_true rfl) (Nat.le_of_ble_eq_true rfl) dX12_init_92 ?_
  clear B
  intro q11 H B
  refine at_n (n := 94) (k1 := 11) (k2 := 6160) rfl rfl rfl ?_
  refine row_putF E B iX12 rfl tyX12 tyX12_ok nmX12 19 (by decide) w_e2c82566 rfl hnm rfl (ws.length + 0) ((at_pp _ _ _ _).trans rfl) rfl rfl (Nat.le_of_ble_eq_true rfl) dX12_init_94 ?_
  clear B
  intro H locs B
  replace B := Hp.to B (set_pp ..)
  replace B := Hp.to (ws' := ws ++ ([(h, .inr (12, [.ref q1, .int 0, .int 0, .int 0, .int 0, .int 0, .int 0, .int 0, .int 0, .int 0, .ref q2, .ref q3, .ref q4, .ref q5, .ref q6, .ref q7, .ref q8, .ref q9, .ref q10, .ref q11, .null, .null, .null, .null, .null, .null, .null, .null, .null, .null, .null, .null, .null, .null, .null, .int 0, .int 0, .int 0, .int 0, .int 0, .int 0, .int 0, .int 0, .int 0, .null, .null, .null, .null, .null, .null, .null, .null, .null, .null, .null, .null, .null, .null, .null, .null, .null, .null, .null, .null, .null, .null, .null, .null, .int 0, .null, .null, .null, .int 0, .int 0, .int 0, .int 0, .int 0, .int 0, .int 0, .null, .int 0, .null, .null, .null, .null, .null, .null, .null, .null, .int 0, .null, .int 0, .int 0, .null, .null, .null])), (q1, .inl (ct 1, 200, .inl (fun _ => 0))), (q2, .inl (ct 0, 60, .inl (fun _ => 0))), (q3, .inl (ct 0, 60, .inl (fun _ => 0))), (q4, .inl (ct 0, 180, .inl (fun _ => 0))), (q5, .inl (ct 0, 1440, .inl (fun _ => 0))), (q6, .inl (ct 0, 320, .inl (fun _ => 0))), (q7, .inl (ct 1, 3840, .inl (fun _ => 0))), (q8, .inl (ct 0, 6, .inl (fun _ => 0))), (q9, .inl (ct 0, 6, .inl (fun _ => 0))), (q10, .inl (ct 0, 24, .inl (fun _ => 0))), (q11, .inl (ct 3, 24, .inl (fun _ => 0)))] : va_W)) B rfl
  refine at_pc (n := 97) rfl ?_
  refine lv_aload_n E.1.1 E.1.2.1 dX12_init_97 rfl (lv_at hl 0 rfl) ?_
  refine lv_bipush (v := 24) E.1.1 E.1.2.1 dX12_init_98 (by decide) ?_
  refine row_newa (atype := .boolean) (a0 := (24, .inl (fun _ => 0))) E B w_7d01f517 rfl 3 rfl (fun _ => rfl) (by decide) (by decide) (Nat.le_of_ble_eq_true rfl) (Nat.le_of_ble_eq_true rfl) (Nat.le_of_ble_eq_true rfl) dX12_init_100 ?_
  clear B
  intro q12 H B
  refine at_n (n := 102) (k1 := 12) (k2 := 6184) rfl rfl rfl ?_
  refine row_putF E B iX12 rfl tyX12 tyX12_ok nmX12 20 (by decide) w_ce72b4b3 rfl hnm rfl (ws.length + 0) ((at_pp _ _ _ _).trans rfl) rfl rfl (Nat.le_of_ble_eq_true rfl) dX12_init_102 ?_
  clear B
  intro H locs B
  replace B := Hp.to B (set_pp ..)
  replace B := Hp.to (ws' := ws ++ ([(h, .inr (12, [.ref q1, .int 0, .int 0, .int 0, .int 0, .int 0, .int 0, .int 0, .int 0, .int 0, .ref q2, .ref q3, .ref q4, .ref q5, .ref q6, .ref q7, .ref q8, .ref q9, .ref q10, .ref q11, .ref q12, .null, .null, .null, .null, .null, .null, .null, .null, .null, .null, .null, .null, .null, .null, .int 0, .int 0, .int 0, .int 0, .int 0, .int 0, .int 0, .int 0, .int 0, .null, .null, .null, .null, .null, .null, .null, .null, .null, .null, .null, .null, .null, .null, .null, .null, .null, .null, .null, .null, .null, .null, .null, .null, .int 0, .null, .null, .null, .int 0, .int 0, .int 0, .int 0, .int 0, .int 0, .int 0, .null, .int 0, .null, .null, .null, .null, .null, .null, .null, .null, .int 0, .null, .int 0, .int 0, .null, .null, .null])), (q1, .inl (ct 1, 200, .inl (fun _ => 0))), (q2, .inl (ct 0, 60, .inl (fun _ => 0))), (q3, .inl (ct 0, 60, .inl (fun _ => 0))), (q4, .inl (ct 0, 180, .inl (fun _ => 0))), (q5, .inl (ct 0, 1440, .inl (fun _ => 0))), (q6, .inl (ct 0, 320, .inl (fun _ => 0))), (q7, .inl (ct 1, 3840, .inl (fun _ => 0))), (q8, .inl (ct 0, 6, .inl (fun _ => 0))), (q9, .inl (ct 0, 6, .inl (fun _ => 0))), (q10, .inl (ct 0, 24, .inl (fun _ => 0))), (q11, .inl (ct 3, 24, .inl (fun _ => 0))), (q12, .inl (ct 3, 24, .inl (fun _ => 0)))] : va_W)) B rfl
  refine at_pc (n := 105) rfl ?_
  refine lv_aload_n E.1.1 E.1.2.1 dX12_init_105 rfl (lv_at hl 0 rfl) ?_
  refine lv_sipush (v := 960) E.1.1 E.1.2.1 dX12_init_106 (by decide) ?_
  refine row_newa (atype := .byte) (a0 := (960, .inl (fun _ => 0))) E B w_db47154c rfl 1 rfl (fun _ => rfl) (by decide) (by decide) (Nat.le_of_ble_eq_true rfl) (Nat.le_of_ble_eq_true rfl) (Nat.le_of_ble_eq_true rfl) dX12_init_109 ?_
  clear B
  intro q13 H B
  refine at_n (n := 111) (k1 := 13) (k2 := 7144) rfl rfl rfl ?_
  refine row_putF E B iX12 rfl tyX12 tyX12_ok nmX12 21 (by decide) w_91d7c41c rfl hnm rfl (ws.length + 0) ((at_pp _ _ _ _).trans rfl) rfl rfl (Nat.le_of_ble_eq_true rfl) dX12_init_111 ?_
  clear B
  intro H locs B
  replace B := Hp.to B (set_pp ..)
  replace B := Hp.to (ws' := ws ++ ([(h, .inr (12, [.ref q1, .int 0, .int 0, .int 0, .int 0, .int 0, .int 0, .int 0, .int 0, .int 0, .ref q2, .ref q3, .ref q4, .ref q5, .ref q6, .ref q7, .ref q8, .ref q9, .ref q10, .ref q11, .ref q12, .ref q13, .null, .null, .null, .null, .null, .null, .null, .null, .null, .null, .null, .null, .null, .int 0, .int 0, .int 0, .int 0, .int 0, .int 0, .int 0, .int 0, .int 0, .null, .null, .null, .null, .null, .null, .null, .null, .null, .null, .null, .null, .null, .null, .null, .null, .null, .null, .null, .null, .null, .null, .null, .null, .int 0, .null, .null, .null, .int 0, .int 0, .int 0, .int 0, .int 0, .int 0, .int 0, .null, .int 0, .null, .null, .null, .null, .null, .null, .null, .null, .int 0, .null, .int 0, .int 0, .null, .null, .null])), (q1, .inl (ct 1, 200, .inl (fun _ => 0))), (q2, .inl (ct 0, 60, .inl (fun _ => 0))), (q3, .inl (ct 0, 60, .inl (fun _ => 0))), (q4, .inl (ct 0, 180, .inl (fun _ => 0))), (q5, .inl (ct 0, 1440, .inl (fun _ => 0))), (q6, .inl (ct 0, 320, .inl (fun _ => 0))), (q7, .inl (ct 1, 3840, .inl (fun _ => 0))), (q8, .inl (ct 0, 6, .inl (fun _ => 0))), (q9, .inl (ct 0, 6, .inl (fun _ => 0))), (q10, .inl (ct 0, 24, .inl (fun _ => 0))), (q11, .inl (ct 3, 24, .inl (fun _ => 0))), (q12, .inl (ct 3, 24, .inl (fun _ => 0))), (q13, .inl (ct 1, 960, .inl (fun _ => 0)))] : va_W)) B rfl
  refine at_pc (n := 114) rfl ?_
  refine lv_aload_n E.1.1 E.1.2.1 dX12_init_114 rfl (lv_at hl 0 rfl) ?_
  refine lv_bipush (v := 80) E.1.1 E.1.2.1 dX12_init_115 (by decide) ?_
  refine row_newa (atype := .int) (a0 := (80, .inl (fun _ => 0))) E B w_e8e14353 rfl 0 rfl (fun _ => rfl) (by decide) (by decide) (Nat.le_of_ble_eq_true rfl) (Nat.le_of_ble_eq_true rfl) (Nat.le_of_ble_eq_true rfl) dX12_init_117 ?_
  clear B
  intro q14 H B
  refine at_n (n := 119) (k1 := 14) (k2 := 7224) rfl rfl rfl ?_
  refine row_putF E B iX12 rfl tyX12 tyX12_ok nmX12 22 (by decide) w_211f589d rfl hnm rfl (ws.length + 0) ((at_pp _ _ _ _).trans rfl) rfl rfl (Nat.le_of_ble_eq_true rfl) dX12_init_119 ?_
  clear B
  intro H locs B
  replace B := Hp.to B (set_pp ..)
  replace B := Hp.to (ws' := ws ++ ([(h, .inr (12, [.ref q1, .int 0, .int 0, .int 0, .int 0, .int 0, .int 0, .int 0, .int 0, .int 0, .ref q2, .ref q3, .ref q4, .ref q5, .ref q6, .ref q7, .ref q8, .ref q9, .ref q10, .ref q11, .ref q12, .ref q13, .ref q14, .null, .null, .null, .null, .null, .null, .null, .null, .null, .null, .null, .null, .int 0, .int 0, .int 0, .int 0, .int 0, .int 0, .int 0, .int 0, .int 0, .null, .null, .null, .null, .null, .null, .null, .null, .null, .null, .null, .null, .null, .null, .null, .null, .null, .null, .null, .null, .null, .null, .null, .null, .int 0, .null, .null, .null, .int 0, .int 0, .int 0, .int 0, .int 0, .int 0, .int 0, .null, .int 0, .null, .null, .null, .null, .null, .null, .null, .null, .int 0, .null, .int 0, .int 0, .null, .null, .null])), (q1, .inl (ct 1, 200, .inl (fun _ => 0))), (q2, .inl (ct 0, 60, .inl (fun _ => 0))), (q3, .inl (ct 0, 60, .inl (fun _ => 0))), (q4, .inl (ct 0, 180, .inl (fun _ => 0))), (q5, .inl (ct 0, 1440, .inl (fun _ => 0))), (q6, .inl (ct 0, 320, .inl (fun _ => 0))), (q7, .inl (ct 1, 3840, .inl (fun _ => 0))), (q8, .inl (ct 0, 6, .inl (fun _ => 0))), (q9, .inl (ct 0, 6, .inl (fun _ => 0))), (q10, .inl (ct 0, 24, .inl (fun _ => 0))), (q11, .inl (ct 3, 24, .inl (fun _ => 0))), (q12, .inl (ct 3, 24, .inl (fun _ => 0))), (q13, .inl (ct 1, 960, .inl (fun _ => 0))), (q14, .inl (ct 0, 80, .inl (fun _ => 0)))] : va_W)) B rfl
  refine at_pc (n := 122) rfl ?_
  refine lv_aload_n E.1.1 E.1.2.1 dX12_init_122 rfl (lv_at hl 0 rfl) ?_
  refine lv_bipush (v := 20) E.1.1 E.1.2.1 dX12_init_123 (by decide) ?_
  refine row_newa (atype := .int) (a0 := (20, .inl (fun _ => 0))) E B w_e8e14353 rfl 0 rfl (fun _ => rfl) (by decide) (by decide) (Nat.le_of_ble_eq_true rfl) (Nat.le_of_ble_eq_true rfl) (Nat.le_of_ble_eq_true rfl) dX12_init_125 ?_
  clear B
  intro q15 H B
  refine at_n (n := 127) (k1 := 15) (k2 := 7244) rfl rfl rfl ?_
  refine row_putF E B iX12 rfl tyX12 tyX12_ok nmX12 23 (by decide) w_3cbdf6f8 rfl hnm rfl (ws.length + 0) ((at_pp _ _ _ _).trans rfl) rfl rfl (Nat.le_of_ble_eq_true rfl) dX12_init_127 ?_
  clear B
  intro H locs B
  replace B := Hp.to B (set_pp ..)
  replace B := Hp.to (ws' := ws ++ ([(h, .inr (12, [.ref q1, .int 0, .int 0, .int 0, .int 0, .int 0, .int 0, .int 0, .int 0, .int 0, .ref q2, .ref q3, .ref q4, .ref q5, .ref q6, .ref q7, .ref q8, .ref q9, .ref q10, .ref q11, .ref q12, .ref q13, .ref q14, .ref q15, .null, .null, .null, .null, .null, .null, .null, .null, .null, .null, .null, .int 0, .int 0, .int 0, .int 0, .int 0, .int 0, .int 0, .int 0, .int 0, .null, .null, .null, .null, .null, .null, .null, .null, .null, .null, .null, .null, .null, .null, .null, .null, .null, .null, .null, .null, .null, .null, .null, .null, .int 0, .null, .null, .null, .int 0, .int 0, .int 0, .int 0, .int 0, .int 0, .int 0, .null, .int 0, .null, .null, .null, .null, .null, .null, .null, .null, .int 0, .null, .int 0, .int 0, .null, .null, .null])), (q1, .inl (ct 1, 200, .inl (fun _ => 0))), (q2, .inl (ct 0, 60, .inl (fun _ => 0))), (q3, .inl (ct 0, 60, .inl (fun _ => 0))), (q4, .inl (ct 0, 180, .inl (fun _ => 0))), (q5, .inl (ct 0, 1440, .inl (fun _ => 0))), (q6, .inl (ct 0, 320, .inl (fun _ => 0))), (q7, .inl (ct 1, 3840, .inl (fun _ => 0))), (q8, .inl (ct 0, 6, .inl (fun _ => 0))), (q9, .inl (ct 0, 6, .inl (fun _ => 0))), (q10, .inl (ct 0, 24, .inl (fun _ => 0))), (q11, .inl (ct 3, 24, .inl (fun _ => 0))), (q12, .inl (ct 3, 24, .inl (fun _ => 0))), (q13, .inl (ct 1, 960, .inl (fun _ => 0))), (q14, .inl (ct 0, 80, .inl (fun _ => 0))), (q15, .inl (ct 0, 20, .inl (fun _ => 0)))] : va_W)) B rfl
  refine at_pc (n := 130) rfl ?_
  refine lv_aload_n E.1.1 E.1.2.1 dX12_init_130 rfl (lv_at hl 0 rfl) ?_
  refine lv_bipush (v := 20) E.1.1 E.1.2.1 dX12_init_131 (by decide) ?_
  refine row_newa (atype := .int) (a0 := (20, .inl (fun _ => 0))) E B w_e8e14353 rfl 0 rfl (fun _ => rfl) (by decide) (by decide) (Nat.le_of_ble_eq_true rfl) (Nat.le_of_ble_eq_true rfl) (Nat.le_of_ble_eq_true rfl) dX12_init_133 ?_
  clear B
  intro q16 H B
  refine at_n (n := 135) (k1 := 16) (k2 := 7264) rfl rfl rfl ?_
  refine row_putF E B iX12 rfl tyX12 tyX12_ok nmX12 24 (by decide) w_61944dea rfl hnm rfl (ws.length + 0) ((at_pp _ _ _ _).trans rfl) rfl rfl (Nat.le_of_ble_eq_true rfl) dX12_init_135 ?_
  clear B
  intro H locs B
  replace B := Hp.to B (set_pp ..)
  replace B := Hp.to (ws' := ws ++ ([(h, .inr (12, [.ref q1, .int 0, .int 0, .int 0, .int 0, .int 0, .int 0, .int 0, .int 0, .int 0, .ref q2, .ref q3, .ref q4, .ref q5, .ref q6, .ref q7, .ref q8, .ref q9, .ref q10, .ref q11, .ref q12, .ref q13, .ref q14, .ref q15, .ref q16, .null, .null, .null, .null, .null, .null, .null, .null, .null, .null, .int 0, .int 0, .int 0, .int 0, .int 0, .int 0, .int 0, .int 0, .int 0, .null, .null, .null, .null, .null, .null, .null, .null, .null, .null, .null, .null, .null, .null, .null, .null, .null, .null, .null, .null, .null, .null, .null, .null, .int 0, .null, .null, .null, .int 0, .int 0, .int 0, .int 0, .int 0, .int 0, .int 0, .null, .int 0, .null, .null, .null, .null, .null, .null, .null, .null, .int 0, .null, .int 0, .int 0, .null, .null, .null])), (q1, .inl (ct 1, 200, .inl (fun _ => 0))), (q2, .inl (ct 0, 60, .inl (fun _ => 0))), (q3, .inl (ct 0, 60, .inl (fun _ => 0))), (q4, .inl (ct 0, 180, .inl (fun _ => 0))), (q5, .inl (ct 0, 1440, .inl (fun _ => 0))), (q6, .inl (ct 0, 320, .inl (fun _ => 0))), (q7, .inl (ct 1, 3840, .inl (fun _ => 0))), (q8, .inl (ct 0, 6, .inl (fun _ => 0))), (q9, .inl (ct 0, 6, .inl (fun _ => 0))), (q10, .inl (ct 0, 24, .inl (fun _ => 0))), (q11, .inl (ct 3, 24, .inl (fun _ => 0))), (q12, .inl (ct 3, 24, .inl (fun _ => 0))), (q13, .inl (ct 1, 960, .inl (fun _ => 0))), (q14, .inl (ct 0, 80, .inl (fun _ => 0))), (q15, .inl (ct 0, 20, .inl (fun _ => 0))), (q16, .inl (ct 0, 20, .inl (fun _ => 0)))] : va_W)) B rfl
  refine at_pc (n := 138) rfl ?_
  refine lv_aload_n E.1.1 E.1.2.1 dX12_init_138 rfl (lv_at hl 0 rfl) ?_
  refine lv_bipush (v := 20) E.1.1 E.1.2.1 dX12_init_139 (by decide) ?_
  refine row_newa (atype := .int) (a0 := (20, .inl (fun _ => 0))) E B w_e8e14353 rfl 0 rfl (fun _ => rfl) (by decide) (by decide) (Nat.le_of_ble_eq_true rfl) (Nat.le_of_ble_eq_true rfl) (Nat.le_of_ble_eq_true rfl) dX12_init_141 ?_
  clear B
  intro q17 H B
  refine at_n (n := 143) (k1 := 17) (k2 := 7284) rfl rfl rfl ?_
  refine row_putF E B iX12 rfl tyX12 tyX12_ok nmX12 25 (by decide) w_8a5f6650 rfl hnm rfl (ws.length + 0) ((at_pp _ _ _ _).trans rfl) rfl rfl (Nat.le_of_ble_eq_true rfl) dX12_init_143 ?_
  clear B
  intro H locs B
  replace B := Hp.to B (set_pp ..)
  replace B := Hp.to (ws' := ws ++ ([(h, .inr (12, [.ref q1, .int 0, .int 0, .int 0, .int 0, .int 0, .int 0, .int 0, .int 0, .int 0, .ref q2, .ref q3, .ref q4, .ref q5, .ref q6, .ref q7, .ref q8, .ref q9, .ref q10, .ref q11, .ref q12, .ref q13, .ref q14, .ref q15, .ref q16, .ref q17, .null, .null, .null, .null, .null, .null, .null, .null, .null, .int 0, .int 0, .int 0, .int 0, .int 0, .int 0, .int 0, .int 0, .int 0, .null, .null, .null, .null, .null, .null, .null, .null, .null, .null, .null, .null, .null, .null, .null, .null, .null, .null, .null, .null, .null, .null, .null, .null, .int 0, .null, .null, .null, .int 0, .int 0, .int 0, .int 0, .int 0, .int 0, .int 0, .null, .int 0, .null, .null, .null, .null, .null, .null, .null, .null, .int 0, .null, .int 0, .int 0, .null, .null, .null])), (q1, .inl (ct 1, 200, .inl (fun _ => 0))), (q2, .inl (ct 0, 60, .inl (fun _ => 0))), (q3, .inl (ct 0, 60, .inl (fun _ => 0))), (q4, .inl (ct 0, 180, .inl (fun _ => 0))), (q5, .inl (ct 0, 1440, .inl (fun _ => 0))), (q6, .inl (ct 0, 320, .inl (fun _ => 0))), (q7, .inl (ct 1, 3840, .inl (fun _ => 0))), (q8, .inl (ct 0, 6, .inl (fun _ => 0))), (q9, .inl (ct 0, 6, .inl (fun _ => 0))), (q10, .inl (ct 0, 24, .inl (fun _ => 0))), (q11, .inl (ct 3, 24, .inl (fun _ => 0))), (q12, .inl (ct 3, 24, .inl (fun _ => 0))), (q13, .inl (ct 1, 960, .inl (fun _ => 0))), (q14, .inl (ct 0, 80, .inl (fun _ => 0))), (q15, .inl (ct 0, 20, .inl (fun _ => 0))), (q16, .inl (ct 0, 20, .inl (fun _ => 0))), (q17, .inl (ct 0, 20, .inl (fun _ => 0)))] : va_W)) B rfl
  refine at_pc (n := 146) rfl ?_
  refine lv_aload_n E.1.1 E.1.2.1 dX12_init_146 rfl (lv_at hl 0 rfl) ?_
  refine lv_bipush (v := 20) E.1.1 E.1.2.1 dX12_init_147 (by decide) ?_
  refine row_newa (atype := .int) (a0 := (20, .inl (fun _ => 0))) E B w_e8e14353 rfl 0 rfl (fun _ => rfl) (by decide) (by decide) (Nat.le_of_ble_eq_true rfl) (Nat.le_of_ble_eq_true rfl) (Nat.le_of_ble_eq_true rfl) dX12_init_149 ?_
  clear B
  intro q18 H B
  refine at_n (n := 151) (k1 := 18) (k2 := 7304) rfl rfl rfl ?_
  refine row_putF E B iX12 rfl tyX12 tyX12_ok nmX12 26 (by decide) w_85b2fdb2 rfl hnm rfl (ws.length + 0) ((at_pp _ _ _ _).trans rfl) rfl rfl (Nat.le_of_ble_eq_true rfl) dX12_init_151 ?_
  clear B
  intro H locs B
  replace B := Hp.to B (set_pp ..)
  replace B := Hp.to (ws' := ws ++ ([(h, .inr (12, [.ref q1, .int 0, .int 0, .int 0, .int 0, .int 0, .int 0, .int 0, .int 0, .int 0, .ref q2, .ref q3, .ref q4, .ref q5, .ref q6, .ref q7, .ref q8, .ref q9, .ref q10, .ref q11, .ref q12, .ref q13, .ref q14, .ref q15, .ref q16, .ref q17, .ref q18, .null, .null, .null, .null, .null, .null, .null, .null, .int 0, .int 0, .int 0, .int 0, .int 0, .int 0, .int 0, .int 0, .int 0, .null, .null, .null, .null, .null, .null, .null, .null, .null, .null, .null, .null, .null, .null, .null, .null, .null, .null, .null, .null, .null, .null, .null, .null, .int 0, .null, .null, .null, .int 0, .int 0, .int 0, .int 0, .int 0, .int 0, .int 0, .null, .int 0, .null, .null, .null, .null, .null, .null, .null, .null, .int 0, .null, .int 0, .int 0, .null, .null, .null])), (q1, .inl (ct 1, 200, .inl (fun _ => 0))), (q2, .inl (ct 0, 60, .inl (fun _ => 0))), (q3, .inl (ct 0, 60, .inl (fun _ => 0))), (q4, .inl (ct 0, 180, .inl (fun _ => 0))), (q5, .inl (ct 0, 1440, .inl (fun _ => 0))), (q6, .inl (ct 0, 320, .inl (fun _ => 0))), (q7, .inl (ct 1, 3840, .inl (fun _ => 0))), (q8, .inl (ct 0, 6, .inl (fun _ => 0))), (q9, .inl (ct 0, 6, .inl (fun _ => 0))), (q10, .inl (ct 0, 24, .inl (fun _ => 0))), (q11, .inl (ct 3, 24, .inl (fun _ => 0))), (q12, .inl (ct 3, 24, .inl (fun _ => 0))), (q13, .inl (ct 1, 960, .inl (fun _ => 0))), (q14, .inl (ct 0, 80, .inl (fun _ => 0))), (q15, .inl (ct 0, 20, .inl (fun _ => 0))), (q16, .inl (ct 0, 20, .inl (fun _ => 0))), (q17, .inl (ct 0, 20, .inl (fun _ => 0))), (q18, .inl (ct 0, 20, .inl (fun _ => 0)))] : va_W)) B rfl
  refine at_pc (n := 154) rfl ?_
  refine lv_aload_n E.1.1 E.1.2.1 dX12_init_154 rfl (lv_at hl 0 rfl) ?_
  refine lv_sipush (v := 320) E.1.1 E.1.2.1 dX12_init_155 (by decide) ?_
  refine row_newa (atype := .int) (a0 := (320, .inl (fun _ => 0))) E B w_e8e14353 rfl 0 rfl (fun _ => rfl) (by decide) (by decide) (Nat.le_of_ble_eq_true rfl) (Nat.le_of_ble_eq_true rfl) (Nat.le_of_ble_eq_true rfl) dX12_init_158 ?_
  clear B
  intro q19 H B
  refine at_n (n := 160) (k1 := 19) (k2 := 7624) rfl rfl rfl ?_
  refine row_putF E B iX12 rfl tyX12 tyX12_ok nmX12 27 (by decide) w_017bcf4c rfl hnm rfl (ws.length + 0) ((at_pp _ _ _ _).trans rfl) rfl rfl (Nat.le_of_ble_eq_true rfl) dX12_init_160 ?_
  clear B
  intro H locs B
  replace B := Hp.to B (set_pp ..)
  replace B := Hp.to (ws' := ws ++ ([(h, .inr (12, [.ref q1, .int 0, .int 0, .int 0, .int 0, .int 0, .int 0, .int 0, .int 0, .int 0, .ref q2, .ref q3, .ref q4, .ref q5, .ref q6, .ref q7, .ref q8, .ref q9, .ref q10, .ref q11, .ref q12, .ref q13, .ref q14, .ref q15, .ref q16, .ref q17, .ref q18, .ref q19, .null, .null, .null, .null, .null, .null, .null, .int 0, .int 0, .int 0, .int 0, .int 0, .int 0, .int 0, .int 0, .int 0, .null, .null, .null, .null, .null, .null, .null, .null, .null, .null, .null, .null, .null, .null, .null, .null, .null, .null, .null, .null, .null, .null, .null, .null, .int 0, .null, .null, .null, .int 0, .int 0, .int 0, .int 0, .int 0, .int 0, .int 0, .null, .int 0, .null, .null, .null, .null, .null, .null, .null, .null, .int 0, .null, .int 0, .int 0, .null, .null, .null])), (q1, .inl (ct 1, 200, .inl (fun _ => 0))), (q2, .inl (ct 0, 60, .inl (fun _ => 0))), (q3, .inl (ct 0, 60, .inl (fun _ => 0))), (q4, .inl (ct 0, 180, .inl (fun _ => 0))), (q5, .inl (ct 0, 1440, .inl (fun _ => 0))), (q6, .inl (ct 0, 320, .inl (fun _ => 0))), (q7, .inl (ct 1, 3840, .inl (fun _ => 0))), (q8, .inl (ct 0, 6, .inl (fun _ => 0))), (q9, .inl (ct 0, 6, .inl (fun _ => 0))), (q10, .inl (ct 0, 24, .inl (fun _ => 0))), (q11, .inl (ct 3, 24, .inl (fun _ => 0))), (q12, .inl (ct 3, 24, .inl (fun _ => 0))), (q13, .inl (ct 1, 960, .inl (fun _ => 0))), (q14, .inl (ct 0, 80, .inl (fun _ => 0))), (q15, .inl (ct 0, 20, .inl (fun _ => 0))), (q16, .inl (ct 0, 20, .inl (fun _ => 0))), (q17, .inl (ct 0, 20, .inl (fun _ => 0))), (q18, .inl (ct 0, 20, .inl (fun _ => 0))), (q19, .inl (ct 0, 320, .inl (fun _ => 0)))] : va_W)) B rfl
  refine at_pc (n := 163) rfl ?_
  refine lv_aload_n E.1.1 E.1.2.1 dX12_init_163 rfl (lv_at hl 0 rfl) ?_
  refine lv_sipush (v := 320) E.1.1 E.1.2.1 dX12_init_164 (by decide) ?_
  refine row_newa (atype := .int) (a0 := (320, .inl (fun _ => 0))) E B w_e8e14353 rfl 0 rfl (fun _ => rfl) (by decide) (by decide) (Nat.le_of_ble_eq_true rfl) (Nat.le_of_ble_eq_true rfl) (Nat.le_of_ble_eq_true rfl) dX12_init_167 ?_
  clear B
  intro q20 H B
  refine at_n (n := 169) (k1 := 20) (k2 := 7944) rfl rfl rfl ?_
  refine row_putF E B iX12 rfl tyX12 tyX12_ok nmX12 28 (by decide) w_e3c45117 rfl hnm rfl (ws.length + 0) ((at_pp _ _ _ _).trans rfl) rfl rfl (Nat.le_of_ble_eq_true rfl) dX12_init_169 ?_
  clear B
  intro H locs B
  replace B := Hp.to B (set_pp ..)
  replace B := Hp.to (ws' := ws ++ ([(h, .inr (12, [.ref q1, .int 0, .int 0, .int 0, .int 0, .int 0, .int 0, .int 0, .int 0, .int 0, .ref q2, .ref q3, .ref q4, .ref q5, .ref q6, .ref q7, .ref q8, .ref q9, .ref q10, .ref q11, .ref q12, .ref q13, .ref q14, .ref q15, .ref q16, .ref q17, .ref q18, .ref q19, .ref q20, .null, .null, .null, .null, .null, .null, .int 0, .int 0, .int 0, .int 0, .int 0, .int 0, .int 0, .int 0, .int 0, .null, .null, .null, .null, .null, .null, .null, .null, .null, .null, .null, .null, .null, .null, .null, .null, .null, .null, .null, .null, .null, .null, .null, .null, .int 0, .null, .null, .null, .int 0, .int 0, .int 0, .int 0, .int 0, .int 0, .int 0, .null, .int 0, .null, .null, .null, .null, .null, .null, .null, .null, .int 0, .null, .int 0, .int 0, .null, .null, .null])), (q1, .inl (ct 1, 200, .inl (fun _ => 0))), (q2, .inl (ct 0, 60, .inl (fun _ => 0))), (q3, .inl (ct 0, 60, .inl (fun _ => 0))), (q4, .inl (ct 0, 180, .inl (fun _ => 0))), (q5, .inl (ct 0, 1440, .inl (fun _ => 0))), (q6, .inl (ct 0, 320, .inl (fun _ => 0))), (q7, .inl (ct 1, 3840, .inl (fun _ => 0))), (q8, .inl (ct 0, 6, .inl (fun _ => 0))), (q9, .inl (ct 0, 6, .inl (fun _ => 0))), (q10, .inl (ct 0, 24, .inl (fun _ => 0))), (q11, .inl (ct 3, 24, .inl (fun _ => 0))), (q12, .inl (ct 3, 24, .inl (fun _ => 0))), (q13, .inl (ct 1, 960, .inl (fun _ => 0))), (q14, .inl (ct 0, 80, .inl (fun _ => 0))), (q15, .inl (ct 0, 20, .inl (fun _ => 0))), (q16, .inl (ct 0, 20, .inl (fun _ => 0))), (q17, .inl (ct 0, 20, .inl (fun _ => 0))), (q18, .inl (ct 0, 20, .inl (fun _ => 0))), (q19, .inl (ct 0, 320, .inl (fun _ => 0))), (q20, .inl (ct 0, 320, .inl (fun _ => 0)))] : va_W)) B rfl
  refine at_pc (n := 172) rfl ?_
  refine lv_aload_n E.1.1 E.1.2.1 dX12_init_172 rfl (lv_at hl 0 rfl) ?_
  refine lv_sipush (v := 320) E.1.1 E.1.2.1 dX12_init_173 (by decide) ?_
  refine row_newa (atype := .int) (a0 := (320, .inl (fun _ => 0))) E B w_e8e14353 rfl 0 rfl (fun _ => rfl) (by decide) (by decide) (Nat.le_of_ble_eq_true rfl) (Nat.le_of_ble_eq_true rfl) (Nat.le_of_ble_eq_true rfl) dX12_init_176 ?_
  clear B
  intro q21 H B
  refine at_n (n := 178) (k1 := 21) (k2 := 8264) rfl rfl rfl ?_
  refine row_putF E B iX12 rfl tyX12 tyX12_ok nmX12 29 (by decide) w_c485ba1f rfl hnm rfl (ws.length + 0) ((at_pp _ _ _ _).trans rfl) rfl rfl (Nat.le_of_ble_eq_true rfl) dX12_init_178 ?_
  clear B
  intro H locs B
  replace B := Hp.to B (set_pp ..)
  replace B := Hp.to (ws' := ws ++ ([(h, .inr (12, [.ref q1, .int 0, .int 0, .int 0, .int 0, .int 0, .int 0, .int 0, .int 0, .int 0, .ref q2, .ref q3, .ref q4, .ref q5, .ref q6, .ref q7, .ref q8, .ref q9, .ref q10, .ref q11, .ref q12, .ref q13, .ref q14, .ref q15, .ref q16, .ref q17, .ref q18, .ref q19, .ref q20, .ref q21, .null, .null, .null, .null, .null, .int 0, .int 0, .int 0, .int 0, .int 0, .int 0, .int 0, .int 0, .int 0, .null, .null, .null, .null, .null, .null, .null, .null, .null, .null, .null, .null, .null, .null, .null, .null, .null, .null, .null, .null, .null, .null, .null, .null, .int 0, .null, .null, .null, .int 0, .int 0, .int 0, .int 0, .int 0, .int 0, .int 0, .null, .int 0, .null, .null, .null, .null, .null, .null, .null, .null, .int 0, .null, .int 0, .int 0, .null, .null, .null])), (q1, .inl (ct 1, 200, .inl (fun _ => 0))), (q2, .inl (ct 0, 60, .inl (fun _ => 0))), (q3, .inl (ct 0, 60, .inl (fun _ => 0))), (q4, .inl (ct 0, 180, .inl (fun _ => 0))), (q5, .inl (ct 0, 1440, .inl (fun _ => 0))), (q6, .inl (ct 0, 320, .inl (fun _ => 0))), (q7, .inl (ct 1, 3840, .inl (fun _ => 0))), (q8, .inl (ct 0, 6, .inl (fun _ => 0))), (q9, .inl (ct 0, 6, .inl (fun _ => 0))), (q10, .inl (ct 0, 24, .inl (fun _ => 0))), (q11, .inl (ct 3, 24, .inl (fun _ => 0))), (q12, .inl (ct 3, 24, .inl (fun _ => 0))), (q13, .inl (ct 1, 960, .inl (fun _ => 0))), (q14, .inl (ct 0, 80, .inl (fun _ => 0))), (q15, .inl (ct 0, 20, .inl (fun _ => 0))), (q16, .inl (ct 0, 20, .inl (fun _ => 0))), (q17, .inl (ct 0, 20, .inl (fun _ => 0))), (q18, .inl (ct 0, 20, .inl (fun _ => 0))), (q19, .inl (ct 0, 320, .inl (fun _ => 0))), (q20, .inl (ct 0, 320, .inl (fun _ => 0))), (q21, .inl (ct 0, 320, .inl (fun _ => 0)))] : va_W)) B rfl
  refine at_pc (n := 181) rfl ?_
  refine lv_aload_n E.1.1 E.1.2.1 dX12_init_181 rfl (lv_at hl 0 rfl) ?_
  refine lv_sipush (v := 320) E.1.1 E.1.2.1 dX12_init_182 (by decide) ?_
  refine row_newa (atype := .int) (a0 := (320, .inl (fun _ => 0))) E B w_e8e14353 rfl 0 rfl (fun _ => rfl) (by decide) (by decide) (Nat.le_of_ble_eq_true rfl) (Nat.le_of_ble_eq_true rfl) (Nat.le_of_ble_eq_true rfl) dX12_init_185 ?_
  clear B
  intro q22 H B
  refine at_n (n := 187) (k1 := 22) (k2 := 8584) rfl rfl rfl ?_
  refine row_putF E B iX12 rfl tyX12 tyX12_ok nmX12 30 (by decide) w_aa1c3476 rfl hnm rfl (ws.length + 0) ((at_pp _ _ _ _).trans rfl) rfl rfl (Nat.le_of_ble_eq_true rfl) dX12_init_187 ?_
  clear B
  intro H locs B
  replace B := Hp.to B (set_pp ..)
  replace B := Hp.to (ws' := ws ++ ([(h, .inr (12, [.ref q1, .int 0, .int 0, .int 0, .int 0, .int 0, .int 0, .int 0, .int 0, .int 0, .ref q2, .ref q3, .ref q4, .ref q5, .ref q6, .ref q7, .ref q8, .ref q9, .ref q10, .ref q11, .ref q12, .ref q13, .ref q14, .ref q15, .ref q16, .ref q17, .ref q18, .ref q19, .ref q20, .ref q21, .ref q22, .null, .null, .null, .null, .int 0, .int 0, .int 0, .int 0, .int 0, .int 0, .int 0, .int 0, .int 0, .null, .null, .null, .null, .null, .null, .null, .null, .null, .null, .null, .null, .null, .null, .null, .null, .null, .null, .null, .null, .null, .null, .null, .null, .int 0, .null, .null, .null, .int 0, .int 0, .int 0, .int 0, .int 0, .int 0, .int 0, .null, .int 0, .null, .null, .null, .null, .null, .null, .null, .null, .int 0, .null, .int 0, .int 0, .null, .null, .null])), (q1, .inl (ct 1, 200, .inl (fun _ => 0))), (q2, .inl (ct 0, 60, .inl (fun _ => 0))), (q3, .inl (ct 0, 60, .inl (fun _ => 0))), (q4, .inl (ct 0, 180, .inl (fun _ => 0))), (q5, .inl (ct 0, 1440, .inl (fun _ => 0))), (q6, .inl (ct 0, 320, .inl (fun _ => 0))), (q7, .inl (ct 1, 3840, .inl (fun _ => 0))), (q8, .inl (ct 0, 6, .inl (fun _ => 0))), (q9, .inl (ct 0, 6, .inl (fun _ => 0))), (q10, .inl (ct 0, 24, .inl (fun _ => 0))), (q11, .inl (ct 3, 24, .inl (fun _ => 0))), (q12, .inl (ct 3, 24, .inl (fun _ => 0))), (q13, .inl (ct 1, 960, .inl (fun _ => 0))), (q14, .inl (ct 0, 80, .inl (fun _ => 0))), (q15, .inl (ct 0, 20, .inl (fun _ => 0))), (q16, .inl (ct 0, 20, .inl (fun _ => 0))), (q17, .inl (ct 0, 20, .inl (fun _ => 0))), (q18, .inl (ct 0, 20, .inl (fun _ => 0))), (q19, .inl (ct 0, 320, .inl (fun _ => 0))), (q20, .inl (ct 0, 320, .inl (fun _ => 0))), (q21, .inl (ct 0, 320, .inl (fun _ => 0))), (q22, .inl (ct 0, 320, .inl (fun _ => 0)))] : va_W)) B rfl
  refine at_pc (n := 190) rfl ?_
  refine lv_aload_n E.1.1 E.1.2.1 dX12_init_190 rfl (lv_at hl 0 rfl) ?_
  refine lv_sipush (v := 320) E.1.1 E.1.2.1 dX12_init_191 (by decide) ?_
  refine row_newa (atype := .int) (a0 := (320, .inl (fun _ => 0))) E B w_e8e14353 rfl 0 rfl (fun _ => rfl) (by decide) (by decide) (Nat.le_of_ble_eq_true rfl) (Nat.le_of_ble_eq_true rfl) (Nat.le_of_ble_eq_true rfl) dX12_init_194 ?_
  clear B
  intro q23 H B
  refine at_n (n := 196) (k1 := 23) (k2 := 8904) rfl rfl rfl ?_
  refine row_putF E B iX12 rfl tyX12 tyX12_ok nmX12 31 (by decide) w_eadf4d4c rfl hnm rfl (ws.length + 0) ((at_pp _ _ _ _).trans rfl) rfl rfl (Nat.le_of_ble_eq_true rfl) dX12_init_196 ?_
  clear B
  intro H locs B
  replace B := Hp.to B (set_pp ..)
  replace B := Hp.to (ws' := ws ++ ([(h, .inr (12, [.ref q1, .int 0, .int 0, .int 0, .int 0, .int 0, .int 0, .int 0, .int 0, .int 0, .ref q2, .ref q3, .ref q4, .ref q5, .ref q6, .ref q7, .ref q8, .ref q9, .ref q10, .ref q11, .ref q12, .ref q13, .ref q14, .ref q15, .ref q16, .ref q17, .ref q18, .ref q19, .ref q20, .ref q21, .ref q22, .ref q23, .null, .null, .null, .int 0, .int 0, .int 0, .int 0, .int 0, .int 0, .int 0, .int 0, .int 0, .null, .null, .null, .null, .null, .null, .null, .null, .null, .null, .null, .null, .null, .null, .null, .null, .null, .null, .null, .null, .null, .null, .null, .null, .int 0, .null, .null, .null, .int 0, .int 0, .int 0, .int 0, .int 0, .int 0, .int 0, .null, .int 0, .null, .null, .null, .null, .null, .null, .null, .null, .int 0, .null, .int 0, .int 0, .null, .null, .null])), (q1, .inl (ct 1, 200, .inl (fun _ => 0))), (q2, .inl (ct 0, 60, .inl (fun _ => 0))), (q3, .inl (ct 0, 60, .inl (fun _ => 0))), (q4, .inl (ct 0, 180, .inl (fun _ => 0))), (q5, .inl (ct 0, 1440, .inl (fun _ => 0))), (q6, .inl (ct 0, 320, .inl (fun _ => 0))), (q7, .inl (ct 1, 3840, .inl (fun _ => 0))), (q8, .inl (ct 0, 6, .inl (fun _ => 0))), (q9, .inl (ct 0, 6, .inl (fun _ => 0))), (q10, .inl (ct 0, 24, .inl (fun _ => 0))), (q11, .inl (ct 3, 24, .inl (fun _ => 0))), (q12, .inl (ct 3, 24, .inl (fun _ => 0))), (q13, .inl (ct 1, 960, .inl (fun _ => 0))), (q14, .inl (ct 0, 80, .inl (fun _ => 0))), (q15, .inl (ct 0, 20, .inl (fun _ => 0))), (q16, .inl (ct 0, 20, .inl (fun _ => 0))), (q17, .inl (ct 0, 20, .inl (fun _ => 0))), (q18, .inl (ct 0, 20, .inl (fun _ => 0))), (q19, .inl (ct 0, 320, .inl (fun _ => 0))), (q20, .inl (ct 0, 320, .inl (fun _ => 0))), (q21, .inl (ct 0, 320, .inl (fun _ => 0))), (q22, .inl (ct 0, 320, .inl (fun _ => 0))), (q23, .inl (ct 0, 320, .inl (fun _ => 0)))] : va_W)) B rfl
  refine at_pc (n := 199) rfl ?_
  refine lv_aload_n E.1.1 E.1.2.1 dX12_init_199 rfl (lv_at hl 0 rfl) ?_
  refine lv_sipush (v := 320) E.1.1 E.1.2.1 dX12_init_200 (by decide) ?_
  refine row_newa (atype := .int) (a0 := (320, .inl (fun _ => 0))) E B w_e8e14353 rfl 0 rfl (fun _ => rfl) (by decide) (by decide) (Nat.le_of_ble_eq_true rfl) (Nat.le_of_ble_eq_true rfl) (Nat.le_of_ble_eq_true rfl) dX12_init_203 ?_
  clear B
  intro q24 H B
  refine at_n (n := 205) (k1 := 24) (k2 := 9224) rfl rfl rfl ?_
  refine row_putF E B iX12 rfl tyX12 tyX12_ok nmX12 32 (by decide) w_b25159d5 rfl hnm rfl (ws.length + 0) ((at_pp _ _ _ _).trans rfl) rfl rfl (Nat.le_of_ble_eq_true rfl) dX12_init_205 ?_
  clear B
  intro H locs B
  replace B := Hp.to B (set_pp ..)
  replace B := Hp.to (ws' := ws ++ ([(h, .inr (12, [.ref q1, .int 0, .int 0, .int 0, .int 0, .int 0, .int 0, .int 0, .int 0, .int 0, .ref q2, .ref q3, .ref q4, .ref q5, .ref q6, .ref q7, .ref q8, .ref q9, .ref q10, .ref q11, .ref q12, .ref q13, .ref q14, .ref q15, .ref q16, .ref q17, .ref q18, .ref q19, .ref q20, .ref q21, .ref q22, .ref q23, .ref q24, .null, .null, .int 0, .int 0, .int 0, .int 0, .int 0, .int 0, .int 0, .int 0, .int 0, .null, .null, .null, .null, .null, .null, .null, .null, .null, .null, .null, .null, .null, .null, .null, .null, .null, .null, .null, .null, .null, .null, .null, .null, .int 0, .null, .null, .null, .int 0, .int 0, .int 0, .int 0, .int 0, .int 0, .int 0, .null, .int 0, .null, .null, .null, .null, .null, .null, .null, .null, .int 0, .null, .int 0, .int 0, .null, .null, .null])), (q1, .inl (ct 1, 200, .inl (fun _ => 0))), (q2, .inl (ct 0, 60, .inl (fun _ => 0))), (q3, .inl (ct 0, 60, .inl (fun _ => 0))), (q4, .inl (ct 0, 180, .inl (fun _ => 0))), (q5, .inl (ct 0, 1440, .inl (fun _ => 0))), (q6, .inl (ct 0, 320, .inl (fun _ => 0))), (q7, .inl (ct 1, 3840, .inl (fun _ => 0))), (q8, .inl (ct 0, 6, .inl (fun _ => 0))), (q9, .inl (ct 0, 6, .inl (fun _ => 0))), (q10, .inl (ct 0, 24, .inl (fun _ => 0))), (q11, .inl (ct 3, 24, .inl (fun _ => 0))), (q12, .inl (ct 3, 24, .inl (fun _ => 0))), (q13, .inl (ct 1, 960, .inl (fun _ => 0))), (q14, .inl (ct 0, 80, .inl (fun _ => 0))), (q15, .inl (ct 0, 20, .inl (fun _ => 0))), (q16, .inl (ct 0, 20, .inl (fun _ => 0))), (q17, .inl (ct 0, 20, .inl (fun _ => 0))), (q18, .inl (ct 0, 20, .inl (fun _ => 0))), (q19, .inl (ct 0, 320, .inl (fun _ => 0))), (q20, .inl (ct 0, 320, .inl (fun _ => 0))), (q21, .inl (ct 0, 320, .inl (fun _ => 0))), (q22, .inl (ct 0, 320, .inl (fun _ => 0))), (q23, .inl (ct 0, 320, .inl (fun _ => 0))), (q24, .inl (ct 0, 320, .inl (fun _ => 0)))] : va_W)) B rfl
  refine at_pc (n := 208) rfl ?_
  refine lv_aload_n E.1.1 E.1.2.1 dX12_init_208 rfl (lv_at hl 0 rfl) ?_
  refine lv_sipush (v := 3200) E.1.1 E.1.2.1 dX12_init_209 (by decide) ?_
  refine row_newa (atype := .int) (a0 := (3200, .inl (fun _ => 0))) E B w_e8e14353 rfl 0 rfl (fun _ => rfl) (by decide) (by decide) (Nat.le_of_ble_eq_true rfl) (Nat.le_of_ble_eq_true rfl) (Nat.le_of_ble_eq_true rfl) dX12_init_212 ?_
  clear B
  intro q25 H B
  refine at_n (n := 214) (k1 := 25) (k2 := 12424) rfl rfl rfl ?_
  refine row_putF E B iX12 rfl tyX12 tyX12_ok nmX12 33 (by decide) w_02a7548d rfl hnm rfl (ws.length + 0) ((at_pp _ _ _ _).trans rfl) rfl rfl (Nat.le_of_ble_eq_true rfl) dX12_init_214 ?_
  clear B
  intro H locs B
  replace B := Hp.to B (set_pp ..)
  replace B := Hp.to (ws' := ws ++ ([(h, .inr (12, [.ref q1, .int 0, .int 0, .int 0, .int 0, .int 0, .int 0, .int 0, .int 0, .int 0, .ref q2, .ref q3, .ref q4, .ref q5, .ref q6, .ref q7, .ref q8, .ref q9, .ref q10, .ref q11, .ref q12, .ref q13, .ref q14, .ref q15, .ref q16, .ref q17, .ref q18, .ref q19, .ref q20, .ref q21, .ref q22, .ref q23, .ref q24, .ref q25, .null, .int 0, .int 0, .int 0, .int 0, .int 0, .int 0, .int 0, .int 0, .int 0, .null, .null, .null, .null, .null, .null, .null, .null, .null, .null, .null, .null, .null, .null, .null, .null, .null, .null, .null, .null, .null, .null, .null, .null, .int 0, .null, .null, .null, .int 0, .int 0, .int 0, .int 0, .int 0, .int 0, .int 0, .null, .int 0, .null, .null, .null, .null, .null, .null, .null, .null, .int 0, .null, .int 0, .int 0, .null, .null, .null])), (q1, .inl (ct 1, 200, .inl (fun _ => 0))), (q2, .inl (ct 0, 60, .inl (fun _ => 0))), (q3, .inl (ct 0, 60, .inl (fun _ => 0))), (q4, .inl (ct 0, 180, .inl (fun _ => 0))), (q5, .inl (ct 0, 1440, .inl (fun _ => 0))), (q6, .inl (ct 0, 320, .inl (fun _ => 0))), (q7, .inl (ct 1, 3840, .inl (fun _ => 0))), (q8, .inl (ct 0, 6, .inl (fun _ => 0))), (q9, .inl (ct 0, 6, .inl (fun _ => 0))), (q10, .inl (ct 0, 24, .inl (fun _ => 0))), (q11, .inl (ct 3, 24, .inl (fun _ => 0))), (q12, .inl (ct 3, 24, .inl (fun _ => 0))), (q13, .inl (ct 1, 960, .inl (fun _ => 0))), (q14, .inl (ct 0, 80, .inl (fun _ => 0))), (q15, .inl (ct 0, 20, .inl (fun _ => 0))), (q16, .inl (ct 0, 20, .inl (fun _ => 0))), (q17, .inl (ct 0, 20, .inl (fun _ => 0))), (q18, .inl (ct 0, 20, .inl (fun _ => 0))), (q19, .inl (ct 0, 320, .inl (fun _ => 0))), (q20, .inl (ct 0, 320, .inl (fun _ => 0))), (q21, .inl (ct 0, 320, .inl (fun _ => 0))), (q22, .inl (ct 0, 320, .inl (fun _ => 0))), (q23, .inl (ct 0, 320, .inl (fun _ => 0))), (q24, .inl (ct 0, 320, .inl (fun _ => 0))), (q25, .inl (ct 0, 3200, .inl (fun _ => 0)))] : va_W)) B rfl
  refine at_pc (n := 217) rfl ?_
  refine lv_aload_n E.1.1 E.1.2.1 dX12_init_217 rfl (lv_at hl 0 rfl) ?_
  refine lv_sipush (v := 3200) E.1.1 E.1.2.1 dX12_init_218 (by decide) ?_
  refine row_newa (atype := .int) (a0 := (3200, .inl (fun _ => 0))) E B w_e8e14353 rfl 0 rfl (fun _ => rfl) (by decide) (by decide) (Nat.le_of_ble_eq_true rfl) (Nat.le_of_ble_eq_true rfl) (Nat.le_of_ble_eq_true rfl) dX12_init_221 ?_
  clear B
  intro q26 H B
  refine at_n (n := 223) (k1 := 26) (k2 := 15624) rfl rfl rfl ?_
  refine row_putF E B iX12 rfl tyX12 tyX12_ok nmX12 34 (by decide) w_0e4ca46a rfl hnm rfl (ws.length + 0) ((at_pp _ _ _ _).trans rfl) rfl rfl (Nat.le_of_ble_eq_true rfl) dX12_init_223 ?_
  clear B
  intro H locs B
  replace B := Hp.to B (set_pp ..)
  replace B := Hp.to (ws' := ws ++ ([(h, .inr (12, [.ref q1, .int 0, .int 0, .int 0, .int 0, .int 0, .int 0, .int 0, .int 0, .int 0, .ref q2, .ref q3, .ref q4, .ref q5, .ref q6, .ref q7, .ref q8, .ref q9, .ref q10, .ref q11, .ref q12, .ref q13, .ref q14, .ref q15, .ref q16, .ref q17, .ref q18, .ref q19, .ref q20, .ref q21, .ref q22, .ref q23, .ref q24, .ref q25, .ref q26, .int 0, .int 0, .int 0, .int 0, .int 0, .int 0, .int 0, .int 0, .int 0, .null, .null, .null, .null, .null, .null, .null, .null, .null, .null, .null, .null, .null, .null, .null, .null, .null, .null, .null, .null, .null, .null, .null, .null, .int 0, .null, .null, .null, .int 0, .int 0, .int 0, .int 0, .int 0, .int 0, .int 0, .null, .int 0, .null, .null, .null, .null, .null, .null, .null, .null, .int 0, .null, .int 0, .int 0, .null, .null, .null])), (q1, .inl (ct 1, 200, .inl (fun _ => 0))), (q2, .inl (ct 0, 60, .inl (fun _ => 0))), (q3, .inl (ct 0, 60, .inl (fun _ => 0))), (q4, .inl (ct 0, 180, .inl (fun _ => 0))), (q5, .inl (ct 0, 1440, .inl (fun _ => 0))), (q6, .inl (ct 0, 320, .inl (fun _ => 0))), (q7, .inl (ct 1, 3840, .inl (fun _ => 0))), (q8, .inl (ct 0, 6, .inl (fun _ => 0))), (q9, .inl (ct 0, 6, .inl (fun _ => 0))), (q10, .inl (ct 0, 24, .inl (fun _ => 0))), (q11, .inl (ct 3, 24, .inl (fun _ => 0))), (q12, .inl (ct 3, 24, .inl (fun _ => 0))), (q13, .inl (ct 1, 960, .inl (fun _ => 0))), (q14, .inl (ct 0, 80, .inl (fun _ => 0))), (q15, .inl (ct 0, 20, .inl (fun _ => 0))), (q16, .inl (ct 0, 20, .inl (fun _ => 0))), (q17, .inl (ct 0, 20, .inl (fun _ => 0))), (q18, .inl (ct 0, 20, .inl (fun _ => 0))), (q19, .inl (ct 0, 320, .inl (fun _ => 0))), (q20, .inl (ct 0, 320, .inl (fun _ => 0))), (q21, .inl (ct 0, 320, .inl (fun _ => 0))), (q22, .inl (ct 0, 320, .inl (fun _ => 0))), (q23, .inl (ct 0, 320, .inl (fun _ => 0))), (q24, .inl (ct 0, 320, .inl (fun _ => 0))), (q25, .inl (ct 0, 3200, .inl (fun _ => 0))), (q26, .inl (ct 0, 3200, .inl (fun _ => 0)))] : va_W)) B rfl
  refine at_pc (n := 226) rfl ?_
  refine lv_aload_n E.1.1 E.1.2.1 dX12_init_226 rfl (lv_at hl 0 rfl) ?_
  refine lv_sipush (v := 200) E.1.1 E.1.2.1 dX12_init_227 (by decide) ?_
  refine row_newa (atype := .int) (a0 := (200, .inl (fun _ => 0))) E B w_e8e14353 rfl 0 rfl (fun _ => rfl) (by decide) (by decide) (Nat.le_of_ble_eq_true rfl) (Nat.le_of_ble_eq_true rfl) (Nat.le_of_ble_eq_true rfl) dX12_init_230 ?_
  clear B
  intro q27 H B
  refine at_n (n := 232) (k1 := 27) (k2 := 15824) rfl rfl rfl ?_
  refine row_putF E B iX12 rfl tyX12 tyX12_ok nmX12 44 (by decide) w_0cff11dd rfl hnm rfl (ws.length + 0) ((at_pp _ _ _ _).trans rfl) rfl rfl (Nat.le_of_ble_eq_true rfl) dX12_init_232 ?_
  clear B
  intro H locs B
  replace B := Hp.to B (set_pp ..)
  replace B := Hp.to (ws' := ws ++ ([(h, .inr (12, [.ref q1, .int 0, .int 0, .int 0, .int 0, .int 0, .int 0, .int 0, .int 0, .int 0, .ref q2, .ref q3, .ref q4, .ref q5, .ref q6, .ref q7, .ref q8, .ref q9, .ref q10, .ref q11, .ref q12, .ref q13, .ref q14, .ref q15, .ref q16, .ref q17, .ref q18, .ref q19, .ref q20, .ref q21, .ref q22, .ref q23, .ref q24, .ref q25, .ref q26, .int 0, .int 0, .int 0, .int 0, .int 0, .int 0, .int 0, .int 0, .int 0, .ref q27, .null, .null, .null, .null, .null, .null, .null, .null, .null, .null, .null, .null, .null, .null, .null, .null, .null, .null, .null, .null, .null, .null, .null, .int 0, .null, .null, .null, .int 0, .int 0, .int 0, .int 0, .int 0, .int 0, .int 0, .null, .int 0, .null, .null, .null, .null, .null, .null, .null, .null, .int 0, .null, .int 0, .int 0, .null, .null, .null])), (q1, .inl (ct 1, 200, .inl (fun _ => 0))), (q2, .inl (ct 0, 60, .inl (fun _ => 0))), (q3, .inl (ct 0, 60, .inl (fun _ => 0))), (q4, .inl (ct 0, 180, .inl (fun _ => 0))), (q5, .inl (ct 0, 1440, .inl (fun _ => 0))), (q6, .inl (ct 0, 320, .inl (fun _ => 0))), (q7, .inl (ct 1, 3840, .inl (fun _ => 0))), (q8, .inl (ct 0, 6, .inl (fun _ => 0))), (q9, .inl (ct 0, 6, .inl (fun _ => 0))), (q10, .inl (ct 0, 24, .inl (fun _ => 0))), (q11, .inl (ct 3, 24, .inl (fun _ => 0))), (q12, .inl (ct 3, 24, .inl (fun _ => 0))), (q13, .inl (ct 1, 960, .inl (fun _ => 0))), (q14, .inl (ct 0, 80, .inl (fun _ => 0))), (q15, .inl (ct 0, 20, .inl (fun _ => 0))), (q16, .inl (ct 0, 20, .inl (fun _ => 0))), (q17, .inl (ct 0, 20, .inl (fun _ => 0))), (q18, .inl (ct 0, 20, .inl (fun _ => 0))), (q19, .inl (ct 0, 320, .inl (fun _ => 0))), (q20, .inl (ct 0, 320, .inl (fun _ => 0))), (q21, .inl (ct 0, 320, .inl (fun _ => 0))), (q22, .inl (ct 0, 320, .inl (fun _ => 0))), (q23, .inl (ct 0, 320, .inl (fun _ => 0))), (q24, .inl (ct 0, 320, .inl (fun _ => 0))), (q25, .inl (ct 0, 3200, .inl (fun _ => 0))), (q26, .inl (ct 0, 3200, .inl (fun _ => 0))), (q27, .inl (ct 0, 200, .inl (fun _ => 0)))] : va_W)) B rfl
  refine at_pc (n := 235) rfl ?_
  refine lv_aload_n E.1.1 E.1.2.1 dX12_init_235 rfl (lv_at hl 0 rfl) ?_
  refine lv_sipush (v := 200) E.1.1 E.1.2.1 dX12_init_236 (by decide) ?_
  refine row_newa (atype := .int) (a0 := (200, .inl (fun _ => 0))) E B w_e8e14353 rfl 0 rfl (fun _ => rfl) (by decide) (by decide) (Nat.le_of_ble_eq_true rfl) (Nat.le_of_ble_eq_true rfl) (Nat.le_of_ble_eq_true rfl) dX12_init_239 ?_
  clear B
  intro q28 H B
  refine at_n (n := 241) (k1 := 28) (k2 := 16024) rfl rfl rfl ?_
  refine row_putF E B iX12 rfl tyX12 tyX12_ok nmX12 45 (by decide) w_50dc7823 rfl hnm rfl (ws.length + 0) ((at_pp _ _ _ _).trans rfl) rfl rfl (Nat.le_of_ble_eq_true rfl) dX12_init_241 ?_
  clear B
  intro H locs B
  replace B := Hp.to B (set_pp ..)
  replace B := Hp.to (ws' := ws ++ ([(h, .inr (12, [.ref q1, .int 0, .int 0, .int 0, .int 0, .int 0, .int 0, .int 0, .int 0, .int 0, .ref q2, .ref q3, .ref q4, .ref q5, .ref q6, .ref q7, .ref q8, .ref q9, .ref q10, .ref q11, .ref q12, .ref q13, .ref q14, .ref q15, .ref q16, .ref q17, .ref q18, .ref q19, .ref q20, .ref q21, .ref q22, .ref q23, .ref q24, .ref q25, .ref q26, .int 0, .int 0, .int 0, .int 0, .int 0, .int 0, .int 0, .int 0, .int 0, .ref q27, .ref q28, .null, .null, .null, .null, .null, .null, .null, .null, .null, .null, .null, .null, .null, .null, .null, .null, .null, .null, .null, .null, .null, .null, .int 0, .null, .null, .null, .int 0, .int 0, .int 0, .int 0, .int 0, .int 0, .int 0, .null, .int 0, .null, .null, .null, .null, .null, .null, .null, .null, .int 0, .null, .int 0, .int 0, .null, .null, .null])), (q1, .inl (ct 1, 200, .inl (fun _ => 0))), (q2, .inl (ct 0, 60, .inl (fun _ => 0))), (q3, .inl (ct 0, 60, .inl (fun _ => 0))), (q4, .inl (ct 0, 180, .inl (fun _ => 0))), (q5, .inl (ct 0, 1440, .inl (fun _ => 0))), (q6, .inl (ct 0, 320, .inl (fun _ => 0))), (q7, .inl (ct 1, 3840, .inl (fun _ => 0))), (q8, .inl (ct 0, 6, .inl (fun _ => 0))), (q9, .inl (ct 0, 6, .inl (fun _ => 0))), (q10, .inl (ct 0, 24, .inl (fun _ => 0))), (q11, .inl (ct 3, 24, .inl (fun _ => 0))), (q12, .inl (ct 3, 24, .inl (fun _ => 0))), (q13, .inl (ct 1, 960, .inl (fun _ => 0))), (q14, .inl (ct 0, 80, .inl (fun _ => 0))), (q15, .inl (ct 0, 20, .inl (fun _ => 0))), (q16, .inl (ct 0, 20, .inl (fun _ => 0))), (q17, .inl (ct 0, 20, .inl (fun _ => 0))), (q18, .inl (ct 0, 20, .inl (fun _ => 0))), (q19, .inl (ct 0, 320, .inl (fun _ => 0))), (q20, .inl (ct 0, 320, .inl (fun _ => 0))), (q21, .inl (ct 0, 320, .inl (fun _ => 0))), (q22, .inl (ct 0, 320, .inl (fun _ => 0))), (q23, .inl (ct 0, 320, .inl (fun _ => 0))), (q24, .inl (ct 0, 320, .inl (fun _ => 0))), (q25, .inl (ct 0, 3200, .inl (fun _ => 0))), (q26, .inl (ct 0, 3200, .inl (fun _ => 0))), (q27, .inl (ct 0, 200, .inl (fun _ => 0))), (q28, .inl (ct 0, 200, .inl (fun _ => 0)))] : va_W)) B rfl
  refine at_pc (n := 244) rfl ?_
  refine lv_aload_n E.1.1 E.1.2.1 dX12_init_244 rfl (lv_at hl 0 rfl) ?_
  refine lv_sipush (v := 200) E.1.1 E.1.2.1 dX12_init_245 (by decide) ?_
  refine row_newa (atype := .boolean) (a0 := (200, .inl (fun _ => 0))) E B w_7d01f517 rfl 3 rfl (fun _ => rfl) (by decide) (by decide) (Nat.le_of_ble_eq_true rfl) (Nat.le_of_ble_eq_true rfl) (Nat.le_of_ble_eq_true rfl) dX12_init_248 ?_
  clear B
  intro q29 H B
  refine at_n (n := 250) (k1 := 29) (k2 := 16224) rfl rfl rfl ?_
  refine row_putF E B iX12 rfl tyX12 tyX12_ok nmX12 46 (by decide) w_2968f610 rfl hnm rfl (ws.length + 0) ((at_pp _ _ _ _).trans rfl) rfl rfl (Nat.le_of_ble_eq_true rfl) dX12_init_250 ?_
  clear B
  intro H locs B
  replace B := Hp.to B (set_pp ..)
  replace B := Hp.to (ws' := ws ++ ([(h, .inr (12, [.ref q1, .int 0, .int 0, .int 0, .int 0, .int 0, .int 0, .int 0, .int 0, .int 0, .ref q2, .ref q3, .ref q4, .ref q5, .ref q6, .ref q7, .ref q8, .ref q9, .ref q10, .ref q11, .ref q12, .ref q13, .ref q14, .ref q15, .ref q16, .ref q17, .ref q18, .ref q19, .ref q20, .ref q21, .ref q22, .ref q23, .ref q24, .ref q25, .ref q26, .int 0, .int 0, .int 0, .int 0, .int 0, .int 0, .int 0, .int 0, .int 0, .ref q27, .ref q28, .ref q29, .null, .null, .null, .null, .null, .null, .null, .null, .null, .null, .null, .null, .null, .null, .null, .null, .null, .null, .null, .null, .null, .int 0, .null, .null, .null, .int 0, .int 0, .int 0, .int 0, .int 0, .int 0, .int 0, .null, .int 0, .null, .null, .null, .null, .null, .null, .null, .null, .int 0, .null, .int 0, .int 0, .null, .null, .null])), (q1, .inl (ct 1, 200, .inl (fun _ => 0))), (q2, .inl (ct 0, 60, .inl (fun _ => 0))), (q3, .inl (ct 0, 60, .inl (fun _ => 0))), (q4, .inl (ct 0, 180, .inl (fun _ => 0))), (q5, .inl (ct 0, 1440, .inl (fun _ => 0))), (q6, .inl (ct 0, 320, .inl (fun _ => 0))), (q7, .inl (ct 1, 3840, .inl (fun _ => 0))), (q8, .inl (ct 0, 6, .inl (fun _ => 0))), (q9, .inl (ct 0, 6, .inl (fun _ => 0))), (q10, .inl (ct 0, 24, .inl (fun _ => 0))), (q11, .inl (ct 3, 24, .inl (fun _ => 0))), (q12, .inl (ct 3, 24, .inl (fun _ => 0))), (q13, .inl (ct 1, 960, .inl (fun _ => 0))), (q14, .inl (ct 0, 80, .inl (fun _ => 0))), (q15, .inl (ct 0, 20, .inl (fun _ => 0))), (q16, .inl (ct 0, 20, .inl (fun _ => 0))), (q17, .inl (ct 0, 20, .inl (fun _ => 0))), (q18, .inl (ct 0, 20, .inl (fun _ => 0))), (q19, .inl (ct 0, 320, .inl (fun _ => 0))), (q20, .inl (ct 0, 320, .inl (fun _ => 0))), (q21, .inl (ct 0, 320, .inl (fun _ => 0))), (q22, .inl (ct 0, 320, .inl (fun _ => 0))), (q23, .inl (ct 0, 320, .inl (fun _ => 0))), (q24, .inl (ct 0, 320, .inl (fun _ => 0))), (q25, .inl (ct 0, 3200, .inl (fun _ => 0))), (q26, .inl (ct 0, 3200, .inl (fun _ => 0))), (q27, .inl (ct 0, 200, .inl (fun _ => 0))), (q28, .inl (ct 0, 200, .inl (fun _ => 0))), (q29, .inl (ct 3, 200, .inl (fun _ => 0)))] : va_W)) B rfl
  refine at_pc (n := 253) rfl ?_
  refine lv_aload_n E.1.1 E.1.2.1 dX12_init_253 rfl (lv_at hl 0 rfl) ?_
  refine lv_bipush (v := 16) E.1.1 E.1.2.1 dX12_init_254 (by decide) ?_
  refine row_newa (atype := .int) (a0 := (16, .inl (fun _ => 0))) E B w_e8e14353 rfl 0 rfl (fun _ => rfl) (by decide) (by decide) (Nat.le_of_ble_eq_true rfl) (Nat.le_of_ble_eq_true rfl) (Nat.le_of_ble_eq_true rfl) dX12_init_256 ?_
  clear B
  intro q30 H B
  refine at_n (n := 258) (k1 := 30) (k2 := 16240) rfl rfl rfl ?_
  refine row_putF E B iX12 rfl tyX12 tyX12_ok nmX12 47 (by decide) w_3c355df5 rfl hnm rfl (ws.length + 0) ((at_pp _ _ _ _).trans rfl) rfl rfl (Nat.le_of_ble_eq_true rfl) dX12_init_258 ?_
  clear B
  intro H locs B
  replace B := Hp.to B (set_pp ..)
  replace B := Hp.to (ws' := ws ++ ([(h, .inr (12, [.ref q1, .int 0, .int 0, .int 0, .int 0, .int 0, .int 0, .int 0, .int 0, .int 0, .ref q2, .ref q3, .ref q4, .ref q5, .ref q6, .ref q7, .ref q8, .ref q9, .ref q10, .ref q11, .ref q12, .ref q13, .ref q14, .ref q15, .ref q16, .ref q17, .ref q18, .ref q19, .ref q20, .ref q21, .ref q22, .ref q23, .ref q24, .ref q25, .ref q26, .int 0, .int 0, .int 0, .int 0, .int 0, .int 0, .int 0, .int 0, .int 0, .ref q27, .ref q28, .ref q29, .ref q30, .null, .null, .null, .null, .null, .null, .null, .null, .null, .null, .null, .null, .null, .null, .null, .null, .null, .null, .null, .null, .int 0, .null, .null, .null, .int 0, .int 0, .int 0, .int 0, .int 0, .int 0, .int 0, .null, .int 0, .null, .null, .null, .null, .null, .null, .null, .null, .int 0, .null, .int 0, .int 0, .null, .null, .null])), (q1, .inl (ct 1, 200, .inl (fun _ => 0))), (q2, .inl (ct 0, 60, .inl (fun _ => 0))), (q3, .inl (ct 0, 60, .inl (fun _ => 0))), (q4, .inl (ct 0, 180, .inl (fun _ => 0))), (q5, .inl (ct 0, 1440, .inl (fun _ => 0))), (q6, .inl (ct 0, 320, .inl (fun _ => 0))), (q7, .inl (ct 1, 3840, .inl (fun _ => 0))), (q8, .inl (ct 0, 6, .inl (fun _ => 0))), (q9, .inl (ct 0, 6, .inl (fun _ => 0))), (q10, .inl (ct 0, 24, .inl (fun _ => 0))), (q11, .inl (ct 3, 24, .inl (fun _ => 0))), (q12, .inl (ct 3, 24, .inl (fun _ => 0))), (q13, .inl (ct 1, 960, .inl (fun _ => 0))), (q14, .inl (ct 0, 80, .inl (fun _ => 0))), (q15, .inl (ct 0, 20, .inl (fun _ => 0))), (q16, .inl (ct 0, 20, .inl (fun _ => 0))), (q17, .inl (ct 0, 20, .inl (fun _ => 0))), (q18, .inl (ct 0, 20, .inl (fun _ => 0))), (q19, .inl (ct 0, 320, .inl (fun _ => 0))), (q20, .inl (ct 0, 320, .inl (fun _ => 0))), (q21, .inl (ct 0, 320, .inl (fun _ => 0))), (q22, .inl (ct 0, 320, .inl (fun _ => 0))), (q23, .inl (ct 0, 320, .inl (fun _ => 0))), (q24, .inl (ct 0, 320, .inl (fun _ => 0))), (q25, .inl (ct 0, 3200, .inl (fun _ => 0))), (q26, .inl (ct 0, 3200, .inl (fun _ => 0))), (q27, .inl (ct 0, 200, .inl (fun _ => 0))), (q28, .inl (ct 0, 200, .inl (fun _ => 0))), (q29, .inl (ct 3, 200, .inl (fun _ => 0))), (q30, .inl (ct 0, 16, .inl (fun _ => 0)))] : va_W)) B rfl
  refine at_pc (n := 261) rfl ?_
  refine lv_aload_n E.1.1 E.1.2.1 dX12_init_261 rfl (lv_at hl 0 rfl) ?_
  refine lv_bipush (v := 16) E.1.1 E.1.2.1 dX12_init_262 (by decide) ?_
  refine row_newa (atype := .int) (a0 := (16, .inl (fun _ => 0))) E B w_e8e14353 rfl 0 rfl (fun _ => rfl) (by decide) (by decide) (Nat.le_of_ble_eq_true rfl) (Nat.le_of_ble_eq_true rfl) (Nat.le_of_ble_eq_true rfl) dX12_init_264 ?_
  clear B
  intro q31 H B
  refine at_n (n := 266) (k1 := 31) (k2 := 16256) rfl rfl rfl ?_
  refine row_putF E B iX12 rfl tyX12 tyX12_ok nmX12 48 (by decide) w_1e1561fa rfl hnm rfl (ws.length + 0) ((at_pp _ _ _ _).trans rfl) rfl rfl (Nat.le_of_ble_eq_true rfl) dX12_init_266 ?_
  clear B
  intro H locs B
  replace B := Hp.to B (set_pp ..)
  replace B := Hp.to (ws' := ws ++ ([(h, .inr (12, [.ref q1, .int 0, .int 0, .int 0, .int 0, .int 0, .int 0, .int 0, .int 0, .int 0, .ref q2, .ref q3, .ref q4, .ref q5, .ref q6, .ref q7, .ref q8, .ref q9, .ref q10, .ref q11, .ref q12, .ref q13, .ref q14, .ref q15, .ref q16, .ref q17, .ref q18, .ref q19, .ref q20, .ref q21, .ref q22, .ref q23, .ref q24, .ref q25, .ref q26, .int 0, .int 0, .int 0, .int 0, .int 0, .int 0, .int 0, .int 0, .int 0, .ref q27, .ref q28, .ref q29, .ref q30, .ref q31, .null, .null, .null, .null, .null, .null, .null, .null, .null, .null, .null, .null, .null, .null, .null, .null, .null, .null, .null, .int 0, .null, .null, .null, .int 0, .int 0, .int 0, .int 0, .int 0, .int 0, .int 0, .null, .int 0, .null, .null, .null, .null, .null, .null, .null, .null, .int 0, .null, .int 0, .int 0, .null, .null, .null])), (q1, .inl (ct 1, 200, .inl (fun _ => 0))), (q2, .inl (ct 0, 60, .inl (fun _ => 0))), (q3, .inl (ct 0, 60, .inl (fun _ => 0))), (q4, .inl (ct 0, 180, .inl (fun _ => 0))), (q5, .inl (ct 0, 1440, .inl (fun _ => 0))), (q6, .inl (ct 0, 320, .inl (fun _ => 0))), (q7, .inl (ct 1, 3840, .inl (fun _ => 0))), (q8, .inl (ct 0, 6, .inl (fun _ => 0))), (q9, .inl (ct 0, 6, .inl (fun _ => 0))), (q10, .inl (ct 0, 24, .inl (fun _ => 0))), (q11, .inl (ct 3, 24, .inl (fun _ => 0))), (q12, .inl (ct 3, 24, .inl (fun _ => 0))), (q13, .inl (ct 1, 960, .inl (fun _ => 0))), (q14, .inl (ct 0, 80, .inl (fun _ => 0))), (q15, .inl (ct 0, 20, .inl (fun _ => 0))), (q16, .inl (ct 0, 20, .inl (fun _ => 0))), (q17, .inl (ct 0, 20, .inl (fun _ => 0))), (q18, .inl (ct 0, 20, .inl (fun _ => 0))), (q19, .inl (ct 0, 320, .inl (fun _ => 0))), (q20, .inl (ct 0, 320, .inl (fun _ => 0))), (q21, .inl (ct 0, 320, .inl (fun _ => 0))), (q22, .inl (ct 0, 320, .inl (fun _ => 0))), (q23, .inl (ct 0, 320, .inl (fun _ => 0))), (q24, .inl (ct 0, 320, .inl (fun _ => 0))), (q25, .inl (ct 0, 3200, .inl (fun _ => 0))), (q26, .inl (ct 0, 3200, .inl (fun _ => 0))), (q27, .inl (ct 0, 200, .inl (fun _ => 0))), (q28, .inl (ct 0, 200, .inl (fun _ => 0))), (q29, .inl (ct 3, 200, .inl (fun _ => 0))), (q30, .inl (ct 0, 16, .inl (fun _ => 0))), (q31, .inl (ct 0, 16, .inl (fun _ => 0)))] : va_W)) B rfl
  refine at_pc (n := 269) rfl ?_
  refine lv_aload_n E.1.1 E.1.2.1 dX12_init_269 rfl (lv_at hl 0 rfl) ?_
  refine lv_sipush (v := 400) E.1.1 E.1.2.1 dX12_init_270 (by decide) ?_
  refine row_newa (atype := .int) (a0 := (400, .inl (fun _ => 0))) E B w_e8e14353 rfl 0 rfl (fun _ => rfl) (by decide) (by decide) (Nat.le_of_ble_eq_true rfl) (Nat.le_of_ble_eq_true rfl) (Nat.le_of_ble_eq_true rfl) dX12_init_273 ?_
  clear B
  intro q32 H B
  refine at_n (n := 275) (k1 := 32) (k2 := 16656) rfl rfl rfl ?_
  refine row_putF E B iX12 rfl tyX12 tyX12_ok nmX12 49 (by decide) w_96a3ff5c rfl hnm rfl (ws.length + 0) ((at_pp _ _ _ _).trans rfl) rfl rfl (Nat.le_of_ble_eq_true rfl) dX12_init_275 ?_
  clear B
  intro H locs B
  replace B := Hp.to B (set_pp ..)
  replace B := Hp.to (ws' := ws ++ ([(h, .inr (12, [.ref q1, .int 0, .int 0, .int 0, .int 0, .int 0, .int 0, .int 0, .int 0, .int 0, .ref q2, .ref q3, .ref q4, .ref q5, .ref q6, .ref q7, .ref q8, .ref q9, .ref q10, .ref q11, .ref q12, .ref q13, .ref q14, .ref q15, .ref q16, .ref q17, .ref q18, .ref q19, .ref q20, .ref q21, .ref q22, .ref q23, .ref q24, .ref q25, .ref q26, .int 0, .int 0, .int 0, .int 0, .int 0, .int 0, .int 0, .int 0, .int 0, .ref q27, .ref q28, .ref q29, .ref q30, .ref q31, .ref q32, .null, .null, .null, .null, .null, .null, .null, .null, .null, .null, .null, .null, .null, .null, .null, .null, .null, .null, .int 0, .null, .null, .null, .int 0, .int 0, .int 0, .int 0, .int 0, .int 0, .int 0, .null, .int 0, .null, .null, .null, .null, .null, .null, .null, .null, .int 0, .null, .int 0, .int 0, .null, .null, .null])), (q1, .inl (ct 1, 200, .inl (fun _ => 0))), (q2, .inl (ct 0, 60, .inl (fun _ => 0))), (q3, .inl (ct 0, 60, .inl (fun _ => 0))), (q4, .inl (ct 0, 180, .inl (fun _ => 0))), (q5, .inl (ct 0, 1440, .inl (fun _ => 0))), (q6, .inl (ct 0, 320, .inl (fun _ => 0))), (q7, .inl (ct 1, 3840, .inl (fun _ => 0))), (q8, .inl (ct 0, 6, .inl (fun _ => 0))), (q9, .inl (ct 0, 6, .inl (fun _ => 0))), (q10, .inl (ct 0, 24, .inl (fun _ => 0))), (q11, .inl (ct 3, 24, .inl (fun _ => 0))), (q12, .inl (ct 3, 24, .inl (fun _ => 0))), (q13, .inl (ct 1, 960, .inl (fun _ => 0))), (q14, .inl (ct 0, 80, .inl (fun _ => 0))), (q15, .inl (ct 0, 20, .inl (fun _ => 0))), (q16, .inl (ct 0, 20, .inl (fun _ => 0))), (q17, .inl (ct 0, 20, .inl (fun _ => 0))), (q18, .inl (ct 0, 20, .inl (fun _ => 0))), (q19, .inl (ct 0, 320, .inl (fun _ => 0))), (q20, .inl (ct 0, 320, .inl (fun _ => 0))), (q21, .inl (ct 0, 320, .inl (fun _ => 0))), (q22, .inl (ct 0, 320, .inl (fun _ => 0))), (q23, .inl (ct 0, 320, .inl (fun _ => 0))), (q24, .inl (ct 0, 320, .inl (fun _ => 0))), (q25, .inl (ct 0, 3200, .inl (fun _ => 0))), (q26, .inl (ct 0, 3200, .inl (fun _ => 0))), (q27, .inl (ct 0, 200, .inl (fun _ => 0))), (q28, .inl (ct 0, 200, .inl (fun _ => 0))), (q29, .inl (ct 3, 200, .inl (fun _ => 0))), (q30, .inl (ct 0, 16, .inl (fun _ => 0))), (q31, .inl (ct 0, 16, .inl (fun _ => 0))), (q32, .inl (ct 0, 400, .inl (fun _ => 0)))] : va_W)) B rfl
  refine at_pc (n := 278) rfl ?_
  refine lv_aload_n E.1.1 E.1.2.1 dX12_init_278 rfl (lv_at hl 0 rfl) ?_
  refine lv_sipush (v := 200) E.1.1 E.1.2.1 dX12_init_279 (by decide) ?_
  refine row_newa (atype := .int) (a0 := (200, .inl (fun _ => 0))) E B w_e8e14353 rfl 0 rfl (fun _ => rfl) (by decide) (by decide) (Nat.le_of_ble_eq_true rfl) (Nat.le_of_ble_eq_true rfl) (Nat.le_of_ble_eq_true rfl) dX12_init_282 ?_
  clear B
  intro q33 H B
  refine at_n (n := 284) (k1 := 33) (k2 := 16856) rfl rfl rfl ?_
  refine row_putF E B iX12 rfl tyX12 tyX12_ok nmX12 50 (by decide) w_b16771e9 rfl hnm rfl (ws.length + 0) ((at_pp _ _ _ _).trans rfl) rfl rfl (Nat.le_of_ble_eq_true rfl) dX12_init_284 ?_
  clear B
  intro H locs B
  replace B := Hp.to B (set_pp ..)
  replace B := Hp.to (ws' := ws ++ ([(h, .inr (12, [.ref q1, .int 0, .int 0, .int 0, .int 0, .int 0, .int 0, .int 0, .int 0, .int 0, .ref q2, .ref q3, .ref q4, .ref q5, .ref q6, .ref q7, .ref q8, .ref q9, .ref q10, .ref q11, .ref q12, .ref q13, .ref q14, .ref q15, .ref q16, .ref q17, .ref q18, .ref q19, .ref q20, .ref q21, .ref q22, .ref q23, .ref q24, .ref q25, .ref q26, .int 0, .int 0, .int 0, .int 0, .int 0, .int 0, .int 0, .int 0, .int 0, .ref q27, .ref q28, .ref q29, .ref q30, .ref q31, .ref q32, .ref q33, .null, .null, .null, .null, .null, .null, .null, .null, .null, .null, .null, .null, .null, .null, .null, .null, .null, .int 0, .null, .null, .null, .int 0, .int 0, .int 0, .int 0, .int 0, .int 0, .int 0, .null, .int 0, .null, .null, .null, .null, .null, .null, .null, .null, .int 0, .null, .int 0, .int 0, .null, .null, .null])), (q1, .inl (ct 1, 200, .inl (fun _ => 0))), (q2, .inl (ct 0, 60, .inl (fun _ => 0))), (q3, .inl (ct 0, 60, .inl (fun _ => 0))), (q4, .inl (ct 0, 180, .inl (fun _ => 0))), (q5, .inl (ct 0, 1440, .inl (fun _ => 0))), (q6, .inl (ct 0, 320, .inl (fun _ => 0))), (q7, .inl (ct 1, 3840, .inl (fun _ => 0))), (q8, .inl (ct 0, 6, .inl (fun _ => 0))), (q9, .inl (ct 0, 6, .inl (fun _ => 0))), (q10, .inl (ct 0, 24, .inl (fun _ => 0))), (q11, .inl (ct 3, 24, .inl (fun _ => 0))), (q12, .inl (ct 3, 24, .inl (fun _ => 0))), (q13, .inl (ct 1, 960, .inl (fun _ => 0))), (q14, .inl (ct 0, 80, .inl (fun _ => 0))), (q15, .inl (ct 0, 20, .inl (fun _ => 0))), (q16, .inl (ct 0, 20, .inl (fun _ => 0))), (q17, .inl (ct 0, 20, .inl (fun _ => 0))), (q18, .inl (ct 0, 20, .inl (fun _ => 0))), (q19, .inl (ct 0, 320, .inl (fun _ => 0))), (q20, .inl (ct 0, 320, .inl (fun _ => 0))), (q21, .inl (ct 0, 320, .inl (fun _ => 0))), (q22, .inl (ct 0, 320, .inl (fun _ => 0))), (q23, .inl (ct 0, 320, .inl (fun _ => 0))), (q24, .inl (ct 0, 320, .inl (fun _ => 0))), (q25, .inl (ct 0, 3200, .inl (fun _ => 0))), (q26, .inl (ct 0, 3200, .inl (fun _ => 0))), (q27, .inl (ct 0, 200, .inl (fun _ => 0))), (q28, .inl (ct 0, 200, .inl (fun _ => 0))), (q29, .inl (ct 3, 200, .inl (fun _ => 0))), (q30, .inl (ct 0, 16, .inl (fun _ => 0))), (q31, .inl (ct 0, 16, .inl (fun _ => 0))), (q32, .inl (ct 0, 400, .inl (fun _ => 0))), (q33, .inl (ct 0, 200, .inl (fun _ => 0)))] : va_W)) B rfl
  refine at_pc (n := 287) rfl ?_
  refine lv_aload_n E.1.1 E.1.2.1 dX12_init_287 rfl (lv_at hl 0 rfl) ?_
  refine lv_sipush (v := 200) E.1.1 E.1.2.1 dX12_init_288 (by decide) ?_
  refine row_newa (atype := .int) (a0 := (200, .inl (fun _ => 0))) E B w_e8e14353 rfl 0 rfl (fun _ => rfl) (by decide) (by decide) (Nat.le_of_ble_eq_true rfl) (Nat.le_of_ble_eq_true rfl) (Nat.le_of_ble_eq_true rfl) dX12_init_291 ?_
  clear B
  intro q34 H B
  refine at_n (n := 293) (k1 := 34) (k2 := 17056) rfl rfl rfl ?_
  refine row_putF E B iX12 rfl tyX12 tyX12_ok nmX12 51 (by decide) w_7fa6e778 rfl hnm rfl (ws.length + 0) ((at_pp _ _ _ _).trans rfl) rfl rfl (Nat.le_of_ble_eq_true rfl) dX12_init_293 ?_
  clear B
  intro H locs B
  replace B := Hp.to B (set_pp ..)
  replace B := Hp.to (ws' := ws ++ ([(h, .inr (12, [.ref q1, .int 0, .int 0, .int 0, .int 0, .int 0, .int 0, .int 0, .int 0, .int 0, .ref q2, .ref q3, .ref q4, .ref q5, .ref q6, .ref q7, .ref q8, .ref q9, .ref q10, .ref q11, .ref q12, .ref q13, .ref q14, .ref q15, .ref q16, .ref q17, .ref q18, .ref q19, .ref q20, .ref q21, .ref q22, .ref q23, .ref q24, .ref q25, .ref q26, .int 0, .int 0, .int 0, .int 0, .int 0, .int 0, .int 0, .int 0, .int 0, .ref q27, .ref q28, .ref q29, .ref q30, .ref q31, .ref q32, .ref q33, .ref q34, .null, .null, .null, .null, .null, .null, .null, .null, .null, .null, .null, .null, .null, .null, .null, .null, .int 0, .null, .null, .null, .int 0, .int 0, .int 0, .int 0, .int 0, .int 0, .int 0, .null, .int 0, .null, .null, .null, .null, .null, .null, .null, .null, .int 0, .null, .int 0, .int 0, .null, .null, .null])), (q1, .inl (ct 1, 200, .inl (fun _ => 0))), (q2, .inl (ct 0, 60, .inl (fun _ => 0))), (q3, .inl (ct 0, 60, .inl (fun _ => 0))), (q4, .inl (ct 0, 180, .inl (fun _ => 0))), (q5, .inl (ct 0, 1440, .inl (fun _ => 0))), (q6, .inl (ct 0, 320, .inl (fun _ => 0))), (q7, .inl (ct 1, 3840, .inl (fun _ => 0))), (q8, .inl (ct 0, 6, .inl (fun _ => 0))), (q9, .inl (ct 0, 6, .inl (fun _ => 0))), (q10, .inl (ct 0, 24, .inl (fun _ => 0))), (q11, .inl (ct 3, 24, .inl (fun _ => 0))), (q12, .inl (ct 3, 24, .inl (fun _ => 0))), (q13, .inl (ct 1, 960, .inl (fun _ => 0))), (q14, .inl (ct 0, 80, .inl (fun _ => 0))), (q15, .inl (ct 0, 20, .inl (fun _ => 0))), (q16, .inl (ct 0, 20, .inl (fun _ => 0))), (q17, .inl (ct 0, 20, .inl (fun _ => 0))), (q18, .inl (ct 0, 20, .inl (fun _ => 0))), (q19, .inl (ct 0, 320, .inl (fun _ => 0))), (q20, .inl (ct 0, 320, .inl (fun _ => 0))), (q21, .inl (ct 0, 320, .inl (fun _ => 0))), (q22, .inl (ct 0, 320, .inl (fun _ => 0))), (q23, .inl (ct 0, 320, .inl (fun _ => 0))), (q24, .inl (ct 0, 320, .inl (fun _ => 0))), (q25, .inl (ct 0, 3200, .inl (fun _ => 0))), (q26, .inl (ct 0, 3200, .inl (fun _ => 0))), (q27, .inl (ct 0, 200, .inl (fun _ => 0))), (q28, .inl (ct 0, 200, .inl (fun _ => 0))), (q29, .inl (ct 3, 200, .inl (fun _ => 0))), (q30, .inl (ct 0, 16, .inl (fun _ => 0))), (q31, .inl (ct 0, 16, .inl (fun _ => 0))), (q32, .inl (ct 0, 400, .inl (fun _ => 0))), (q33, .inl (ct 0, 200, .inl (fun _ => 0))), (q34, .inl (ct 0, 200, .inl (fun _ => 0)))] : va_W)) B rfl
  refine at_pc (n := 296) rfl ?_
  refine lv_aload_n E.1.1 E.1.2.1 dX12_init_296 rfl (lv_at hl 0 rfl) ?_
  refine lv_sipush (v := 200) E.1.1 E.1.2.1 dX12_init_297 (by decide) ?_
  refine row_newa (atype := .int) (a0 := (200, .inl (fun _ => 0))) E B w_e8e14353 rfl 0 rfl (fun _ => rfl) (by decide) (by decide) (Nat.le_of_ble_eq_true rfl) (Nat.le_of_ble_eq_true rfl) (Nat.le_of_ble_eq_true rfl) dX12_init_300 ?_
  clear B
  intro q35 H B
  refine at_n (n := 302) (k1 := 35) (k2 := 17256) rfl rfl rfl ?_
  refine row_putF E B iX12 rfl tyX12 tyX12_ok nmX12 52 (by decide) w_845d3a25 rfl hnm rfl (ws.length + 0) ((at_pp _ _ _ _).trans rfl) rfl rfl (Nat.le_of_ble_eq_true rfl) dX12_init_302 ?_
  clear B
  intro H locs B
  replace B := Hp.to B (set_pp ..)
  replace B := Hp.to (ws' := ws ++ ([(h, .inr (12, [.ref q1, .int 0, .int 0, .int 0, .int 0, .int 0, .int 0, .int 0, .int 0, .int 0, .ref q2, .ref q3, .ref q4, .ref q5, .ref q6, .ref q7, .ref q8, .ref q9, .ref q10, .ref q11, .ref q12, .ref q13, .ref q14, .ref q15, .ref q16, .ref q17, .ref q18, .ref q19, .ref q20, .ref q21, .ref q22, .ref q23, .ref q24, .ref q25, .ref q26, .int 0, .int 0, .int 0, .int 0, .int 0, .int 0, .int 0, .int 0, .int 0, .ref q27, .ref q28, .ref q29, .ref q30, .ref q31, .ref q32, .ref q33, .ref q34, .ref q35, .null, .null, .null, .null, .null, .null, .null, .null, .null, .null, .null, .null, .null, .null, .null, .int 0, .null, .null, .null, .int 0, .int 0, .int 0, .int 0, .int 0, .int 0, .int 0, .null, .int 0, .null, .null, .null, .null, .null, .null, .null, .null, .int 0, .null, .int 0, .int 0, .null, .null, .null])), (q1, .inl (ct 1, 200, .inl (fun _ => 0))), (q2, .inl (ct 0, 60, .inl (fun _ => 0))), (q3, .inl (ct 0, 60, .inl (fun _ => 0))), (q4, .inl (ct 0, 180, .inl (fun _ => 0))), (q5, .inl (ct 0, 1440, .inl (fun _ => 0))), (q6, .inl (ct 0, 320, .inl (fun _ => 0))), (q7, .inl (ct 1, 3840, .inl (fun _ => 0))), (q8, .inl (ct 0, 6, .inl (fun _ => 0))), (q9, .inl (ct 0, 6, .inl (fun _ => 0))), (q10, .inl (ct 0, 24, .inl (fun _ => 0))), (q11, .inl (ct 3, 24, .inl (fun _ => 0))), (q12, .inl (ct 3, 24, .inl (fun _ => 0))), (q13, .inl (ct 1, 960, .inl (fun _ => 0))), (q14, .inl (ct 0, 80, .inl (fun _ => 0))), (q15, .inl (ct 0, 20, .inl (fun _ => 0))), (q16, .inl (ct 0, 20, .inl (fun _ => 0))), (q17, .inl (ct 0, 20, .inl (fun _ => 0))), (q18, .inl (ct 0, 20, .inl (fun _ => 0))), (q19, .inl (ct 0, 320, .inl (fun _ => 0))), (q20, .inl (ct 0, 320, .inl (fun _ => 0))), (q21, .inl (ct 0, 320, .inl (fun _ => 0))), (q22, .inl (ct 0, 320, .inl (fun _ => 0))), (q23, .inl (ct 0, 320, .inl (fun _ => 0))), (q24, .inl (ct 0, 320, .inl (fun _ => 0))), (q25, .inl (ct 0, 3200, .inl (fun _ => 0))), (q26, .inl (ct 0, 3200, .inl (fun _ => 0))), (q27, .inl (ct 0, 200, .inl (fun _ => 0))), (q28, .inl (ct 0, 200, .inl (fun _ => 0))), (q29, .inl (ct 3, 200, .inl (fun _ => 0))), (q30, .inl (ct 0, 16, .inl (fun _ => 0))), (q31, .inl (ct 0, 16, .inl (fun _ => 0))), (q32, .inl (ct 0, 400, .inl (fun _ => 0))), (q33, .inl (ct 0, 200, .inl (fun _ => 0))), (q34, .inl (ct 0, 200, .inl (fun _ => 0))), (q35, .inl (ct 0, 200, .inl (fun _ => 0)))] : va_W)) B rfl
  refine at_pc (n := 305) rfl ?_
  refine lv_aload_n E.1.1 E.1.2.1 dX12_init_305 rfl (lv_at hl 0 rfl) ?_
  refine lv_sipush (v := 200) E.1.1 E.1.2.1 dX12_init_306 (by decide) ?_
  refine row_newa (atype := .int) (a0 := (200, .inl (fun _ => 0))) E B w_e8e14353 rfl 0 rfl (fun _ => rfl) (by decide) (by decide) (Nat.le_of_ble_eq_true rfl) (Nat.le_of_ble_eq_true rfl) (Nat.le_of_ble_eq_true rfl) dX12_init_309 ?_
  clear B
  intro q36 H B
  refine at_n (n := 311) (k1 := 36) (k2 := 17456) rfl rfl rfl ?_
  refine row_putF E B iX12 rfl tyX12 tyX12_ok nmX12 53 (by decide) w_49e7fee7 rfl hnm rfl (ws.length + 0) ((at_pp _ _ _ _).trans rfl) rfl rfl (Nat.le_of_ble_eq_true rfl) dX12_init_311 ?_
  clear B
  intro H locs B
  replace B := Hp.to B (set_pp ..)
  replace B := Hp.to (ws' := ws ++ ([(h, .inr (12, [.ref q1, .int 0, .int 0, .int 0, .int 0, .int 0, .int 0, .int 0, .int 0, .int 0, .ref q2, .ref q3, .ref q4, .ref q5, .ref q6, .ref q7, .ref q8, .ref q9, .ref q10, .ref q11, .ref q12, .ref q13, .ref q14, .ref q15, .ref q16, .ref q17, .ref q18, .ref q19, .ref q20, .ref q21, .ref q22, .ref q23, .ref q24, .ref q25, .ref q26, .int 0, .int 0, .int 0, .int 0, .int 0, .int 0, .int 0, .int 0, .int 0, .ref q27, .ref q28, .ref q29, .ref q30, .ref q31, .ref q32, .ref q33, .ref q34, .ref q35, .ref q36, .null, .null, .null, .null, .null, .null, .null, .null, .null, .null, .null, .null, .null, .null, .int 0, .null, .null, .null, .int 0, .int 0, .int 0, .int 0, .int 0, .int 0, .int 0, .null, .int 0, .null, .null, .null, .null, .null, .null, .null, .null, .int 0, .null, .int 0, .int 0, .null, .null, .null])), (q1, .inl (ct 1, 200, .inl (fun _ => 0))), (q2, .inl (ct 0, 60, .inl (fun _ => 0))), (q3, .inl (ct 0, 60, .inl (fun _ => 0))), (q4, .inl (ct 0, 180, .inl (fun _ => 0))), (q5, .inl (ct 0, 1440, .inl (fun _ => 0))), (q6, .inl (ct 0, 320, .inl (fun _ => 0))), (q7, .inl (ct 1, 3840, .inl (fun _ => 0))), (q8, .inl (ct 0, 6, .inl (fun _ => 0))), (q9, .inl (ct 0, 6, .inl (fun _ => 0))), (q10, .inl (ct 0, 24, .inl (fun _ => 0))), (q11, .inl (ct 3, 24, .inl (fun _ => 0))), (q12, .inl (ct 3, 24, .inl (fun _ => 0))), (q13, .inl (ct 1, 960, .inl (fun _ => 0))), (q14, .inl (ct 0, 80, .inl (fun _ => 0))), (q15, .inl (ct 0, 20, .inl (fun _ => 0))), (q16, .inl (ct 0, 20, .inl (fun _ => 0))), (q17, .inl (ct 0, 20, .inl (fun _ => 0))), (q18, .inl (ct 0, 20, .inl (fun _ => 0))), (q19, .inl (ct 0, 320, .inl (fun _ => 0))), (q20, .inl (ct 0, 320, .inl (fun _ => 0))), (q21, .inl (ct 0, 320, .inl (fun _ => 0))), (q22, .inl (ct 0, 320, .inl (fun _ => 0))), (q23, .inl (ct 0, 320, .inl (fun _ => 0))), (q24, .inl (ct 0, 320, .inl (fun _ => 0))), (q25, .inl (ct 0, 3200, .inl (fun _ => 0))), (q26, .inl (ct 0, 3200, .inl (fun _ => 0))), (q27, .inl (ct 0, 200, .inl (fun _ => 0))), (q28, .inl (ct 0, 200, .inl (fun _ => 0))), (q29, .inl (ct 3, 200, .inl (fun _ => 0))), (q30, .inl (ct 0, 16, .inl (fun _ => 0))), (q31, .inl (ct 0, 16, .inl (fun _ => 0))), (q32, .inl (ct 0, 400, .inl (fun _ => 0))), (q33, .inl (ct 0, 200, .inl (fun _ => 0))), (q34, .inl (ct 0, 200, .inl (fun _ => 0))), (q35, .inl (ct 0, 200, .inl (fun _ => 0))), (q36, .inl (ct 0, 200, .inl (fun _ => 0)))] : va_W)) B rfl
  refine at_pc (n := 314) rfl ?_
  refine lv_aload_n E.1.1 E.1.2.1 dX12_init_314 rfl (lv_at hl 0 rfl) ?_
  refine lv_sipush (v := 200) E.1.1 E.1.2.1 dX12_init_315 (by decide) ?_
  refine row_newa (atype := .int) (a0 := (200, .inl (fun _ => 0))) E B w_e8e14353 rfl 0 rfl (fun _ => rfl) (by decide) (by decide) (Nat.le_of_ble_eq_true rfl) (Nat.le_of_ble_eq_true rfl) (Nat.le_of_ble_eq_true rfl) dX12_init_318 ?_
  clear B
  intro q37 H B
  refine at_n (n := 320) (k1 := 37) (k2 := 17656) rfl rfl rfl ?_
  refine row_putF E B iX12 rfl tyX12 tyX12_ok nmX12 54 (by decide) w_7da9afc7 rfl hnm rfl (ws.length + 0) ((at_pp _ _ _ _).trans rfl) rfl rfl (Nat.le_of_ble_eq_true rfl) dX12_init_320 ?_
  clear B
  intro H locs B
  replace B := Hp.to B (set_pp ..)
  replace B := Hp.to (ws' := ws ++ ([(h, .inr (12, [.ref q1, .int 0, .int 0, .int 0, .int 0, .int 0, .int 0, .int 0, .int 0, .int 0, .ref q2, .ref q3, .ref q4, .ref q5, .ref q6, .ref q7, .ref q8, .ref q9, .ref q10, .ref q11, .ref q12, .ref q13, .ref q14, .ref q15, .ref q16, .ref q17, .ref q18, .ref q19, .ref q20, .ref q21, .ref q22, .ref q23, .ref q24, .ref q25, .ref q26, .int 0, .int 0, .int 0, .int 0, .int 0, .int 0, .int 0, .int 0, .int 0, .ref q27, .ref q28, .ref q29, .ref q30, .ref q31, .ref q32, .ref q33, .ref q34, .ref q35, .ref q36, .ref q37, .null, .null, .null, .null, .null, .null, .null, .null, .null, .null, .null, .null, .null, .int 0, .null, .null, .null, .int 0, .int 0, .int 0, .int 0, .int 0, .int 0, .int 0, .null, .int 0, .null, .null, .null, .null, .null, .null, .null, .null, .int 0, .null, .int 0, .int 0, .null, .null, .null])), (q1, .inl (ct 1, 200, .inl (fun _ => 0))), (q2, .inl (ct 0, 60, .inl (fun _ => 0))), (q3, .inl (ct 0, 60, .inl (fun _ => 0))), (q4, .inl (ct 0, 180, .inl (fun _ => 0))), (q5, .inl (ct 0, 1440, .inl (fun _ => 0))), (q6, .inl (ct 0, 320, .inl (fun _ => 0))), (q7, .inl (ct 1, 3840, .inl (fun _ => 0))), (q8, .inl (ct 0, 6, .inl (fun _ => 0))), (q9, .inl (ct 0, 6, .inl (fun _ => 0))), (q10, .inl (ct 0, 24, .inl (fun _ => 0))), (q11, .inl (ct 3, 24, .inl (fun _ => 0))), (q12, .inl (ct 3, 24, .inl (fun _ => 0))), (q13, .inl (ct 1, 960, .inl (fun _ => 0))), (q14, .inl (ct 0, 80, .inl (fun _ => 0))), (q15, .inl (ct 0, 20, .inl (fun _ => 0))), (q16, .inl (ct 0, 20, .inl (fun _ => 0))), (q17, .inl (ct 0, 20, .inl (fun _ => 0))), (q18, .inl (ct 0, 20, .inl (fun _ => 0))), (q19, .inl (ct 0, 320, .inl (fun _ => 0))), (q20, .inl (ct 0, 320, .inl (fun _ => 0))), (q21, .inl (ct 0, 320, .inl (fun _ => 0))), (q22, .inl (ct 0, 320, .inl (fun _ => 0))), (q23, .inl (ct 0, 320, .inl (fun _ => 0))), (q24, .inl (ct 0, 320, .inl (fun _ => 0))), (q25, .inl (ct 0, 3200, .inl (fun _ => 0))), (q26, .inl (ct 0, 3200, .inl (fun _ => 0))), (q27, .inl (ct 0, 200, .inl (fun _ => 0))), (q28, .inl (ct 0, 200, .inl (fun _ => 0))), (q29, .inl (ct 3, 200, .inl (fun _ => 0))), (q30, .inl (ct 0, 16, .inl (fun _ => 0))), (q31, .inl (ct 0, 16, .inl (fun _ => 0))), (q32, .inl (ct 0, 400, .inl (fun _ => 0))), (q33, .inl (ct 0, 200, .inl (fun _ => 0))), (q34, .inl (ct 0, 200, .inl (fun _ => 0))), (q35, .inl (ct 0, 200, .inl (fun _ => 0))), (q36, .inl (ct 0, 200, .inl (fun _ => 0))), (q37, .inl (ct 0, 200, .inl (fun _ => 0)))] : va_W)) B rfl
  refine at_pc (n := 323) rfl ?_
  refine lv_aload_n E.1.1 E.1.2.1 dX12_init_323 rfl (lv_at hl 0 rfl) ?_
  refine lv_sipush (v := 200) E.1.1 E.1.2.1 dX12_init_324 (by decide) ?_
  refine row_newa (atype := .int) (a0 := (200, .inl (fun _ => 0))) E B w_e8e14353 rfl 0 rfl (fun _ => rfl) (by decide) (by decide) (Nat.le_of_ble_eq_true rfl) (Nat.le_of_ble_eq_true rfl) (Nat.le_of_ble_eq_true rfl) dX12_init_327 ?_
  clear B
  intro q38 H B
  refine at_n (n := 329) (k1 := 38) (k2 := 17856) rfl rfl rfl ?_
  refine row_putF E B iX12 rfl tyX12 tyX12_ok nmX12 55 (by decide) w_891d222c rfl hnm rfl (ws.length + 0) ((at_pp _ _ _ _).trans rfl) rfl rfl (Nat.le_of_ble_eq_true rfl) dX12_init_329 ?_
  clear B
  intro H locs B
  replace B := Hp.to B (set_pp ..)
  replace B := Hp.to (ws' := ws ++ ([(h, .inr (12, [.ref q1, .int 0, .int 0, .int 0, .int 0, .int 0, .int 0, .int 0, .int 0, .int 0, .ref q2, .ref q3, .ref q4, .ref q5, .ref q6, .ref q7, .ref q8, .ref q9, .ref q10, .ref q11, .ref q12, .ref q13, .ref q14, .ref q15, .ref q16, .ref q17, .ref q18, .ref q19, .ref q20, .ref q21, .ref q22, .ref q23, .ref q24, .ref q25, .ref q26, .int 0, .int 0, .int 0, .int 0, .int 0, .int 0, .int 0, .int 0, .int 0, .ref q27, .ref q28, .ref q29, .ref q30, .ref q31, .ref q32, .ref q33, .ref q34, .ref q35, .ref q36, .ref q37, .ref q38, .null, .null, .null, .null, .null, .null, .null, .null, .null, .null, .null, .null, .int 0, .null, .null, .null, .int 0, .int 0, .int 0, .int 0, .int 0, .int 0, .int 0, .null, .int 0, .null, .null, .null, .null, .null, .null, .null, .null, .int 0, .null, .int 0, .int 0, .null, .null, .null])), (q1, .inl (ct 1, 200, .inl (fun _ => 0))), (q2, .inl (ct 0, 60, .inl (fun _ => 0))), (q3, .inl (ct 0, 60, .inl (fun _ => 0))), (q4, .inl (ct 0, 180, .inl (fun _ => 0))), (q5, .inl (ct 0, 1440, .inl (fun _ => 0))), (q6, .inl (ct 0, 320, .inl (fun _ => 0))), (q7, .inl (ct 1, 3840, .inl (fun _ => 0))), (q8, .inl (ct 0, 6, .inl (fun _ => 0))), (q9, .inl (ct 0, 6, .inl (fun _ => 0))), (q10, .inl (ct 0, 24, .inl (fun _ => 0))), (q11, .inl (ct 3, 24, .inl (fun _ => 0))), (q12, .inl (ct 3, 24, .inl (fun _ => 0))), (q13, .inl (ct 1, 960, .inl (fun _ => 0))), (q14, .inl (ct 0, 80, .inl (fun _ => 0))), (q15, .inl (ct 0, 20, .inl (fun _ => 0))), (q16, .inl (ct 0, 20, .inl (fun _ => 0))), (q17, .inl (ct 0, 20, .inl (fun _ => 0))), (q18, .inl (ct 0, 20, .inl (fun _ => 0))), (q19, .inl (ct 0, 320, .inl (fun _ => 0))), (q20, .inl (ct 0, 320, .inl (fun _ => 0))), (q21, .inl (ct 0, 320, .inl (fun _ => 0))), (q22, .inl (ct 0, 320, .inl (fun _ => 0))), (q23, .inl (ct 0, 320, .inl (fun _ => 0))), (q24, .inl (ct 0, 320, .inl (fun _ => 0))), (q25, .inl (ct 0, 3200, .inl (fun _ => 0))), (q26, .inl (ct 0, 3200, .inl (fun _ => 0))), (q27, .inl (ct 0, 200, .inl (fun _ => 0))), (q28, .inl (ct 0, 200, .inl (fun _ => 0))), (q29, .inl (ct 3, 200, .inl (fun _ => 0))), (q30, .inl (ct 0, 16, .inl (fun _ => 0))), (q31, .inl (ct 0, 16, .inl (fun _ => 0))), (q32, .inl (ct 0, 400, .inl (fun _ => 0))), (q33, .inl (ct 0, 200, .inl (fun _ => 0))), (q34, .inl (ct 0, 200, .inl (fun _ => 0))), (q35, .inl (ct 0, 200, .inl (fun _ => 0))), (q36, .inl (ct 0, 200, .inl (fun _ => 0))), (q37, .inl (ct 0, 200, .inl (fun _ => 0))), (q38, .inl (ct 0, 200, .inl (fun _ => 0)))] : va_W)) B rfl
  refine at_pc (n := 332) rfl ?_
  refine lv_aload_n E.1.1 E.1.2.1 dX12_init_332 rfl (lv_at hl 0 rfl) ?_
  refine lv_sipush (v := 1600) E.1.1 E.1.2.1 dX12_init_333 (by decide) ?_
  refine row_newa (atype := .int) (a0 := (1600, .inl (fun _ => 0))) E B w_e8e14353 rfl 0 rfl (fun _ => rfl) (by decide) (by decide) (Nat.le_of_ble_eq_true rfl) (Nat.le_of_ble_eq_true rfl) (Nat.le_of_ble_eq_true rfl) dX12_init_336 ?_
  clear B
  intro q39 H B
  refine at_n (n := 338) (k1 := 39) (k2 := 19456) rfl rfl rfl ?_
  refine row_putF E B iX12 rfl tyX12 tyX12_ok nmX12 56 (by decide) w_5dd80805 rfl hnm rfl (ws.length + 0) ((at_pp _ _ _ _).trans rfl) rfl rfl (Nat.le_of_ble_eq_true rfl) dX12_init_338 ?_
  clear B
  intro H locs B
  replace B := Hp.to B (set_pp ..)
  replace B := Hp.to (ws' := ws ++ ([(h, .inr (12, [.ref q1, .int 0, .int 0, .int 0, .int 0, .int 0, .int 0, .int 0, .int 0, .int 0, .ref q2, .ref q3, .ref q4, .ref q5, .ref q6, .ref q7, .ref q8, .ref q9, .ref q10, .ref q11, .ref q12, .ref q13, .ref q14, .ref q15, .ref q16, .ref q17, .ref q18, .ref q19, .ref q20, .ref q21, .ref q22, .ref q23, .ref q24, .ref q25, .ref q26, .int 0, .int 0, .int 0, .int 0, .int 0, .int 0, .int 0, .int 0, .int 0, .ref q27, .ref q28, .ref q29, .ref q30, .ref q31, .ref q32, .ref q33, .ref q34, .ref q35, .ref q36, .ref q37, .ref q38, .ref q39, .null, .null, .null, .null, .null, .null, .null, .null, .null, .null, .null, .int 0, .null, .null, .null, .int 0, .int 0, .int 0, .int 0, .int 0, .int 0, .int 0, .null, .int 0, .null, .null, .null, .null, .null, .null, .null, .null, .int 0, .null, .int 0, .int 0, .null, .null, .null])), (q1, .inl (ct 1, 200, .inl (fun _ => 0))), (q2, .inl (ct 0, 60, .inl (fun _ => 0))), (q3, .inl (ct 0, 60, .inl (fun _ => 0))), (q4, .inl (ct 0, 180, .inl (fun _ => 0))), (q5, .inl (ct 0, 1440, .inl (fun _ => 0))), (q6, .inl (ct 0, 320, .inl (fun _ => 0))), (q7, .inl (ct 1, 3840, .inl (fun _ => 0))), (q8, .inl (ct 0, 6, .inl (fun _ => 0))), (q9, .inl (ct 0, 6, .inl (fun _ => 0))), (q10, .inl (ct 0, 24, .inl (fun _ => 0))), (q11, .inl (ct 3, 24, .inl (fun _ => 0))), (q12, .inl (ct 3, 24, .inl (fun _ => 0))), (q13, .inl (ct 1, 960, .inl (fun _ => 0))), (q14, .inl (ct 0, 80, .inl (fun _ => 0))), (q15, .inl (ct 0, 20, .inl (fun _ => 0))), (q16, .inl (ct 0, 20, .inl (fun _ => 0))), (q17, .inl (ct 0, 20, .inl (fun _ => 0))), (q18, .inl (ct 0, 20, .inl (fun _ => 0))), (q19, .inl (ct 0, 320, .inl (fun _ => 0))), (q20, .inl (ct 0, 320, .inl (fun _ => 0))), (q21, .inl (ct 0, 320, .inl (fun _ => 0))), (q22, .inl (ct 0, 320, .inl (fun _ => 0))), (q23, .inl (ct 0, 320, .inl (fun _ => 0))), (q24, .inl (ct 0, 320, .inl (fun _ => 0))), (q25, .inl (ct 0, 3200, .inl (fun _ => 0))), (q26, .inl (ct 0, 3200, .inl (fun _ => 0))), (q27, .inl (ct 0, 200, .inl (fun _ => 0))), (q28, .inl (ct 0, 200, .inl (fun _ => 0))), (q29, .inl (ct 3, 200, .inl (fun _ => 0))), (q30, .inl (ct 0, 16, .inl (fun _ => 0))), (q31, .inl (ct 0, 16, .inl (fun _ => 0))), (q32, .inl (ct 0, 400, .inl (fun _ => 0))), (q33, .inl (ct 0, 200, .inl (fun _ => 0))), (q34, .inl (ct 0, 200, .inl (fun _ => 0))), (q35, .inl (ct 0, 200, .inl (fun _ => 0))), (q36, .inl (ct 0, 200, .inl (fun _ => 0))), (q37, .inl (ct 0, 200, .inl (fun _ => 0))), (q38, .inl (ct 0, 200, .inl (fun _ => 0))), (q39, .inl (ct 0, 1600, .inl (fun _ => 0)))] : va_W)) B rfl
  refine at_pc (n := 341) rfl ?_
  refine lv_aload_n E.1.1 E.1.2.1 dX12_init_341 rfl (lv_at hl 0 rfl) ?_
  refine lv_sipush (v := 200) E.1.1 E.1.2.1 dX12_init_342 (by decide) ?_
  refine row_newa (atype := .int) (a0 := (200, .inl (fun _ => 0))) E B w_e8e14353 rfl 0 rfl (fun _ => rfl) (by decide) (by decide) (Nat.le_of_ble_eq_true rfl) (Nat.le_of_ble_eq_true rfl) (Nat.le_of_ble_eq_true rfl) dX12_init_345 ?_
  clear B
  intro q40 H B
  refine at_n (n := 347) (k1 := 40) (k2 := 19656) rfl rfl rfl ?_
  refine row_putF E B iX12 rfl tyX12 tyX12_ok nmX12 57 (by decide) w_762b0631 rfl hnm rfl (ws.length + 0) ((at_pp _ _ _ _).trans rfl) rfl rfl (Nat.le_of_ble_eq_true rfl) dX12_init_347 ?_
  clear B
  intro H locs B
  replace B := Hp.to B (set_pp ..)
  replace B := Hp.to (ws' := ws ++ ([(h, .inr (12, [.ref q1, .int 0, .int 0, .int 0, .int 0, .int 0, .int 0, .int 0, .int 0, .int 0, .ref q2, .ref q3, .ref q4, .ref q5, .ref q6, .ref q7, .ref q8, .ref q9, .ref q10, .ref q11, .ref q12, .ref q13, .ref q14, .ref q15, .ref q16, .ref q17, .ref q18, .ref q19, .ref q20, .ref q21, .ref q22, .ref q23, .ref q24, .ref q25, .ref q26, .int 0, .int 0, .int 0, .int 0, .int 0, .int 0, .int 0, .int 0, .int 0, .ref q27, .ref q28, .ref q29, .ref q30, .ref q31, .ref q32, .ref q33, .ref q34, .ref q35, .ref q36, .ref q37, .ref q38, .ref q39, .ref q40, .null, .null, .null, .null, .null, .null, .null, .null, .null, .null, .int 0, .null, .null, .null, .int 0, .int 0, .int 0, .int 0, .int 0, .int 0, .int 0, .null, .int 0, .null, .null, .null, .null, .null, .null, .null, .null, .int 0, .null, .int 0, .int 0, .null, .null, .null])), (q1, .inl (ct 1, 200, .inl (fun _ => 0))), (q2, .inl (ct 0, 60, .inl (fun _ => 0))), (q3, .inl (ct 0, 60, .inl (fun _ => 0))), (q4, .inl (ct 0, 180, .inl (fun _ => 0))), (q5, .inl (ct 0, 1440, .inl (fun _ => 0))), (q6, .inl (ct 0, 320, .inl (fun _ => 0))), (q7, .inl (ct 1, 3840, .inl (fun _ => 0))), (q8, .inl (ct 0, 6, .inl (fun _ => 0))), (q9, .inl (ct 0, 6, .inl (fun _ => 0))), (q10, .inl (ct 0, 24, .inl (fun _ => 0))), (q11, .inl (ct 3, 24, .inl (fun _ => 0))), (q12, .inl (ct 3, 24, .inl (fun _ => 0))), (q13, .inl (ct 1, 960, .inl (fun _ => 0))), (q14, .inl (ct 0, 80, .inl (fun _ => 0))), (q15, .inl (ct 0, 20, .inl (fun _ => 0))), (q16, .inl (ct 0, 20, .inl (fun _ => 0))), (q17, .inl (ct 0, 20, .inl (fun _ => 0))), (q18, .inl (ct 0, 20, .inl (fun _ => 0))), (q19, .inl (ct 0, 320, .inl (fun _ => 0))), (q20, .inl (ct 0, 320, .inl (fun _ => 0))), (q21, .inl (ct 0, 320, .inl (fun _ => 0))), (q22, .inl (ct 0, 320, .inl (fun _ => 0))), (q23, .inl (ct 0, 320, .inl (fun _ => 0))), (q24, .inl (ct 0, 320, .inl (fun _ => 0))), (q25, .inl (ct 0, 3200, .inl (fun _ => 0))), (q26, .inl (ct 0, 3200, .inl (fun _ => 0))), (q27, .inl (ct 0, 200, .inl (fun _ => 0))), (q28, .inl (ct 0, 200, .inl (fun _ => 0))), (q29, .inl (ct 3, 200, .inl (fun _ => 0))), (q30, .inl (ct 0, 16, .inl (fun _ => 0))), (q31, .inl (ct 0, 16, .inl (fun _ => 0))), (q32, .inl (ct 0, 400, .inl (fun _ => 0))), (q33, .inl (ct 0, 200, .inl (fun _ => 0))), (q34, .inl (ct 0, 200, .inl (fun _ => 0))), (q35, .inl (ct 0, 200, .inl (fun _ => 0))), (q36, .inl (ct 0, 200, .inl (fun _ => 0))), (q37, .inl (ct 0, 200, .inl (fun _ => 0))), (q38, .inl (ct 0, 200, .inl (fun _ => 0))), (q39, .inl (ct 0, 1600, .inl (fun _ => 0))), (q40, .inl (ct 0, 200, .inl (fun _ => 0)))] : va_W)) B rfl
  refine at_pc (n := 350) rfl ?_
  refine lv_aload_n E.1.1 E.1.2.1 dX12_init_350 rfl (lv_at hl 0 rfl) ?_
  refine lv_sipush (v := 2400) E.1.1 E.1.2.1 dX12_init_351 (by decide) ?_
  refine row_newa (atype := .int) (a0 := (2400, .inl (fun _ => 0))) E B w_e8e14353 rfl 0 rfl (fun _ => rfl) (by decide) (by decide) (Nat.le_of_ble_eq_true rfl) (Nat.le_of_ble_eq_true rfl) (Nat.le_of_ble_eq_true rfl) dX12_init_354 ?_
  clear B
  intro q41 H B
  refine at_n (n := 356) (k1 := 41) (k2 := 22056) rfl rfl rfl ?_
  refine row_putF E B iX12 rfl tyX12 tyX12_ok nmX12 58 (by decide) w_f7a5254f rfl hnm rfl (ws.length + 0) ((at_pp _ _ _ _).trans rfl) rfl rfl (Nat.le_of_ble_eq_true rfl) dX12_init_356 ?_
  clear B
  intro H locs B
  replace B := Hp.to B (set_pp ..)
  replace B := Hp.to (ws' := ws ++ ([(h, .inr (12, [.ref q1, .int 0, .int 0, .int 0, .int 0, .int 0, .int 0, .int 0, .int 0, .int 0, .ref q2, .ref q3, .ref q4, .ref q5, .ref q6, .ref q7, .ref q8, .ref q9, .ref q10, .ref q11, .ref q12, .ref q13, .ref q14, .ref q15, .ref q16, .ref q17, .ref q18, .ref q19, .ref q20, .ref q21, .ref q22, .ref q23, .ref q24, .ref q25, .ref q26, .int 0, .int 0, .int 0, .int 0, .int 0, .int 0, .int 0, .int 0, .int 0, .ref q27, .ref q28, .ref q29, .ref q30, .ref q31, .ref q32, .ref q33, .ref q34, .ref q35, .ref q36, .ref q37, .ref q38, .ref q39, .ref q40, .ref q41, .null, .null, .null, .null, .null, .null, .null, .null, .null, .int 0, .null, .null, .null, .int 0, .int 0, .int 0, .int 0, .int 0, .int 0, .int 0, .null, .int 0, .null, .null, .null, .null, .null, .null, .null, .null, .int 0, .null, .int 0, .int 0, .null, .null, .null])), (q1, .inl (ct 1, 200, .inl (fun _ => 0))), (q2, .inl (ct 0, 60, .inl (fun _ => 0))), (q3, .inl (ct 0, 60, .inl (fun _ => 0))), (q4, .inl (ct 0, 180, .inl (fun _ => 0))), (q5, .inl (ct 0, 1440, .inl (fun _ => 0))), (q6, .inl (ct 0, 320, .inl (fun _ => 0))), (q7, .inl (ct 1, 3840, .inl (fun _ => 0))), (q8, .inl (ct 0, 6, .inl (fun _ => 0))), (q9, .inl (ct 0, 6, .inl (fun _ => 0))), (q10, .inl (ct 0, 24, .inl (fun _ => 0))), (q11, .inl (ct 3, 24, .inl (fun _ => 0))), (q12, .inl (ct 3, 24, .inl (fun _ => 0))), (q13, .inl (ct 1, 960, .inl (fun _ => 0))), (q14, .inl (ct 0, 80, .inl (fun _ => 0))), (q15, .inl (ct 0, 20, .inl (fun _ => 0))), (q16, .inl (ct 0, 20, .inl (fun _ => 0))), (q17, .inl (ct 0, 20, .inl (fun _ => 0))), (q18, .inl (ct 0, 20, .inl (fun _ => 0))), (q19, .inl (ct 0, 320, .inl (fun _ => 0))), (q20, .inl (ct 0, 320, .inl (fun _ => 0))), (q21, .inl (ct 0, 320, .inl (fun _ => 0))), (q22, .inl (ct 0, 320, .inl (fun _ => 0))), (q23, .inl (ct 0, 320, .inl (fun _ => 0))), (q24, .inl (ct 0, 320, .inl (fun _ => 0))), (q25, .inl (ct 0, 3200, .inl (fun _ => 0))), (q26, .inl (ct 0, 3200, .inl (fun _ => 0))), (q27, .inl (ct 0, 200, .inl (fun _ => 0))), (q28, .inl (ct 0, 200, .inl (fun _ => 0))), (q29, .inl (ct 3, 200, .inl (fun _ => 0))), (q30, .inl (ct 0, 16, .inl (fun _ => 0))), (q31, .inl (ct 0, 16, .inl (fun _ => 0))), (q32, .inl (ct 0, 400, .inl (fun _ => 0))), (q33, .inl (ct 0, 200, .inl (fun _ => 0))), (q34, .inl (ct 0, 200, .inl (fun _ => 0))), (q35, .inl (ct 0, 200, .inl (fun _ => 0))), (q36, .inl (ct 0, 200, .inl (fun _ => 0))), (q37, .inl (ct 0, 200, .inl (fun _ => 0))), (q38, .inl (ct 0, 200, .inl (fun _ => 0))), (q39, .inl (ct 0, 1600, .inl (fun _ => 0))), (q40, .inl (ct 0, 200, .inl (fun _ => 0))), (q41, .inl (ct 0, 2400, .inl (fun _ => 0)))] : va_W)) B rfl
  refine at_pc (n := 359) rfl ?_
  refine lv_aload_n E.1.1 E.1.2.1 dX12_init_359 rfl (lv_at hl 0 rfl) ?_
  refine lv_sipush (v := 2400) E.1.1 E.1.2.1 dX12_init_360 (by decide) ?_
  refine row_newa (atype := .int) (a0 := (2400, .inl (fun _ => 0))) E B w_e8e14353 rfl 0 rfl (fun _ => rfl) (by decide) (by decide) (Nat.le_of_ble_eq_true rfl) (Nat.le_of_ble_eq_true rfl) (Nat.le_of_ble_eq_true rfl) dX12_init_363 ?_
  clear B
  intro q42 H B
  refine at_n (n := 365) (k1 := 42) (k2 := 24456) rfl rfl rfl ?_
  refine row_putF E B iX12 rfl tyX12 tyX12_ok nmX12 59 (by decide) w_d8a8ef07 rfl hnm rfl (ws.length + 0) ((at_pp _ _ _ _).trans rfl) rfl rfl (Nat.le_of_ble_eq_true rfl) dX12_init_365 ?_
  clear B
  intro H locs B
  replace B := Hp.to B (set_pp ..)
  replace B := Hp.to (ws' := ws ++ ([(h, .inr (12, [.ref q1, .int 0, .int 0, .int 0, .int 0, .int 0, .int 0, .int 0, .int 0, .int 0, .ref q2, .ref q3, .ref q4, .ref q5, .ref q6, .ref q7, .ref q8, .ref q9, .ref q10, .ref q11, .ref q12, .ref q13, .ref q14, .ref q15, .ref q16, .ref q17, .ref q18, .ref q19, .ref q20, .ref q21, .ref q22, .ref q23, .ref q24, .ref q25, .ref q26, .int 0, .int 0, .int 0, .int 0, .int 0, .int 0, .int 0, .int 0, .int 0, .ref q27, .ref q28, .ref q29, .ref q30, .ref q31, .ref q32, .ref q33, .ref q34, .ref q35, .ref q36, .ref q37, .ref q38, .ref q39, .ref q40, .ref q41, .ref q42, .null, .null, .null, .null, .null, .null, .null, .null, .int 0, .null, .null, .null, .int 0, .int 0, .int 0, .int 0, .int 0, .int 0, .int 0, .null, .int 0, .null, .null, .null, .null, .null, .null, .null, .null, .int 0, .null, .int 0, .int 0, .null, .null, .null])), (q1, .inl (ct 1, 200, .inl (fun _ => 0))), (q2, .inl (ct 0, 60, .inl (fun _ => 0))), (q3, .inl (ct 0, 60, .inl (fun _ => 0))), (q4, .inl (ct 0, 180, .inl (fun _ => 0))), (q5, .inl (ct 0, 1440, .inl (fun _ => 0))), (q6, .inl (ct 0, 320, .inl (fun _ => 0))), (q7, .inl (ct 1, 3840, .inl (fun _ => 0))), (q8, .inl (ct 0, 6, .inl (fun _ => 0))), (q9, .inl (ct 0, 6, .inl (fun _ => 0))), (q10, .inl (ct 0, 24, .inl (fun _ => 0))), (q11, .inl (ct 3, 24, .inl (fun _ => 0))), (q12, .inl (ct 3, 24, .inl (fun _ => 0))), (q13, .inl (ct 1, 960, .inl (fun _ => 0))), (q14, .inl (ct 0, 80, .inl (fun _ => 0))), (q15, .inl (ct 0, 20, .inl (fun _ => 0))), (q16, .inl (ct 0, 20, .inl (fun _ => 0))), (q17, .inl (ct 0, 20, .inl (fun _ => 0))), (q18, .inl (ct 0, 20, .inl (fun _ => 0))), (q19, .inl (ct 0, 320, .inl (fun _ => 0))), (q20, .inl (ct 0, 320, .inl (fun _ => 0))), (q21, .inl (ct 0, 320, .inl (fun _ => 0))), (q22, .inl (ct 0, 320, .inl (fun _ => 0))), (q23, .inl (ct 0, 320, .inl (fun _ => 0))), (q24, .inl (ct 0, 320, .inl (fun _ => 0))), (q25, .inl (ct 0, 3200, .inl (fun _ => 0))), (q26, .inl (ct 0, 3200, .inl (fun _ => 0))), (q27, .inl (ct 0, 200, .inl (fun _ => 0))), (q28, .inl (ct 0, 200, .inl (fun _ => 0))), (q29, .inl (ct 3, 200, .inl (fun _ => 0))), (q30, .inl (ct 0, 16, .inl (fun _ => 0))), (q31, .inl (ct 0, 16, .inl (fun _ => 0))), (q32, .inl (ct 0, 400, .inl (fun _ => 0))), (q33, .inl (ct 0, 200, .inl (fun _ => 0))), (q34, .inl (ct 0, 200, .inl (fun _ => 0))), (q35, .inl (ct 0, 200, .inl (fun _ => 0))), (q36, .inl (ct 0, 200, .inl (fun _ => 0))), (q37, .inl (ct 0, 200, .inl (fun _ => 0))), (q38, .inl (ct 0, 200, .inl (fun _ => 0))), (q39, .inl (ct 0, 1600, .inl (fun _ => 0))), (q40, .inl (ct 0, 200, .inl (fun _ => 0))), (q41, .inl (ct 0, 2400, .inl (fun _ => 0))), (q42, .inl (ct 0, 2400, .inl (fun _ => 0)))] : va_W)) B rfl
  refine at_pc (n := 368) rfl ?_
  refine lv_aload_n E.1.1 E.1.2.1 dX12_init_368 rfl (lv_at hl 0 rfl) ?_
  refine lv_sipush (v := 200) E.1.1 E.1.2.1 dX12_init_369 (by decide) ?_
  refine row_newa (atype := .int) (a0 := (200, .inl (fun _ => 0))) E B w_e8e14353 rfl 0 rfl (fun _ => rfl) (by decide) (by decide) (Nat.le_of_ble_eq_true rfl) (Nat.le_of_ble_eq_true rfl) (Nat.le_of_ble_eq_true rfl) dX12_init_372 ?_
  clear B
  intro q43 H B
  refine at_n (n := 374) (k1 := 43) (k2 := 24656) rfl rfl rfl ?_
  refine row_putF E B iX12 rfl tyX12 tyX12_ok nmX12 60 (by decide) w_7678f77a rfl hnm rfl (ws.length + 0) ((at_pp _ _ _ _).trans rfl) rfl rfl (Nat.le_of_ble_eq_true rfl) dX12_init_374 ?_
  clear B
  intro H locs B
  replace B := Hp.to B (set_pp ..)
  replace B := Hp.to (ws' := ws ++ ([(h, .inr (12, [.ref q1, .int 0, .int 0, .int 0, .int 0, .int 0, .int 0, .int 0, .int 0, .int 0, .ref q2, .ref q3, .ref q4, .ref q5, .ref q6, .ref q7, .ref q8, .ref q9, .ref q10, .ref q11, .ref q12, .ref q13, .ref q14, .ref q15, .ref q16, .ref q17, .ref q18, .ref q19, .ref q20, .ref q21, .ref q22, .ref q23, .ref q24, .ref q25, .ref q26, .int 0, .int 0, .int 0, .int 0, .int 0, .int 0, .int 0, .int 0, .int 0, .ref q27, .ref q28, .ref q29, .ref q30, .ref q31, .ref q32, .ref q33, .ref q34, .ref q35, .ref q36, .ref q37, .ref q38, .ref q39, .ref q40, .ref q41, .ref q42, .ref q43, .null, .null, .null, .null, .null, .null, .null, .int 0, .null, .null, .null, .int 0, .int 0, .int 0, .int 0, .int 0, .int 0, .int 0, .null, .int 0, .null, .null, .null, .null, .null, .null, .null, .null, .int 0, .null, .int 0, .int 0, .null, .null, .null])), (q1, .inl (ct 1, 200, .inl (fun _ => 0))), (q2, .inl (ct 0, 60, .inl (fun _ => 0))), (q3, .inl (ct 0, 60, .inl (fun _ => 0))), (q4, .inl (ct 0, 180, .inl (fun _ => 0))), (q5, .inl (ct 0, 1440, .inl (fun _ => 0))), (q6, .inl (ct 0, 320, .inl (fun _ => 0))), (q7, .inl (ct 1, 3840, .inl (fun _ => 0))), (q8, .inl (ct 0, 6, .inl (fun _ => 0))), (q9, .inl (ct 0, 6, .inl (fun _ => 0))), (q10, .inl (ct 0, 24, .inl (fun _ => 0))), (q11, .inl (ct 3, 24, .inl (fun _ => 0))), (q12, .inl (ct 3, 24, .inl (fun _ => 0))), (q13, .inl (ct 1, 960, .inl (fun _ => 0))), (q14, .inl (ct 0, 80, .inl (fun _ => 0))), (q15, .inl (ct 0, 20, .inl (fun _ => 0))), (q16, .inl (ct 0, 20, .inl (fun _ => 0))), (q17, .inl (ct 0, 20, .inl (fun _ => 0))), (q18, .inl (ct 0, 20, .inl (fun _ => 0))), (q19, .inl (ct 0, 320, .inl (fun _ => 0))), (q20, .inl (ct 0, 320, .inl (fun _ => 0))), (q21, .inl (ct 0, 320, .inl (fun _ => 0))), (q22, .inl (ct 0, 320, .inl (fun _ => 0))), (q23, .inl (ct 0, 320, .inl (fun _ => 0))), (q24, .inl (ct 0, 320, .inl (fun _ => 0))), (q25, .inl (ct 0, 3200, .inl (fun _ => 0))), (q26, .inl (ct 0, 3200, .inl (fun _ => 0))), (q27, .inl (ct 0, 200, .inl (fun _ => 0))), (q28, .inl (ct 0, 200, .inl (fun _ => 0))), (q29, .inl (ct 3, 200, .inl (fun _ => 0))), (q30, .inl (ct 0, 16, .inl (fun _ => 0))), (q31, .inl (ct 0, 16, .inl (fun _ => 0))), (q32, .inl (ct 0, 400, .inl (fun _ => 0))), (q33, .inl (ct 0, 200, .inl (fun _ => 0))), (q34, .inl (ct 0, 200, .inl (fun _ => 0))), (q35, .inl (ct 0, 200, .inl (fun _ => 0))), (q36, .inl (ct 0, 200, .inl (fun _ => 0))), (q37, .inl (ct 0, 200, .inl (fun _ => 0))), (q38, .inl (ct 0, 200, .inl (fun _ => 0))), (q39, .inl (ct 0, 1600, .inl (fun _ => 0))), (q40, .inl (ct 0, 200, .inl (fun _ => 0))), (q41, .inl (ct 0, 2400, .inl (fun _ => 0))), (q42, .inl (ct 0, 2400, .inl (fun _ => 0))), (q43, .inl (ct 0, 200, .inl (fun _ => 0)))] : va_W)) B rfl
  refine at_pc (n := 377) rfl ?_
  refine lv_aload_n E.1.1 E.1.2.1 dX12_init_377 rfl (lv_at hl 0 rfl) ?_
  refine lv_sipush (v := 400) E.1.1 E.1.2.1 dX12_init_378 (by decide) ?_
  refine row_newa (atype := .int) (a0 := (400, .inl (fun _ => 0))) E B w_e8e14353 rfl 0 rfl (fun _ => rfl) (by decide) (by decide) (Nat.le_of_ble_eq_true rfl) (Nat.le_of_ble_eq_true rfl) (Nat.le_of_ble_eq_true rfl) dX12_init_381 ?_
  clear B
  intro q44 H B
  refine at_n (n := 383) (k1 := 44) (k2 := 25056) rfl rfl rfl ?_
  refine row_putF E B iX12 rfl tyX12 tyX12_ok nmX12 61 (by decide) w_6fc13e8c rfl hnm rfl (ws.length + 0) ((at_pp _ _ _ _).trans rfl) rfl rfl (Nat.le_of_ble_eq_true rfl) dX12_init_383 ?_
  clear B
  intro H locs B
  replace B := Hp.to B (set_pp ..)
  replace B := Hp.to (ws' := ws ++ ([(h, .inr (12, [.ref q1, .int 0, .int 0, .int 0, .int 0, .int 0, .int 0, .int 0, .int 0, .int 0, .ref q2, .ref q3, .ref q4, .ref q5, .ref q6, .ref q7, .ref q8, .ref q9, .ref q10, .ref q11, .ref q12, .ref q13, .ref q14, .ref q15, .ref q16, .ref q17, .ref q18, .ref q19, .ref q20, .ref q21, .ref q22, .ref q23, .ref q24, .ref q25, .ref q26, .int 0, .int 0, .int 0, .int 0, .int 0, .int 0, .int 0, .int 0, .int 0, .ref q27, .ref q28, .ref q29, .ref q30, .ref q31, .ref q32, .ref q33, .ref q34, .ref q35, .ref q36, .ref q37, .ref q38, .ref q39, .ref q40, .ref q41, .ref q42, .ref q43, .ref q44, .null, .null, .null, .null, .null, .null, .int 0, .null, .null, .null, .int 0, .int 0, .int 0, .int 0, .int 0, .int 0, .int 0, .null, .int 0, .null, .null, .null, .null, .null, .null, .null, .null, .int 0, .null, .int 0, .int 0, .null, .null, .null])), (q1, .inl (ct 1, 200, .inl (fun _ => 0))), (q2, .inl (ct 0, 60, .inl (fun _ => 0))), (q3, .inl (ct 0, 60, .inl (fun _ => 0))), (q4, .inl (ct 0, 180, .inl (fun _ => 0))), (q5, .inl (ct 0, 1440, .inl (fun _ => 0))), (q6, .inl (ct 0, 320, .inl (fun _ => 0))), (q7, .inl (ct 1, 3840, .inl (fun _ => 0))), (q8, .inl (ct 0, 6, .inl (fun _ => 0))), (q9, .inl (ct 0, 6, .inl (fun _ => 0))), (q10, .inl (ct 0, 24, .inl (fun _ => 0))), (q11, .inl (ct 3, 24, .inl (fun _ => 0))), (q12, .inl (ct 3, 24, .inl (fun _ => 0))), (q13, .inl (ct 1, 960, .inl (fun _ => 0))), (q14, .inl (ct 0, 80, .inl (fun _ => 0))), (q15, .inl (ct 0, 20, .inl (fun _ => 0))), (q16, .inl (ct 0, 20, .inl (fun _ => 0))), (q17, .inl (ct 0, 20, .inl (fun _ => 0))), (q18, .inl (ct 0, 20, .inl (fun _ => 0))), (q19, .inl (ct 0, 320, .inl (fun _ => 0))), (q20, .inl (ct 0, 320, .inl (fun _ => 0))), (q21, .inl (ct 0, 320, .inl (fun _ => 0))), (q22, .inl (ct 0, 320, .inl (fun _ => 0))), (q23, .inl (ct 0, 320, .inl (fun _ => 0))), (q24, .inl (ct 0, 320, .inl (fun _ => 0))), (q25, .inl (ct 0, 3200, .inl (fun _ => 0))), (q26, .inl (ct 0, 3200, .inl (fun _ => 0))), (q27, .inl (ct 0, 200, .inl (fun _ => 0))), (q28, .inl (ct 0, 200, .inl (fun _ => 0))), (q29, .inl (ct 3, 200, .inl (fun _ => 0))), (q30, .inl (ct 0, 16, .inl (fun _ => 0))), (q31, .inl (ct 0, 16, .inl (fun _ => 0))), (q32, .inl (ct 0, 400, .inl (fun _ => 0))), (q33, .inl (ct 0, 200, .inl (fun _ => 0))), (q34, .inl (ct 0, 200, .inl (fun _ => 0))), (q35, .inl (ct 0, 200, .inl (fun _ => 0))), (q36, .inl (ct 0, 200, .inl (fun _ => 0))), (q37, .inl (ct 0, 200, .inl (fun _ => 0))), (q38, .inl (ct 0, 200, .inl (fun _ => 0))), (q39, .inl (ct 0, 1600, .inl (fun _ => 0))), (q40, .inl (ct 0, 200, .inl (fun _ => 0))), (q41, .inl (ct 0, 2400, .inl (fun _ => 0))), (q42, .inl (ct 0, 2400, .inl (fun _ => 0))), (q43, .inl (ct 0, 200, .inl (fun _ => 0))), (q44, .inl (ct 0, 400, .inl (fun _ => 0)))] : va_W)) B rfl
  refine at_pc (n := 386) rfl ?_
  refine lv_aload_n E.1.1 E.1.2.1 dX12_init_386 rfl (lv_at hl 0 rfl) ?_
  refine lv_sipush (v := 400) E.1.1 E.1.2.1 dX12_init_387 (by decide) ?_
  refine row_newa (atype := .int) (a0 := (400, .inl (fun _ => 0))) E B w_e8e14353 rfl 0 rfl (fun _ => rfl) (by decide) (by decide) (Nat.le_of_ble_eq_true rfl) (Nat.le_of_ble_eq_true rfl) (Nat.le_of_ble_eq_true rfl) dX12_init_390 ?_
  clear B
  intro q45 H B
  refine at_n (n := 392) (k1 := 45) (k2 := 25456) rfl rfl rfl ?_
  refine row_putF E B iX12 rfl tyX12 tyX12_ok nmX12 62 (by decide) w_9cafe9ab rfl hnm rfl (ws.length + 0) ((at_pp _ _ _ _).trans rfl) rfl rfl (Nat.le_of_ble_eq_true rfl) dX12_init_392 ?_
  clear B
  intro H locs B
  replace B := Hp.to B (set_pp ..)
  replace B := Hp.to (ws' := ws ++ ([(h, .inr (12, [.ref q1, .int 0, .int 0, .int 0, .int 0, .int 0, .int 0, .int 0, .int 0, .int 0, .ref q2, .ref q3, .ref q4, .ref q5, .ref q6, .ref q7, .ref q8, .ref q9, .ref q10, .ref q11, .ref q12, .ref q13, .ref q14, .ref q15, .ref q16, .ref q17, .ref q18, .ref q19, .ref q20, .ref q21, .ref q22, .ref q23, .ref q24, .ref q25, .ref q26, .int 0, .int 0, .int 0, .int 0, .int 0, .int 0, .int 0, .int 0, .int 0, .ref q27, .ref q28, .ref q29, .ref q30, .ref q31, .ref q32, .ref q33, .ref q34, .ref q35, .ref q36, .ref q37, .ref q38, .ref q39, .ref q40, .ref q41, .ref q42, .ref q43, .ref q44, .ref q45, .null, .null, .null, .null, .null, .int 0, .null, .null, .null, .int 0, .int 0, .int 0, .int 0, .int 0, .int 0, .int 0, .null, .int 0, .null, .null, .null, .null, .null, .null, .null, .null, .int 0, .null, .int 0, .int 0, .null, .null, .null])), (q1, .inl (ct 1, 200, .inl (fun _ => 0))), (q2, .inl (ct 0, 60, .inl (fun _ => 0))), (q3, .inl (ct 0, 60, .inl (fun _ => 0))), (q4, .inl (ct 0, 180, .inl (fun _ => 0))), (q5, .inl (ct 0, 1440, .inl (fun _ => 0))), (q6, .inl (ct 0, 320, .inl (fun _ => 0))), (q7, .inl (ct 1, 3840, .inl (fun _ => 0))), (q8, .inl (ct 0, 6, .inl (fun _ => 0))), (q9, .inl (ct 0, 6, .inl (fun _ => 0))), (q10, .inl (ct 0, 24, .inl (fun _ => 0))), (q11, .inl (ct 3, 24, .inl (fun _ => 0))), (q12, .inl (ct 3, 24, .inl (fun _ => 0))), (q13, .inl (ct 1, 960, .inl (fun _ => 0))), (q14, .inl (ct 0, 80, .inl (fun _ => 0))), (q15, .inl (ct 0, 20, .inl (fun _ => 0))), (q16, .inl (ct 0, 20, .inl (fun _ => 0))), (q17, .inl (ct 0, 20, .inl (fun _ => 0))), (q18, .inl (ct 0, 20, .inl (fun _ => 0))), (q19, .inl (ct 0, 320, .inl (fun _ => 0))), (q20, .inl (ct 0, 320, .inl (fun _ => 0))), (q21, .inl (ct 0, 320, .inl (fun _ => 0))), (q22, .inl (ct 0, 320, .inl (fun _ => 0))), (q23, .inl (ct 0, 320, .inl (fun _ => 0))), (q24, .inl (ct 0, 320, .inl (fun _ => 0))), (q25, .inl (ct 0, 3200, .inl (fun _ => 0))), (q26, .inl (ct 0, 3200, .inl (fun _ => 0))), (q27, .inl (ct 0, 200, .inl (fun _ => 0))), (q28, .inl (ct 0, 200, .inl (fun _ => 0))), (q29, .inl (ct 3, 200, .inl (fun _ => 0))), (q30, .inl (ct 0, 16, .inl (fun _ => 0))), (q31, .inl (ct 0, 16, .inl (fun _ => 0))), (q32, .inl (ct 0, 400, .inl (fun _ => 0))), (q33, .inl (ct 0, 200, .inl (fun _ => 0))), (q34, .inl (ct 0, 200, .inl (fun _ => 0))), (q35, .inl (ct 0, 200, .inl (fun _ => 0))), (q36, .inl (ct 0, 200, .inl (fun _ => 0))), (q37, .inl (ct 0, 200, .inl (fun _ => 0))), (q38, .inl (ct 0, 200, .inl (fun _ => 0))), (q39, .inl (ct 0, 1600, .inl (fun _ => 0))), (q40, .inl (ct 0, 200, .inl (fun _ => 0))), (q41, .inl (ct 0, 2400, .inl (fun _ => 0))), (q42, .inl (ct 0, 2400, .inl (fun _ => 0))), (q43, .inl (ct 0, 200, .inl (fun _ => 0))), (q44, .inl (ct 0, 400, .inl (fun _ => 0))), (q45, .inl (ct 0, 400, .inl (fun _ => 0)))] : va_W)) B rfl
  refine at_pc (n := 395) rfl ?_
  refine lv_aload_n E.1.1 E.1.2.1 dX12_init_395 rfl (lv_at hl 0 rfl) ?_
  refine lv_sipush (v := 400) E.1.1 E.1.2.1 dX12_init_396 (by decide) ?_
  refine row_newa (atype := .int) (a0 := (400, .inl (fun _ => 0))) E B w_e8e14353 rfl 0 rfl (fun _ => rfl) (by decide) (by decide) (Nat.le_of_ble_eq_true rfl) (Nat.le_of_ble_eq_true rfl) (Nat.le_of_ble_eq_true rfl) dX12_init_399 ?_
  clear B
  intro q46 H B
  refine at_n (n := 401) (k1 := 46) (k2 := 25856) rfl rfl rfl ?_
  refine row_putF E B iX12 rfl tyX12 tyX12_ok nmX12 63 (by decide) w_9260ba25 rfl hnm rfl (ws.length + 0) ((at_pp _ _ _ _).trans rfl) rfl rfl (Nat.le_of_ble_eq_true rfl) dX12_init_401 ?_
  clear B
  intro H locs B
  replace B := Hp.to B (set_pp ..)
  replace B := Hp.to (ws' := ws ++ ([(h, .inr (12, [.ref q1, .int 0, .int 0, .int 0, .int 0, .int 0, .int 0, .int 0, .int 0, .int 0, .ref q2, .ref q3, .ref q4, .ref q5, .ref q6, .ref q7, .ref q8, .ref q9, .ref q10, .ref q11, .ref q12, .ref q13, .ref q14, .ref q15, .ref q16, .ref q17, .ref q18, .ref q19, .ref q20, .ref q21, .ref q22, .ref q23, .ref q24, .ref q25, .ref q26, .int 0, .int 0, .int 0, .int 0, .int 0, .int 0, .int 0, .int 0, .int 0, .ref q27, .ref q28, .ref q29, .ref q30, .ref q31, .ref q32, .ref q33, .ref q34, .ref q35, .ref q36, .ref q37, .ref q38, .ref q39, .ref q40, .ref q41, .ref q42, .ref q43, .ref q44, .ref q45, .ref q46, .null, .null, .null, .null, .int 0, .null, .null, .null, .int 0, .int 0, .int 0, .int 0, .int 0, .int 0, .int 0, .null, .int 0, .null, .null, .null, .null, .null, .null, .null, .null, .int 0, .null, .int 0, .int 0, .null, .null, .null])), (q1, .inl (ct 1, 200, .inl (fun _ => 0))), (q2, .inl (ct 0, 60, .inl (fun _ => 0))), (q3, .inl (ct 0, 60, .inl (fun _ => 0))), (q4, .inl (ct 0, 180, .inl (fun _ => 0))), (q5, .inl (ct 0, 1440, .inl (fun _ => 0))), (q6, .inl (ct 0, 320, .inl (fun _ => 0))), (q7, .inl (ct 1, 3840, .inl (fun _ => 0))), (q8, .inl (ct 0, 6, .inl (fun _ => 0))), (q9, .inl (ct 0, 6, .inl (fun _ => 0))), (q10, .inl (ct 0, 24, .inl (fun _ => 0))), (q11, .inl (ct 3, 24, .inl (fun _ => 0))), (q12, .inl (ct 3, 24, .inl (fun _ => 0))), (q13, .inl (ct 1, 960, .inl (fun _ => 0))), (q14, .inl (ct 0, 80, .inl (fun _ => 0))), (q15, .inl (ct 0, 20, .inl (fun _ => 0))), (q16, .inl (ct 0, 20, .inl (fun _ => 0))), (q17, .inl (ct 0, 20, .inl (fun _ => 0))), (q18, .inl (ct 0, 20, .inl (fun _ => 0))), (q19, .inl (ct 0, 320, .inl (fun _ => 0))), (q20, .inl (ct 0, 320, .inl (fun _ => 0))), (q21, .inl (ct 0, 320, .inl (fun _ => 0))), (q22, .inl (ct 0, 320, .inl (fun _ => 0))), (q23, .inl (ct 0, 320, .inl (fun _ => 0))), (q24, .inl (ct 0, 320, .inl (fun _ => 0))), (q25, .inl (ct 0, 3200, .inl (fun _ => 0))), (q26, .inl (ct 0, 3200, .inl (fun _ => 0))), (q27, .inl (ct 0, 200, .inl (fun _ => 0))), (q28, .inl (ct 0, 200, .inl (fun _ => 0))), (q29, .inl (ct 3, 200, .inl (fun _ => 0))), (q30, .inl (ct 0, 16, .inl (fun _ => 0))), (q31, .inl (ct 0, 16, .inl (fun _ => 0))), (q32, .inl (ct 0, 400, .inl (fun _ => 0))), (q33, .inl (ct 0, 200, .inl (fun _ => 0))), (q34, .inl (ct 0, 200, .inl (fun _ => 0))), (q35, .inl (ct 0, 200, .inl (fun _ => 0))), (q36, .inl (ct 0, 200, .inl (fun _ => 0))), (q37, .inl (ct 0, 200, .inl (fun _ => 0))), (q38, .inl (ct 0, 200, .inl (fun _ => 0))), (q39, .inl (ct 0, 1600, .inl (fun _ => 0))), (q40, .inl (ct 0, 200, .inl (fun _ => 0))), (q41, .inl (ct 0, 2400, .inl (fun _ => 0))), (q42, .inl (ct 0, 2400, .inl (fun _ => 0))), (q43, .inl (ct 0, 200, .inl (fun _ => 0))), (q44, .inl (ct 0, 400, .inl (fun _ => 0))), (q45, .inl (ct 0, 400, .inl (fun _ => 0))), (q46, .inl (ct 0, 400, .inl (fun _ => 0)))] : va_W)) B rfl
  refine at_pc (n := 404) rfl ?_
  refine lv_aload_n E.1.1 E.1.2.1 dX12_init_404 rfl (lv_at hl 0 rfl) ?_
  refine lv_sipush (v := 400) E.1.1 E.1.2.1 dX12_init_405 (by decide) ?_
  refine row_newa (atype := .int) (a0 := (400, .inl (fun _ => 0))) E B w_e8e14353 rfl 0 rfl (fun _ => rfl) (by decide) (by decide) (Nat.le_of_ble_eq_true rfl) (Nat.le_of_ble_eq_true rfl) (Nat.le_of_ble_eq_true rfl) dX12_init_408 ?_
  clear B
  intro q47 H B
  refine at_n (n := 410) (k1 := 47) (k2 := 26256) rfl rfl rfl ?_
  refine row_putF E B iX12 rfl tyX12 tyX12_ok nmX12 64 (by decide) w_3ab348eb rfl hnm rfl (ws.length + 0) ((at_pp _ _ _ _).trans rfl) rfl rfl (Nat.le_of_ble_eq_true rfl) dX12_init_410 ?_
  clear B
  intro H locs B
  replace B := Hp.to B (set_pp ..)
  replace B := Hp.to (ws' := ws ++ ([(h, .inr (12, [.ref q1, .int 0, .int 0, .int 0, .int 0, .int 0, .int 0, .int 0, .int 0, .int 0, .ref q2, .ref q3, .ref q4, .ref q5, .ref q6, .ref q7, .ref q8, .ref q9, .ref q10, .ref q11, .ref q12, .ref q13, .ref q14, .ref q15, .ref q16, .ref q17, .ref q18, .ref q19, .ref q20, .ref q21, .ref q22, .ref q23, .ref q24, .ref q25, .ref q26, .int 0, .int 0, .int 0, .int 0, .int 0, .int 0, .int 0, .int 0, .int 0, .ref q27, .ref q28, .ref q29, .ref q30, .ref q31, .ref q32, .ref q33, .ref q34, .ref q35, .ref q36, .ref q37, .ref q38, .ref q39, .ref q40, .ref q41, .ref q42, .ref q43, .ref q44, .ref q45, .ref q46, .ref q47, .null, .null, .null, .int 0, .null, .null, .null, .int 0, .int 0, .int 0, .int 0, .int 0, .int 0, .int 0, .null, .int 0, .null, .null, .null, .null, .null, .null, .null, .null, .int 0, .null, .int 0, .int 0, .null, .null, .null])), (q1, .inl (ct 1, 200, .inl (fun _ => 0))), (q2, .inl (ct 0, 60, .inl (fun _ => 0))), (q3, .inl (ct 0, 60, .inl (fun _ => 0))), (q4, .inl (ct 0, 180, .inl (fun _ => 0))), (q5, .inl (ct 0, 1440, .inl (fun _ => 0))), (q6, .inl (ct 0, 320, .inl (fun _ => 0))), (q7, .inl (ct 1, 3840, .inl (fun _ => 0))), (q8, .inl (ct 0, 6, .inl (fun _ => 0))), (q9, .inl (ct 0, 6, .inl (fun _ => 0))), (q10, .inl (ct 0, 24, .inl (fun _ => 0))), (q11, .inl (ct 3, 24, .inl (fun _ => 0))), (q12, .inl (ct 3, 24, .inl (fun _ => 0))), (q13, .inl (ct 1, 960, .inl (fun _ => 0))), (q14, .inl (ct 0, 80, .inl (fun _ => 0))), (q15, .inl (ct 0, 20, .inl (fun _ => 0))), (q16, .inl (ct 0, 20, .inl (fun _ => 0))), (q17, .inl (ct 0, 20, .inl (fun _ => 0))), (q18, .inl (ct 0, 20, .inl (fun _ => 0))), (q19, .inl (ct 0, 320, .inl (fun _ => 0))), (q20, .inl (ct 0, 320, .inl (fun _ => 0))), (q21, .inl (ct 0, 320, .inl (fun _ => 0))), (q22, .inl (ct 0, 320, .inl (fun _ => 0))), (q23, .inl (ct 0, 320, .inl (fun _ => 0))), (q24, .inl (ct 0, 320, .inl (fun _ => 0))), (q25, .inl (ct 0, 3200, .inl (fun _ => 0))), (q26, .inl (ct 0, 3200, .inl (fun _ => 0))), (q27, .inl (ct 0, 200, .inl (fun _ => 0))), (q28, .inl (ct 0, 200, .inl (fun _ => 0))), (q29, .inl (ct 3, 200, .inl (fun _ => 0))), (q30, .inl (ct 0, 16, .inl (fun _ => 0))), (q31, .inl (ct 0, 16, .inl (fun _ => 0))), (q32, .inl (ct 0, 400, .inl (fun _ => 0))), (q33, .inl (ct 0, 200, .inl (fun _ => 0))), (q34, .inl (ct 0, 200, .inl (fun _ => 0))), (q35, .inl (ct 0, 200, .inl (fun _ => 0))), (q36, .inl (ct 0, 200, .inl (fun _ => 0))), (q37, .inl (ct 0, 200, .inl (fun _ => 0))), (q38, .inl (ct 0, 200, .inl (fun _ => 0))), (q39, .inl (ct 0, 1600, .inl (fun _ => 0))), (q40, .inl (ct 0, 200, .inl (fun _ => 0))), (q41, .inl (ct 0, 2400, .inl (fun _ => 0))), (q42, .inl (ct 0, 2400, .inl (fun _ => 0))), (q43, .inl (ct 0, 200, .inl (fun _ => 0))), (q44, .inl (ct 0, 400, .inl (fun _ => 0))), (q45, .inl (ct 0, 400, .inl (fun _ => 0))), (q46, .inl (ct 0, 400, .inl (fun _ => 0))), (q47, .inl (ct 0, 400, .inl (fun _ => 0)))] : va_W)) B rfl
  refine at_pc (n := 413) rfl ?_
  refine lv_aload_n E.1.1 E.1.2.1 dX12_init_413 rfl (lv_at hl 0 rfl) ?_
  refine lv_sipush (v := 400) E.1.1 E.1.2.1 dX12_init_414 (by decide) ?_
  refine row_newa (atype := .int) (a0 := (400, .inl (fun _ => 0))) E B w_e8e14353 rfl 0 rfl (fun _ => rfl) (by decide) (by decide) (Nat.le_of_ble_eq_true rfl) (Nat.le_of_ble_eq_true rfl) (Nat.le_of_ble_eq_true rfl) dX12_init_417 ?_
  clear B
  intro q48 H B
  refine at_n (n := 419) (k1 := 48) (k2 := 26656) rfl rfl rfl ?_
  refine row_putF E B iX12 rfl tyX12 tyX12_ok nmX12 65 (by decide) w_948dbad4 rfl hnm rfl (ws.length + 0) ((at_pp _ _ _ _).trans rfl) rfl rfl (Nat.le_of_ble_eq_true rfl) dX12_init_419 ?_
  clear B
  intro H locs B
  replace B := Hp.to B (set_pp ..)
  replace B := Hp.to (ws' := ws ++ ([(h, .inr (12, [.ref q1, .int 0, .int 0, .int 0, .int 0, .int 0, .int 0, .int 0, .int 0, .int 0, .ref q2, .ref q3, .ref q4, .ref q5, .ref q6, .ref q7, .ref q8, .ref q9, .ref q10, .ref q11, .ref q12, .ref q13, .ref q14, .ref q15, .ref q16, .ref q17, .ref q18, .ref q19, .ref q20, .ref q21, .ref q22, .ref q23, .ref q24, .ref q25, .ref q26, .int 0, .int 0, .int 0, .int 0, .int 0, .int 0, .int 0, .int 0, .int 0, .ref q27, .ref q28, .ref q29, .ref q30, .ref q31, .ref q32, .ref q33, .ref q34, .ref q35, .ref q36, .ref q37, .ref q38, .ref q39, .ref q40, .ref q41, .ref q42, .ref q43, .ref q44, .ref q45, .ref q46, .ref q47, .ref q48, .null, .null, .int 0, .null, .null, .null, .int 0, .int 0, .int 0, .int 0, .int 0, .int 0, .int 0, .null, .int 0, .null, .null, .null, .null, .null, .null, .null, .null, .int 0, .null, .int 0, .int 0, .null, .null, .null])), (q1, .inl (ct 1, 200, .inl (fun _ => 0))), (q2, .inl (ct 0, 60, .inl (fun _ => 0))), (q3, .inl (ct 0, 60, .inl (fun _ => 0))), (q4, .inl (ct 0, 180, .inl (fun _ => 0))), (q5, .inl (ct 0, 1440, .inl (fun _ => 0))), (q6, .inl (ct 0, 320, .inl (fun _ => 0))), (q7, .inl (ct 1, 3840, .inl (fun _ => 0))), (q8, .inl (ct 0, 6, .inl (fun _ => 0))), (q9, .inl (ct 0, 6, .inl (fun _ => 0))), (q10, .inl (ct 0, 24, .inl (fun _ => 0))), (q11, .inl (ct 3, 24, .inl (fun _ => 0))), (q12, .inl (ct 3, 24, .inl (fun _ => 0))), (q13, .inl (ct 1, 960, .inl (fun _ => 0))), (q14, .inl (ct 0, 80, .inl (fun _ => 0))), (q15, .inl (ct 0, 20, .inl (fun _ => 0))), (q16, .inl (ct 0, 20, .inl (fun _ => 0))), (q17, .inl (ct 0, 20, .inl (fun _ => 0))), (q18, .inl (ct 0, 20, .inl (fun _ => 0))), (q19, .inl (ct 0, 320, .inl (fun _ => 0))), (q20, .inl (ct 0, 320, .inl (fun _ => 0))), (q21, .inl (ct 0, 320, .inl (fun _ => 0))), (q22, .inl (ct 0, 320, .inl (fun _ => 0))), (q23, .inl (ct 0, 320, .inl (fun _ => 0))), (q24, .inl (ct 0, 320, .inl (fun _ => 0))), (q25, .inl (ct 0, 3200, .inl (fun _ => 0))), (q26, .inl (ct 0, 3200, .inl (fun _ => 0))), (q27, .inl (ct 0, 200, .inl (fun _ => 0))), (q28, .inl (ct 0, 200, .inl (fun _ => 0))), (q29, .inl (ct 3, 200, .inl (fun _ => 0))), (q30, .inl (ct 0, 16, .inl (fun _ => 0))), (q31, .inl (ct 0, 16, .inl (fun _ => 0))), (q32, .inl (ct 0, 400, .inl (fun _ => 0))), (q33, .inl (ct 0, 200, .inl (fun _ => 0))), (q34, .inl (ct 0, 200, .inl (fun _ => 0))), (q35, .inl (ct 0, 200, .inl (fun _ => 0))), (q36, .inl (ct 0, 200, .inl (fun _ => 0))), (q37, .inl (ct 0, 200, .inl (fun _ => 0))), (q38, .inl (ct 0, 200, .inl (fun _ => 0))), (q39, .inl (ct 0, 1600, .inl (fun _ => 0))), (q40, .inl (ct 0, 200, .inl (fun _ => 0))), (q41, .inl (ct 0, 2400, .inl (fun _ => 0))), (q42, .inl (ct 0, 2400, .inl (fun _ => 0))), (q43, .inl (ct 0, 200, .inl (fun _ => 0))), (q44, .inl (ct 0, 400, .inl (fun _ => 0))), (q45, .inl (ct 0, 400, .inl (fun _ => 0))), (q46, .inl (ct 0, 400, .inl (fun _ => 0))), (q47, .inl (ct 0, 400, .inl (fun _ => 0))), (q48, .inl (ct 0, 400, .inl (fun _ => 0)))] : va_W)) B rfl
  refine at_pc (n := 422) rfl ?_
  refine lv_aload_n E.1.1 E.1.2.1 dX12_init_422 rfl (lv_at hl 0 rfl) ?_
  refine lv_sipush (v := 400) E.1.1 E.1.2.1 dX12_init_423 (by decide) ?_
  refine row_newa (atype := .int) (a0 := (400, .inl (fun _ => 0))) E B w_e8e14353 rfl 0 rfl (fun _ => rfl) (by decide) (by decide) (Nat.le_of_ble_eq_true rfl) (Nat.le_of_ble_eq_true rfl) (Nat.le_of_ble_eq_true rfl) dX12_init_426 ?_
  clear B
  intro q49 H B
  refine at_n (n := 428) (k1 := 49) (k2 := 27056) rfl rfl rfl ?_
  refine row_putF E B iX12 rfl tyX12 tyX12_ok nmX12 66 (by decide) w_8d3921ee rfl hnm rfl (ws.length + 0) ((at_pp _ _ _ _).trans rfl) rfl rfl (Nat.le_of_ble_eq_true rfl) dX12_init_428 ?_
  clear B
  intro H locs B
  replace B := Hp.to B (set_pp ..)
  replace B := Hp.to (ws' := ws ++ ([(h, .inr (12, [.ref q1, .int 0, .int 0, .int 0, .int 0, .int 0, .int 0, .int 0, .int 0, .int 0, .ref q2, .ref q3, .ref q4, .ref q5, .ref q6, .ref q7, .ref q8, .ref q9, .ref q10, .ref q11, .ref q12, .ref q13, .ref q14, .ref q15, .ref q16, .ref q17, .ref q18, .ref q19, .ref q20, .ref q21, .ref q22, .ref q23, .ref q24, .ref q25, .ref q26, .int 0, .int 0, .int 0, .int 0, .int 0, .int 0, .int 0, .int 0, .int 0, .ref q27, .ref q28, .ref q29, .ref q30, .ref q31, .ref q32, .ref q33, .ref q34, .ref q35, .ref q36, .ref q37, .ref q38, .ref q39, .ref q40, .ref q41, .ref q42, .ref q43, .ref q44, .ref q45, .ref q46, .ref q47, .ref q48, .ref q49, .null, .int 0, .null, .null, .null, .int 0, .int 0, .int 0, .int 0, .int 0, .int 0, .int 0, .null, .int 0, .null, .null, .null, .null, .null, .null, .null, .null, .int 0, .null, .int 0, .int 0, .null, .null, .null])), (q1, .inl (ct 1, 200, .inl (fun _ => 0))), (q2, .inl (ct 0, 60, .inl (fun _ => 0))), (q3, .inl (ct 0, 60, .inl (fun _ => 0))), (q4, .inl (ct 0, 180, .inl (fun _ => 0))), (q5, .inl (ct 0, 1440, .inl (fun _ => 0))), (q6, .inl (ct 0, 320, .inl (fun _ => 0))), (q7, .inl (ct 1, 3840, .inl (fun _ => 0))), (q8, .inl (ct 0, 6, .inl (fun _ => 0))), (q9, .inl (ct 0, 6, .inl (fun _ => 0))), (q10, .inl (ct 0, 24, .inl (fun _ => 0))), (q11, .inl (ct 3, 24, .inl (fun _ => 0))), (q12, .inl (ct 3, 24, .inl (fun _ => 0))), (q13, .inl (ct 1, 960, .inl (fun _ => 0))), (q14, .inl (ct 0, 80, .inl (fun _ => 0))), (q15, .inl (ct 0, 20, .inl (fun _ => 0))), (q16, .inl (ct 0, 20, .inl (fun _ => 0))), (q17, .inl (ct 0, 20, .inl (fun _ => 0))), (q18, .inl (ct 0, 20, .inl (fun _ => 0))), (q19, .inl (ct 0, 320, .inl (fun _ => 0))), (q20, .inl (ct 0, 320, .inl (fun _ => 0))), (q21, .inl (ct 0, 320, .inl (fun _ => 0))), (q22, .inl (ct 0, 320, .inl (fun _ => 0))), (q23, .inl (ct 0, 320, .inl (fun _ => 0))), (q24, .inl (ct 0, 320, .inl (fun _ => 0))), (q25, .inl (ct 0, 3200, .inl (fun _ => 0))), (q26, .inl (ct 0, 3200, .inl (fun _ => 0))), (q27, .inl (ct 0, 200, .inl (fun _ => 0))), (q28, .inl (ct 0, 200, .inl (fun _ => 0))), (q29, .inl (ct 3, 200, .inl (fun _ => 0))), (q30, .inl (ct 0, 16, .inl (fun _ => 0))), (q31, .inl (ct 0, 16, .inl (fun _ => 0))), (q32, .inl (ct 0, 400, .inl (fun _ => 0))), (q33, .inl (ct 0, 200, .inl (fun _ => 0))), (q34, .inl (ct 0, 200, .inl (fun _ => 0))), (q35, .inl (ct 0, 200, .inl (fun _ => 0))), (q36, .inl (ct 0, 200, .inl (fun _ => 0))), (q37, .inl (ct 0, 200, .inl (fun _ => 0))), (q38, .inl (ct 0, 200, .inl (fun _ => 0))), (q39, .inl (ct 0, 1600, .inl (fun _ => 0))), (q40, .inl (ct 0, 200, .inl (fun _ => 0))), (q41, .inl (ct 0, 2400, .inl (fun _ => 0))), (q42, .inl (ct 0, 2400, .inl (fun _ => 0))), (q43, .inl (ct 0, 200, .inl (fun _ => 0))), (q44, .inl (ct 0, 400, .inl (fun _ => 0))), (q45, .inl (ct 0, 400, .inl (fun _ => 0))), (q46, .inl (ct 0, 400, .inl (fun _ => 0))), (q47, .inl (ct 0, 400, .inl (fun _ => 0))), (q48, .inl (ct 0, 400, .inl (fun _ => 0))), (q49, .inl (ct 0, 400, .inl (fun _ => 0)))] : va_W)) B rfl
  refine at_pc (n := 431) rfl ?_
  refine lv_aload_n E.1.1 E.1.2.1 dX12_init_431 rfl (lv_at hl 0 rfl) ?_
  refine lv_sipush (v := 400) E.1.1 E.1.2.1 dX12_init_432 (by decide) ?_
  refine row_newa (atype := .int) (a0 := (400, .inl (fun _ => 0))) E B w_e8e14353 rfl 0 rfl (fun _ => rfl) (by decide) (by decide) (Nat.le_of_ble_eq_true rfl) (Nat.le_of_ble_eq_true rfl) (Nat.le_of_ble_eq_true rfl) dX12_init_435 ?_
  clear B
  intro q50 H B
  refine at_n (n := 437) (k1 := 50) (k2 := 27456) rfl rfl rfl ?_
  refine row_putF E B iX12 rfl tyX12 tyX12_ok nmX12 67 (by decide) w_1c54610a rfl hnm rfl (ws.length + 0) ((at_pp _ _ _ _).trans rfl) rfl rfl (Nat.le_of_ble_eq_true rfl) dX12_init_437 ?_
  clear B
  intro H locs B
  replace B := Hp.to B (set_pp ..)
  replace B := Hp.to (ws' := ws ++ ([(h, .inr (12, [.ref q1, .int 0, .int 0, .int 0, .int 0, .int 0, .int 0, .int 0, .int 0, .int 0, .ref q2, .ref q3, .ref q4, .ref q5, .ref q6, .ref q7, .ref q8, .ref q9, .ref q10, .ref q11, .ref q12, .ref q13, .ref q14, .ref q15, .ref q16, .ref q17, .ref q18, .ref q19, .ref q20, .ref q21, .ref q22, .ref q23, .ref q24, .ref q25, .ref q26, .int 0, .int 0, .int 0, .int 0, .int 0, .int 0, .int 0, .int 0, .int 0, .ref q27, .ref q28, .ref q29, .ref q30, .ref q31, .ref q32, .ref q33, .ref q34, .ref q35, .ref q36, .ref q37, .ref q38, .ref q39, .ref q40, .ref q41, .ref q42, .ref q43, .ref q44, .ref q45, .ref q46, .ref q47, .ref q48, .ref q49, .ref q50, .int 0, .null, .null, .null, .int 0, .int 0, .int 0, .int 0, .int 0, .int 0, .int 0, .null, .int 0, .null, .null, .null, .null, .null, .null, .null, .null, .int 0, .null, .int 0, .int 0, .null, .null, .null])), (q1, .inl (ct 1, 200, .inl (fun _ => 0))), (q2, .inl (ct 0, 60, .inl (fun _ => 0))), (q3, .inl (ct 0, 60, .inl (fun _ => 0))), (q4, .inl (ct 0, 180, .inl (fun _ => 0))), (q5, .inl (ct 0, 1440, .inl (fun _ => 0))), (q6, .inl (ct 0, 320, .inl (fun _ => 0))), (q7, .inl (ct 1, 3840, .inl (fun _ => 0))), (q8, .inl (ct 0, 6, .inl (fun _ => 0))), (q9, .inl (ct 0, 6, .inl (fun _ => 0))), (q10, .inl (ct 0, 24, .inl (fun _ => 0))), (q11, .inl (ct 3, 24, .inl (fun _ => 0))), (q12, .inl (ct 3, 24, .inl (fun _ => 0))), (q13, .inl (ct 1, 960, .inl (fun _ => 0))), (q14, .inl (ct 0, 80, .inl (fun _ => 0))), (q15, .inl (ct 0, 20, .inl (fun _ => 0))), (q16, .inl (ct 0, 20, .inl (fun _ => 0))), (q17, .inl (ct 0, 20, .inl (fun _ => 0))), (q18, .inl (ct 0, 20, .inl (fun _ => 0))), (q19, .inl (ct 0, 320, .inl (fun _ => 0))), (q20, .inl (ct 0, 320, .inl (fun _ => 0))), (q21, .inl (ct 0, 320, .inl (fun _ => 0))), (q22, .inl (ct 0, 320, .inl (fun _ => 0))), (q23, .inl (ct 0, 320, .inl (fun _ => 0))), (q24, .inl (ct 0, 320, .inl (fun _ => 0))), (q25, .inl (ct 0, 3200, .inl (fun _ => 0))), (q26, .inl (ct 0, 3200, .inl (fun _ => 0))), (q27, .inl (ct 0, 200, .inl (fun _ => 0))), (q28, .inl (ct 0, 200, .inl (fun _ => 0))), (q29, .inl (ct 3, 200, .inl (fun _ => 0))), (q30, .inl (ct 0, 16, .inl (fun _ => 0))), (q31, .inl (ct 0, 16, .inl (fun _ => 0))), (q32, .inl (ct 0, 400, .inl (fun _ => 0))), (q33, .inl (ct 0, 200, .inl (fun _ => 0))), (q34, .inl (ct 0, 200, .inl (fun _ => 0))), (q35, .inl (ct 0, 200, .inl (fun _ => 0))), (q36, .inl (ct 0, 200, .inl (fun _ => 0))), (q37, .inl (ct 0, 200, .inl (fun _ => 0))), (q38, .inl (ct 0, 200, .inl (fun _ => 0))), (q39, .inl (ct 0, 1600, .inl (fun _ => 0))), (q40, .inl (ct 0, 200, .inl (fun _ => 0))), (q41, .inl (ct 0, 2400, .inl (fun _ => 0))), (q42, .inl (ct 0, 2400, .inl (fun _ => 0))), (q43, .inl (ct 0, 200, .inl (fun _ => 0))), (q44, .inl (ct 0, 400, .inl (fun _ => 0))), (q45, .inl (ct 0, 400, .inl (fun _ => 0))), (q46, .inl (ct 0, 400, .inl (fun _ => 0))), (q47, .inl (ct 0, 400, .inl (fun _ => 0))), (q48, .inl (ct 0, 400, .inl (fun _ => 0))), (q49, .inl (ct 0, 400, .inl (fun _ => 0))), (q50, .inl (ct 0, 400, .inl (fun _ => 0)))] : va_W)) B rfl
  refine at_pc (n := 440) rfl ?_
  refine lv_aload_n E.1.1 E.1.2.1 dX12_init_440 rfl (lv_at hl 0 rfl) ?_
  refine lv_sipush (v := 4000) E.1.1 E.1.2.1 dX12_init_441 (by decide) ?_
  refine row_newa (atype := .int) (a0 := (4000, .inl (fun _ => 0))) E B w_e8e14353 rfl 0 rfl (fun _ => rfl) (by decide) (by decide) (Nat.le_of_ble_eq_true rfl) (Nat.le_of_ble_eq_true rfl) (Nat.le_of_ble_eq_true rfl) dX12_init_444 ?_
  clear B
  intro q51 H B
  refine at_n (n := 446) (k1 := 51) (k2 := 31456) rfl rfl rfl ?_
  refine row_putF E B iX12 rfl tyX12 tyX12_ok nmX12 69 (by decide) w_2722afdd rfl hnm rfl (ws.length + 0) ((at_pp _ _ _ _).trans rfl) rfl rfl (Nat.le_of_ble_eq_true rfl) dX12_init_446 ?_
  clear B
  intro H locs B
  replace B := Hp.to B (set_pp ..)
  replace B := Hp.to (ws' := ws ++ ([(h, .inr (12, [.ref q1, .int 0, .int 0, .int 0, .int 0, .int 0, .int 0, .int 0, .int 0, .int 0, .ref q2, .ref q3, .ref q4, .ref q5, .ref q6, .ref q7, .ref q8, .ref q9, .ref q10, .ref q11, .ref q12, .ref q13, .ref q14, .ref q15, .ref q16, .ref q17, .ref q18, .ref q19, .ref q20, .ref q21, .ref q22, .ref q23, .ref q24, .ref q25, .ref q26, .int 0, .int 0, .int 0, .int 0, .int 0, .int 0, .int 0, .int 0, .int 0, .ref q27, .ref q28, .ref q29, .ref q30, .ref q31, .ref q32, .ref q33, .ref q34, .ref q35, .ref q36, .ref q37, .ref q38, .ref q39, .ref q40, .ref q41, .ref q42, .ref q43, .ref q44, .ref q45, .ref q46, .ref q47, .ref q48, .ref q49, .ref q50, .int 0, .ref q51, .null, .null, .int 0, .int 0, .int 0, .int 0, .int 0, .int 0, .int 0, .null, .int 0, .null, .null, .null, .null, .null, .null, .null, .null, .int 0, .null, .int 0, .int 0, .null, .null, .null])), (q1, .inl (ct 1, 200, .inl (fun _ => 0))), (q2, .inl (ct 0, 60, .inl (fun _ => 0))), (q3, .inl (ct 0, 60, .inl (fun _ => 0))), (q4, .inl (ct 0, 180, .inl (fun _ => 0))), (q5, .inl (ct 0, 1440, .inl (fun _ => 0))), (q6, .inl (ct 0, 320, .inl (fun _ => 0))), (q7, .inl (ct 1, 3840, .inl (fun _ => 0))), (q8, .inl (ct 0, 6, .inl (fun _ => 0))), (q9, .inl (ct 0, 6, .inl (fun _ => 0))), (q10, .inl (ct 0, 24, .inl (fun _ => 0))), (q11, .inl (ct 3, 24, .inl (fun _ => 0))), (q12, .inl (ct 3, 24, .inl (fun _ => 0))), (q13, .inl (ct 1, 960, .inl (fun _ => 0))), (q14, .inl (ct 0, 80, .inl (fun _ => 0))), (q15, .inl (ct 0, 20, .inl (fun _ => 0))), (q16, .inl (ct 0, 20, .inl (fun _ => 0))), (q17, .inl (ct 0, 20, .inl (fun _ => 0))), (q18, .inl (ct 0, 20, .inl (fun _ => 0))), (q19, .inl (ct 0, 320, .inl (fun _ => 0))), (q20, .inl (ct 0, 320, .inl (fun _ => 0))), (q21, .inl (ct 0, 320, .inl (fun _ => 0))), (q22, .inl (ct 0, 320, .inl (fun _ => 0))), (q23, .inl (ct 0, 320, .inl (fun _ => 0))), (q24, .inl (ct 0, 320, .inl (fun _ => 0))), (q25, .inl (ct 0, 3200, .inl (fun _ => 0))), (q26, .inl (ct 0, 3200, .inl (fun _ => 0))), (q27, .inl (ct 0, 200, .inl (fun _ => 0))), (q28, .inl (ct 0, 200, .inl (fun _ => 0))), (q29, .inl (ct 3, 200, .inl (fun _ => 0))), (q30, .inl (ct 0, 16, .inl (fun _ => 0))), (q31, .inl (ct 0, 16, .inl (fun _ => 0))), (q32, .inl (ct 0, 400, .inl (fun _ => 0))), (q33, .inl (ct 0, 200, .inl (fun _ => 0))), (q34, .inl (ct 0, 200, .inl (fun _ => 0))), (q35, .inl (ct 0, 200, .inl (fun _ => 0))), (q36, .inl (ct 0, 200, .inl (fun _ => 0))), (q37, .inl (ct 0, 200, .inl (fun _ => 0))), (q38, .inl (ct 0, 200, .inl (fun _ => 0))), (q39, .inl (ct 0, 1600, .inl (fun _ => 0))), (q40, .inl (ct 0, 200, .inl (fun _ => 0))), (q41, .inl (ct 0, 2400, .inl (fun _ => 0))), (q42, .inl (ct 0, 2400, .inl (fun _ => 0))), (q43, .inl (ct 0, 200, .inl (fun _ => 0))), (q44, .inl (ct 0, 400, .inl (fun _ => 0))), (q45, .inl (ct 0, 400, .inl (fun _ => 0))), (q46, .inl (ct 0, 400, .inl (fun _ => 0))), (q47, .inl (ct 0, 400, .inl (fun _ => 0))), (q48, .inl (ct 0, 400, .inl (fun _ => 0))), (q49, .inl (ct 0, 400, .inl (fun _ => 0))), (q50, .inl (ct 0, 400, .inl (fun _ => 0))), (q51, .inl (ct 0, 4000, .inl (fun _ => 0)))] : va_W)) B rfl
  refine at_pc (n := 449) rfl ?_
  refine lv_aload_n E.1.1 E.1.2.1 dX12_init_449 rfl (lv_at hl 0 rfl) ?_
  refine lv_sipush (v := 4000) E.1.1 E.1.2.1 dX12_init_450 (by decide) ?_
  refine row_newa (atype := .int) (a0 := (4000, .inl (fun _ => 0))) E B w_e8e14353 rfl 0 rfl (fun _ => rfl) (by decide) (by decide) (Nat.le_of_ble_eq_true rfl) (Nat.le_of_ble_eq_true rfl) (Nat.le_of_ble_eq_true rfl) dX12_init_453 ?_
  clear B
  intro q52 H B
  refine at_n (n := 455) (k1 := 52) (k2 := 35456) rfl rfl rfl ?_
  refine row_putF E B iX12 rfl tyX12 tyX12_ok nmX12 70 (by decide) w_7c1e42b2 rfl hnm rfl (ws.length + 0) ((at_pp _ _ _ _).trans rfl) rfl rfl (Nat.le_of_ble_eq_true rfl) dX12_init_455 ?_
  clear B
  intro H locs B
  replace B := Hp.to B (set_pp ..)
  replace B := Hp.to (ws' := ws ++ ([(h, .inr (12, [.ref q1, .int 0, .int 0, .int 0, .int 0, .int 0, .int 0, .int 0, .int 0, .int 0, .ref q2, .ref q3, .ref q4, .ref q5, .ref q6, .ref q7, .ref q8, .ref q9, .ref q10, .ref q11, .ref q12, .ref q13, .ref q14, .ref q15, .ref q16, .ref q17, .ref q18, .ref q19, .ref q20, .ref q21, .ref q22, .ref q23, .ref q24, .ref q25, .ref q26, .int 0, .int 0, .int 0, .int 0, .int 0, .int 0, .int 0, .int 0, .int 0, .ref q27, .ref q28, .ref q29, .ref q30, .ref q31, .ref q32, .ref q33, .ref q34, .ref q35, .ref q36, .ref q37, .ref q38, .ref q39, .ref q40, .ref q41, .ref q42, .ref q43, .ref q44, .ref q45, .ref q46, .ref q47, .ref q48, .ref q49, .ref q50, .int 0, .ref q51, .ref q52, .null, .int 0, .int 0, .int 0, .int 0, .int 0, .int 0, .int 0, .null, .int 0, .null, .null, .null, .null, .null, .null, .null, .null, .int 0, .null, .int 0, .int 0, .null, .null, .null])), (q1, .inl (ct 1, 200, .inl (fun _ => 0))), (q2, .inl (ct 0, 60, .inl (fun _ => 0))), (q3, .inl (ct 0, 60, .inl (fun _ => 0))), (q4, .inl (ct 0, 180, .inl (fun _ => 0))), (q5, .inl (ct 0, 1440, .inl (fun _ => 0))), (q6, .inl (ct 0, 320, .inl (fun _ => 0))), (q7, .inl (ct 1, 3840, .inl (fun _ => 0))), (q8, .inl (ct 0, 6, .inl (fun _ => 0))), (q9, .inl (ct 0, 6, .inl (fun _ => 0))), (q10, .inl (ct 0, 24, .inl (fun _ => 0))), (q11, .inl (ct 3, 24, .inl (fun _ => 0))), (q12, .inl (ct 3, 24, .inl (fun _ => 0))), (q13, .inl (ct 1, 960, .inl (fun _ => 0))), (q14, .inl (ct 0, 80, .inl (fun _ => 0))), (q15, .inl (ct 0, 20, .inl (fun _ => 0))), (q16, .inl (ct 0, 20, .inl (fun _ => 0))), (q17, .inl (ct 0, 20, .inl (fun _ => 0))), (q18, .inl (ct 0, 20, .inl (fun _ => 0))), (q19, .inl (ct 0, 320, .inl (fun _ => 0))), (q20, .inl (ct 0, 320, .inl (fun _ => 0))), (q21, .inl (ct 0, 320, .inl (fun _ => 0))), (q22, .inl (ct 0, 320, .inl (fun _ => 0))), (q23, .inl (ct 0, 320, .inl (fun _ => 0))), (q24, .inl (ct 0, 320, .inl (fun _ => 0))), (q25, .inl (ct 0, 3200, .inl (fun _ => 0))), (q26, .inl (ct 0, 3200, .inl (fun _ => 0))), (q27, .inl (ct 0, 200, .inl (fun _ => 0))), (q28, .inl (ct 0, 200, .inl (fun _ => 0))), (q29, .inl (ct 3, 200, .inl (fun _ => 0))), (q30, .inl (ct 0, 16, .inl (fun _ => 0))), (q31, .inl (ct 0, 16, .inl (fun _ => 0))), (q32, .inl (ct 0, 400, .inl (fun _ => 0))), (q33, .inl (ct 0, 200, .inl (fun _ => 0))), (q34, .inl (ct 0, 200, .inl (fun _ => 0))), (q35, .inl (ct 0, 200, .inl (fun _ => 0))), (q36, .inl (ct 0, 200, .inl (fun _ => 0))), (q37, .inl (ct 0, 200, .inl (fun _ => 0))), (q38, .inl (ct 0, 200, .inl (fun _ => 0))), (q39, .inl (ct 0, 1600, .inl (fun _ => 0))), (q40, .inl (ct 0, 200, .inl (fun _ => 0))), (q41, .inl (ct 0, 2400, .inl (fun _ => 0))), (q42, .inl (ct 0, 2400, .inl (fun _ => 0))), (q43, .inl (ct 0, 200, .inl (fun _ => 0))), (q44, .inl (ct 0, 400, .inl (fun _ => 0))), (q45, .inl (ct 0, 400, .inl (fun _ => 0))), (q46, .inl (ct 0, 400, .inl (fun _ => 0))), (q47, .inl (ct 0, 400, .inl (fun _ => 0))), (q48, .inl (ct 0, 400, .inl (fun _ => 0))), (q49, .inl (ct 0, 400, .inl (fun _ => 0))), (q50, .inl (ct 0, 400, .inl (fun _ => 0))), (q51, .inl (ct 0, 4000, .inl (fun _ => 0))), (q52, .inl (ct 0, 4000, .inl (fun _ => 0)))] : va_W)) B rfl
  refine at_pc (n := 458) rfl ?_
  refine lv_aload_n E.1.1 E.1.2.1 dX12_init_458 rfl (lv_at hl 0 rfl) ?_
  refine lv_sipush (v := 4000) E.1.1 E.1.2.1 dX12_init_459 (by decide) ?_
  refine row_newa (atype := .int) (a0 := (4000, .inl (fun _ => 0))) E B w_e8e14353 rfl 0 rfl (fun _ => rfl) (by decide) (by decide) (Nat.le_of_ble_eq_true rfl) (Nat.le_of_ble_eq_true rfl) (Nat.le_of_ble_eq_true rfl) dX12_init_462 ?_
  clear B
  intro q53 H B
  refine at_n (n := 464) (k1 := 53) (k2 := 39456) rfl rfl rfl ?_
  refine row_putF E B iX12 rfl tyX12 tyX12_ok nmX12 71 (by decide) w_9e484f8b rfl hnm rfl (ws.length + 0) ((at_pp _ _ _ _).trans rfl) rfl rfl (Nat.le_of_ble_eq_true rfl) dX12_init_464 ?_
  clear B
  intro H locs B
  replace B := Hp.to B (set_pp ..)
  replace B := Hp.to (ws' := ws ++ ([(h, .inr (12, [.ref q1, .int 0, .int 0, .int 0, .int 0, .int 0, .int 0, .int 0, .int 0, .int 0, .ref q2, .ref q3, .ref q4, .ref q5, .ref q6, .ref q7, .ref q8, .ref q9, .ref q10, .ref q11, .ref q12, .ref q13, .ref q14, .ref q15, .ref q16, .ref q17, .ref q18, .ref q19, .ref q20, .ref q21, .ref q22, .ref q23, .ref q24, .ref q25, .ref q26, .int 0, .int 0, .int 0, .int 0, .int 0, .int 0, .int 0, .int 0, .int 0, .ref q27, .ref q28, .ref q29, .ref q30, .ref q31, .ref q32, .ref q33, .ref q34, .ref q35, .ref q36, .ref q37, .ref q38, .ref q39, .ref q40, .ref q41, .ref q42, .ref q43, .ref q44, .ref q45, .ref q46, .ref q47, .ref q48, .ref q49, .ref q50, .int 0, .ref q51, .ref q52, .ref q53, .int 0, .int 0, .int 0, .int 0, .int 0, .int 0, .int 0, .null, .int 0, .null, .null, .null, .null, .null, .null, .null, .null, .int 0, .null, .int 0, .int 0, .null, .null, .null])), (q1, .inl (ct 1, 200, .inl (fun _ => 0))), (q2, .inl (ct 0, 60, .inl (fun _ => 0))), (q3, .inl (ct 0, 60, .inl (fun _ => 0))), (q4, .inl (ct 0, 180, .inl (fun _ => 0))), (q5, .inl (ct 0, 1440, .inl (fun _ => 0))), (q6, .inl (ct 0, 320, .inl (fun _ => 0))), (q7, .inl (ct 1, 3840, .inl (fun _ => 0))), (q8, .inl (ct 0, 6, .inl (fun _ => 0))), (q9, .inl (ct 0, 6, .inl (fun _ => 0))), (q10, .inl (ct 0, 24, .inl (fun _ => 0))), (q11, .inl (ct 3, 24, .inl (fun _ => 0))), (q12, .inl (ct 3, 24, .inl (fun _ => 0))), (q13, .inl (ct 1, 960, .inl (fun _ => 0))), (q14, .inl (ct 0, 80, .inl (fun _ => 0))), (q15, .inl (ct 0, 20, .inl (fun _ => 0))), (q16, .inl (ct 0, 20, .inl (fun _ => 0))), (q17, .inl (ct 0, 20, .inl (fun _ => 0))), (q18, .inl (ct 0, 20, .inl (fun _ => 0))), (q19, .inl (ct 0, 320, .inl (fun _ => 0))), (q20, .inl (ct 0, 320, .inl (fun _ => 0))), (q21, .inl (ct 0, 320, .inl (fun _ => 0))), (q22, .inl (ct 0, 320, .inl (fun _ => 0))), (q23, .inl (ct 0, 320, .inl (fun _ => 0))), (q24, .inl (ct 0, 320, .inl (fun _ => 0))), (q25, .inl (ct 0, 3200, .inl (fun _ => 0))), (q26, .inl (ct 0, 3200, .inl (fun _ => 0))), (q27, .inl (ct 0, 200, .inl (fun _ => 0))), (q28, .inl (ct 0, 200, .inl (fun _ => 0))), (q29, .inl (ct 3, 200, .inl (fun _ => 0))), (q30, .inl (ct 0, 16, .inl (fun _ => 0))), (q31, .inl (ct 0, 16, .inl (fun _ => 0))), (q32, .inl (ct 0, 400, .inl (fun _ => 0))), (q33, .inl (ct 0, 200, .inl (fun _ => 0))), (q34, .inl (ct 0, 200, .inl (fun _ => 0))), (q35, .inl (ct 0, 200, .inl (fun _ => 0))), (q36, .inl (ct 0, 200, .inl (fun _ => 0))), (q37, .inl (ct 0, 200, .inl (fun _ => 0))), (q38, .inl (ct 0, 200, .inl (fun _ => 0))), (q39, .inl (ct 0, 1600, .inl (fun _ => 0))), (q40, .inl (ct 0, 200, .inl (fun _ => 0))), (q41, .inl (ct 0, 2400, .inl (fun _ => 0))), (q42, .inl (ct 0, 2400, .inl (fun _ => 0))), (q43, .inl (ct 0, 200, .inl (fun _ => 0))), (q44, .inl (ct 0, 400, .inl (fun _ => 0))), (q45, .inl (ct 0, 400, .inl (fun _ => 0))), (q46, .inl (ct 0, 400, .inl (fun _ => 0))), (q47, .inl (ct 0, 400, .inl (fun _ => 0))), (q48, .inl (ct 0, 400, .inl (fun _ => 0))), (q49, .inl (ct 0, 400, .inl (fun _ => 0))), (q50, .inl (ct 0, 400, .inl (fun _ => 0))), (q51, .inl (ct 0, 4000, .inl (fun _ => 0))), (q52, .inl (ct 0, 4000, .inl (fun _ => 0))), (q53, .inl (ct 0, 4000, .inl (fun _ => 0)))] : va_W)) B rfl
  refine at_pc (n := 467) rfl ?_
  refine lv_aload_n E.1.1 E.1.2.1 dX12_init_467 rfl (lv_at hl 0 rfl) ?_
  refine lv_bipush (v := 60) E.1.1 E.1.2.1 dX12_init_468 (by decide) ?_
  refine row_newa (atype := .int) (a0 := (60, .inl (fun _ => 0))) E B w_e8e14353 rfl 0 rfl (fun _ => rfl) (by decide) (by decide) (Nat.le_of_ble_eq_true rfl) (Nat.le_of_ble_eq_true rfl) (Nat.le_of_ble_eq_true rfl) dX12_init_470 ?_
  clear B
  intro q54 H B
  refine at_n (n := 472) (k1 := 54) (k2 := 39516) rfl rfl rfl ?_
  refine row_putF E B iX12 rfl tyX12 tyX12_ok nmX12 79 (by decide) w_b72016d3 rfl hnm rfl (ws.length + 0) ((at_pp _ _ _ _).trans rfl) rfl rfl (Nat.le_of_ble_eq_true rfl) dX12_init_472 ?_
  clear B
  intro H locs B
  replace B := Hp.to B (set_pp ..)
  replace B := Hp.to (ws' := ws ++ ([(h, .inr (12, [.ref q1, .int 0, .int 0, .int 0, .int 0, .int 0, .int 0, .int 0, .int 0, .int 0, .ref q2, .ref q3, .ref q4, .ref q5, .ref q6, .ref q7, .ref q8, .ref q9, .ref q10, .ref q11, .ref q12, .ref q13, .ref q14, .ref q15, .ref q16, .ref q17, .ref q18, .ref q19, .ref q20, .ref q21, .ref q22, .ref q23, .ref q24, .ref q25, .ref q26, .int 0, .int 0, .int 0, .int 0, .int 0, .int 0, .int 0, .int 0, .int 0, .ref q27, .ref q28, .ref q29, .ref q30, .ref q31, .ref q32, .ref q33, .ref q34, .ref q35, .ref q36, .ref q37, .ref q38, .ref q39, .ref q40, .ref q41, .ref q42, .ref q43, .ref q44, .ref q45, .ref q46, .ref q47, .ref q48, .ref q49, .ref q50, .int 0, .ref q51, .ref q52, .ref q53, .int 0, .int 0, .int 0, .int 0, .int 0, .int 0, .int 0, .ref q54, .int 0, .null, .null, .null, .null, .null, .null, .null, .null, .int 0, .null, .int 0, .int 0, .null, .null, .null])), (q1, .inl (ct 1, 200, .inl (fun _ => 0))), (q2, .inl (ct 0, 60, .inl (fun _ => 0))), (q3, .inl (ct 0, 60, .inl (fun _ => 0))), (q4, .inl (ct 0, 180, .inl (fun _ => 0))), (q5, .inl (ct 0, 1440, .inl (fun _ => 0))), (q6, .inl (ct 0, 320, .inl (fun _ => 0))), (q7, .inl (ct 1, 3840, .inl (fun _ => 0))), (q8, .inl (ct 0, 6, .inl (fun _ => 0))), (q9, .inl (ct 0, 6, .inl (fun _ => 0))), (q10, .inl (ct 0, 24, .inl (fun _ => 0))), (q11, .inl (ct 3, 24, .inl (fun _ => 0))), (q12, .inl (ct 3, 24, .inl (fun _ => 0))), (q13, .inl (ct 1, 960, .inl (fun _ => 0))), (q14, .inl (ct 0, 80, .inl (fun _ => 0))), (q15, .inl (ct 0, 20, .inl (fun _ => 0))), (q16, .inl (ct 0, 20, .inl (fun _ => 0))), (q17, .inl (ct 0, 20, .inl (fun _ => 0))), (q18, .inl (ct 0, 20, .inl (fun _ => 0))), (q19, .inl (ct 0, 320, .inl (fun _ => 0))), (q20, .inl (ct 0, 320, .inl (fun _ => 0))), (q21, .inl (ct 0, 320, .inl (fun _ => 0))), (q22, .inl (ct 0, 320, .inl (fun _ => 0))), (q23, .inl (ct 0, 320, .inl (fun _ => 0))), (q24, .inl (ct 0, 320, .inl (fun _ => 0))), (q25, .inl (ct 0, 3200, .inl (fun _ => 0))), (q26, .inl (ct 0, 3200, .inl (fun _ => 0))), (q27, .inl (ct 0, 200, .inl (fun _ => 0))), (q28, .inl (ct 0, 200, .inl (fun _ => 0))), (q29, .inl (ct 3, 200, .inl (fun _ => 0))), (q30, .inl (ct 0, 16, .inl (fun _ => 0))), (q31, .inl (ct 0, 16, .inl (fun _ => 0))), (q32, .inl (ct 0, 400, .inl (fun _ => 0))), (q33, .inl (ct 0, 200, .inl (fun _ => 0))), (q34, .inl (ct 0, 200, .inl (fun _ => 0))), (q35, .inl (ct 0, 200, .inl (fun _ => 0))), (q36, .inl (ct 0, 200, .inl (fun _ => 0))), (q37, .inl (ct 0, 200, .inl (fun _ => 0))), (q38, .inl (ct 0, 200, .inl (fun _ => 0))), (q39, .inl (ct 0, 1600, .inl (fun _ => 0))), (q40, .inl (ct 0, 200, .inl (fun _ => 0))), (q41, .inl (ct 0, 2400, .inl (fun _ => 0))), (q42, .inl (ct 0, 2400, .inl (fun _ => 0))), (q43, .inl (ct 0, 200, .inl (fun _ => 0))), (q44, .inl (ct 0, 400, .inl (fun _ => 0))), (q45, .inl (ct 0, 400, .inl (fun _ => 0))), (q46, .inl (ct 0, 400, .inl (fun _ => 0))), (q47, .inl (ct 0, 400, .inl (fun _ => 0))), (q48, .inl (ct 0, 400, .inl (fun _ => 0))), (q49, .inl (ct 0, 400, .inl (fun _ => 0))), (q50, .inl (ct 0, 400, .inl (fun _ => 0))), (q51, .inl (ct 0, 4000, .inl (fun _ => 0))), (q52, .inl (ct 0, 4000, .inl (fun _ => 0))), (q53, .inl (ct 0, 4000, .inl (fun _ => 0))), (q54, .inl (ct 0, 60, .inl (fun _ => 0)))] : va_W)) B rfl
  refine at_pc (n := 475) rfl ?_
  refine lv_aload_n E.1.1 E.1.2.1 dX12_init_475 rfl (lv_at hl 0 rfl) ?_
  refine lv_bipush (v := 6) E.1.1 E.1.2.1 dX12_init_476 (by decide) ?_
  refine row_newa (atype := .int) (a0 := (6, .inl (fun _ => 0))) E B w_e8e14353 rfl 0 rfl (fun _ => rfl) (by decide) (by decide) (Nat.le_of_ble_eq_true rfl) (Nat.le_of_ble_eq_true rfl) (Nat.le_of_ble_eq_true rfl) dX12_init_478 ?_
  clear B
  intro q55 H B
  refine at_n (n := 480) (k1 := 55) (k2 := 39522) rfl rfl rfl ?_
  refine row_putF E B iX12 rfl tyX12 tyX12_ok nmX12 81 (by decide) w_bd96f7f2 rfl hnm rfl (ws.length + 0) ((at_pp _ _ _ _).trans rfl) rfl rfl (Nat.le_of_ble_eq_true rfl) dX12_init_480 ?_
  clear B
  intro H locs B
  replace B := Hp.to B (set_pp ..)
  replace B := Hp.to (ws' := ws ++ ([(h, .inr (12, [.ref q1, .int 0, .int 0, .int 0, .int 0, .int 0, .int 0, .int 0, .int 0, .int 0, .ref q2, .ref q3, .ref q4, .ref q5, .ref q6, .ref q7, .ref q8, .ref q9, .ref q10, .ref q11, .ref q12, .ref q13, .ref q14, .ref q15, .ref q16, .ref q17, .ref q18, .ref q19, .ref q20, .ref q21, .ref q22, .ref q23, .ref q24, .ref q25, .ref q26, .int 0, .int 0, .int 0, .int 0, .int 0, .int 0, .int 0, .int 0, .int 0, .ref q27, .ref q28, .ref q29, .ref q30, .ref q31, .ref q32, .ref q33, .ref q34, .ref q35, .ref q36, .ref q37, .ref q38, .ref q39, .ref q40, .ref q41, .ref q42, .ref q43, .ref q44, .ref q45, .ref q46, .ref q47, .ref q48, .ref q49, .ref q50, .int 0, .ref q51, .ref q52, .ref q53, .int 0, .int 0, .int 0, .int 0, .int 0, .int 0, .int 0, .ref q54, .int 0, .ref q55, .null, .null, .null, .null, .null, .null, .null, .int 0, .null, .int 0, .int 0, .null, .null, .null])), (q1, .inl (ct 1, 200, .inl (fun _ => 0))), (q2, .inl (ct 0, 60, .inl (fun _ => 0))), (q3, .inl (ct 0, 60, .inl (fun _ => 0))), (q4, .inl (ct 0, 180, .inl (fun _ => 0))), (q5, .inl (ct 0, 1440, .inl (fun _ => 0))), (q6, .inl (ct 0, 320, .inl (fun _ => 0))), (q7, .inl (ct 1, 3840, .inl (fun _ => 0))), (q8, .inl (ct 0, 6, .inl (fun _ => 0))), (q9, .inl (ct 0, 6, .inl (fun _ => 0))), (q10, .inl (ct 0, 24, .inl (fun _ => 0))), (q11, .inl (ct 3, 24, .inl (fun _ => 0))), (q12, .inl (ct 3, 24, .inl (fun _ => 0))), (q13, .inl (ct 1, 960, .inl (fun _ => 0))), (q14, .inl (ct 0, 80, .inl (fun _ => 0))), (q15, .inl (ct 0, 20, .inl (fun _ => 0))), (q16, .inl (ct 0, 20, .inl (fun _ => 0))), (q17, .inl (ct 0, 20, .inl (fun _ => 0))), (q18, .inl (ct 0, 20, .inl (fun _ => 0))), (q19, .inl (ct 0, 320, .inl (fun _ => 0))), (q20, .inl (ct 0, 320, .inl (fun _ => 0))), (q21, .inl (ct 0, 320, .inl (fun _ => 0))), (q22, .inl (ct 0, 320, .inl (fun _ => 0))), (q23, .inl (ct 0, 320, .inl (fun _ => 0))), (q24, .inl (ct 0, 320, .inl (fun _ => 0))), (q25, .inl (ct 0, 3200, .inl (fun _ => 0))), (q26, .inl (ct 0, 3200, .inl (fun _ => 0))), (q27, .inl (ct 0, 200, .inl (fun _ => 0))), (q28, .inl (ct 0, 200, .inl (fun _ => 0))), (q29, .inl (ct 3, 200, .inl (fun _ => 0))), (q30, .inl (ct 0, 16, .inl (fun _ => 0))), (q31, .inl (ct 0, 16, .inl (fun _ => 0))), (q32, .inl (ct 0, 400, .inl (fun _ => 0))), (q33, .inl (ct 0, 200, .inl (fun _ => 0))), (q34, .inl (ct 0, 200, .inl (fun _ => 0))), (q35, .inl (ct 0, 200, .inl (fun _ => 0))), (q36, .inl (ct 0, 200, .inl (fun _ => 0))), (q37, .inl (ct 0, 200, .inl (fun _ => 0))), (q38, .inl (ct 0, 200, .inl (fun _ => 0))), (q39, .inl (ct 0, 1600, .inl (fun _ => 0))), (q40, .inl (ct 0, 200, .inl (fun _ => 0))), (q41, .inl (ct 0, 2400, .inl (fun _ => 0))), (q42, .inl (ct 0, 2400, .inl (fun _ => 0))), (q43, .inl (ct 0, 200, .inl (fun _ => 0))), (q44, .inl (ct 0, 400, .inl (fun _ => 0))), (q45, .inl (ct 0, 400, .inl (fun _ => 0))), (q46, .inl (ct 0, 400, .inl (fun _ => 0))), (q47, .inl (ct 0, 400, .inl (fun _ => 0))), (q48, .inl (ct 0, 400, .inl (fun _ => 0))), (q49, .inl (ct 0, 400, .inl (fun _ => 0))), (q50, .inl (ct 0, 400, .inl (fun _ => 0))), (q51, .inl (ct 0, 4000, .inl (fun _ => 0))), (q52, .inl (ct 0, 4000, .inl (fun _ => 0))), (q53, .inl (ct 0, 4000, .inl (fun _ => 0))), (q54, .inl (ct 0, 60, .inl (fun _ => 0))), (q55, .inl (ct 0, 6, .inl (fun _ => 0)))] : va_W)) B rfl
  refine at_pc (n := 483) rfl ?_
  refine lv_aload_n E.1.1 E.1.2.1 dX12_init_483 rfl (lv_at hl 0 rfl) ?_
  refine lv_bipush (v := 6) E.1.1 E.1.2.1 dX12_init_484 (by decide) ?_
  refine row_newa (atype := .int) (a0 := (6, .inl (fun _ => 0))) E B w_e8e14353 rfl 0 rfl (fun _ => rfl) (by decide) (by decide) (Nat.le_of_ble_eq_true rfl) (Nat.le_of_ble_eq_true rfl) (Nat.le_of_ble_eq_true rfl) dX12_init_486 ?_
  clear B
  intro q56 H B
  refine at_n (n := 488) (k1 := 56) (k2 := 39528) rfl rfl rfl ?_
  refine row_putF E B iX12 rfl tyX12 tyX12_ok nmX12 82 (by decide) w_7fd65c04 rfl hnm rfl (ws.length + 0) ((at_pp _ _ _ _).trans rfl) rfl rfl (Nat.le_of_ble_eq_true rfl) dX12_init_488 ?_
  clear B
  intro H locs B
  replace B := Hp.to B (set_pp ..)
  replace B := Hp.to (ws' := ws ++ ([(h, .inr (12, [.ref q1, .int 0, .int 0, .int 0, .int 0, .int 0, .int 0, .int 0, .int 0, .int 0, .ref q2, .ref q3, .ref q4, .ref q5, .ref q6, .ref q7, .ref q8, .ref q9, .ref q10, .ref q11, .ref q12, .ref q13, .ref q14, .ref q15, .ref q16, .ref q17, .ref q18, .ref q19, .ref q20, .ref q21, .ref q22, .ref q23, .ref q24, .ref q25, .ref q26, .int 0, .int 0, .int 0, .int 0, .int 0, .int 0, .int 0, .int 0, .int 0, .ref q27, .ref q28, .ref q29, .ref q30, .ref q31, .ref q32, .ref q33, .ref q34, .ref q35, .ref q36, .ref q37, .ref q38, .ref q39, .ref q40, .ref q41, .ref q42, .ref q43, .ref q44, .ref q45, .ref q46, .ref q47, .ref q48, .ref q49, .ref q50, .int 0, .ref q51, .ref q52, .ref q53, .int 0, .int 0, .int 0, .int 0, .int 0, .int 0, .int 0, .ref q54, .int 0, .ref q55, .ref q56, .null, .null, .null, .null, .null, .null, .int 0, .null, .int 0, .int 0, .null, .null, .null])), (q1, .inl (ct 1, 200, .inl (fun _ => 0))), (q2, .inl (ct 0, 60, .inl (fun _ => 0))), (q3, .inl (ct 0, 60, .inl (fun _ => 0))), (q4, .inl (ct 0, 180, .inl (fun _ => 0))), (q5, .inl (ct 0, 1440, .inl (fun _ => 0))), (q6, .inl (ct 0, 320, .inl (fun _ => 0))), (q7, .inl (ct 1, 3840, .inl (fun _ => 0))), (q8, .inl (ct 0, 6, .inl (fun _ => 0))), (q9, .inl (ct 0, 6, .inl (fun _ => 0))), (q10, .inl (ct 0, 24, .inl (fun _ => 0))), (q11, .inl (ct 3, 24, .inl (fun _ => 0))), (q12, .inl (ct 3, 24, .inl (fun _ => 0))), (q13, .inl (ct 1, 960, .inl (fun _ => 0))), (q14, .inl (ct 0, 80, .inl (fun _ => 0))), (q15, .inl (ct 0, 20, .inl (fun _ => 0))), (q16, .inl (ct 0, 20, .inl (fun _ => 0))), (q17, .inl (ct 0, 20, .inl (fun _ => 0))), (q18, .inl (ct 0, 20, .inl (fun _ => 0))), (q19, .inl (ct 0, 320, .inl (fun _ => 0))), (q20, .inl (ct 0, 320, .inl (fun _ => 0))), (q21, .inl (ct 0, 320, .inl (fun _ => 0))), (q22, .inl (ct 0, 320, .inl (fun _ => 0))), (q23, .inl (ct 0, 320, .inl (fun _ => 0))), (q24, .inl (ct 0, 320, .inl (fun _ => 0))), (q25, .inl (ct 0, 3200, .inl (fun _ => 0))), (q26, .inl (ct 0, 3200, .inl (fun _ => 0))), (q27, .inl (ct 0, 200, .inl (fun _ => 0))), (q28, .inl (ct 0, 200, .inl (fun _ => 0))), (q29, .inl (ct 3, 200, .inl (fun _ => 0))), (q30, .inl (ct 0, 16, .inl (fun _ => 0))), (q31, .inl (ct 0, 16, .inl (fun _ => 0))), (q32, .inl (ct 0, 400, .inl (fun _ => 0))), (q33, .inl (ct 0, 200, .inl (fun _ => 0))), (q34, .inl (ct 0, 200, .inl (fun _ => 0))), (q35, .inl (ct 0, 200, .inl (fun _ => 0))), (q36, .inl (ct 0, 200, .inl (fun _ => 0))), (q37, .inl (ct 0, 200, .inl (fun _ => 0))), (q38, .inl (ct 0, 200, .inl (fun _ => 0))), (q39, .inl (ct 0, 1600, .inl (fun _ => 0))), (q40, .inl (ct 0, 200, .inl (fun _ => 0))), (q41, .inl (ct 0, 2400, .inl (fun _ => 0))), (q42, .inl (ct 0, 2400, .inl (fun _ => 0))), (q43, .inl (ct 0, 200, .inl (fun _ => 0))), (q44, .inl (ct 0, 400, .inl (fun _ => 0))), (q45, .inl (ct 0, 400, .inl (fun _ => 0))), (q46, .inl (ct 0, 400, .inl (fun _ => 0))), (q47, .inl (ct 0, 400, .inl (fun _ => 0))), (q48, .inl (ct 0, 400, .inl (fun _ => 0))), (q49, .inl (ct 0, 400, .inl (fun _ => 0))), (q50, .inl (ct 0, 400, .inl (fun _ => 0))), (q51, .inl (ct 0, 4000, .inl (fun _ => 0))), (q52, .inl (ct 0, 4000, .inl (fun _ => 0))), (q53, .inl (ct 0, 4000, .inl (fun _ => 0))), (q54, .inl (ct 0, 60, .inl (fun _ => 0))), (q55, .inl (ct 0, 6, .inl (fun _ => 0))), (q56, .inl (ct 0, 6, .inl (fun _ => 0)))] : va_W)) B rfl
  refine at_pc (n := 491) rfl ?_
  refine lv_aload_n E.1.1 E.1.2.1 dX12_init_491 rfl (lv_at hl 0 rfl) ?_
  refine lv_bipush (v := 24) E.1.1 E.1.2.1 dX12_init_492 (by decide) ?_
  refine row_newa (atype := .int) (a0 := (24, .inl (fun _ => 0))) E B w_e8e14353 rfl 0 rfl (fun _ => rfl) (by decide) (by decide) (Nat.le_of_ble_eq_true rfl) (Nat.le_of_ble_eq_true rfl) (Nat.le_of_ble_eq_true rfl) dX12_init_494 ?_
  clear B
  intro q57 H B
  refine at_n (n := 496) (k1 := 57) (k2 := 39552) rfl rfl rfl ?_
  refine row_putF E B iX12 rfl tyX12 tyX12_ok nmX12 83 (by decide) w_6f63da2f rfl hnm rfl (ws.length + 0) ((at_pp _ _ _ _).trans rfl) rfl rfl (Nat.le_of_ble_eq_true rfl) dX12_init_496 ?_
  clear B
  intro H locs B
  replace B := Hp.to B (set_pp ..)
  replace B := Hp.to (ws' := ws ++ ([(h, .inr (12, [.ref q1, .int 0, .int 0, .int 0, .int 0, .int 0, .int 0, .int 0, .int 0, .int 0, .ref q2, .ref q3, .ref q4, .ref q5, .ref q6, .ref q7, .ref q8, .ref q9, .ref q10, .ref q11, .ref q12, .ref q13, .ref q14, .ref q15, .ref q16, .ref q17, .ref q18, .ref q19, .ref q20, .ref q21, .ref q22, .ref q23, .ref q24, .ref q25, .ref q26, .int 0, .int 0, .int 0, .int 0, .int 0, .int 0, .int 0, .int 0, .int 0, .ref q27, .ref q28, .ref q29, .ref q30, .ref q31, .ref q32, .ref q33, .ref q34, .ref q35, .ref q36, .ref q37, .ref q38, .ref q39, .ref q40, .ref q41, .ref q42, .ref q43, .ref q44, .ref q45, .ref q46, .ref q47, .ref q48, .ref q49, .ref q50, .int 0, .ref q51, .ref q52, .ref q53, .int 0, .int 0, .int 0, .int 0, .int 0, .int 0, .int 0, .ref q54, .int 0, .ref q55, .ref q56, .ref q57, .null, .null, .null, .null, .null, .int 0, .null, .int 0, .int 0, .null, .null, .null])), (q1, .inl (ct 1, 200, .inl (fun _ => 0))), (q2, .inl (ct 0, 60, .inl (fun _ => 0))), (q3, .inl (ct 0, 60, .inl (fun _ => 0))), (q4, .inl (ct 0, 180, .inl (fun _ => 0))), (q5, .inl (ct 0, 1440, .inl (fun _ => 0))), (q6, .inl (ct 0, 320, .inl (fun _ => 0))), (q7, .inl (ct 1, 3840, .inl (fun _ => 0))), (q8, .inl (ct 0, 6, .inl (fun _ => 0))), (q9, .inl (ct 0, 6, .inl (fun _ => 0))), (q10, .inl (ct 0, 24, .inl (fun _ => 0))), (q11, .inl (ct 3, 24, .inl (fun _ => 0))), (q12, .inl (ct 3, 24, .inl (fun _ => 0))), (q13, .inl (ct 1, 960, .inl (fun _ => 0))), (q14, .inl (ct 0, 80, .inl (fun _ => 0))), (q15, .inl (ct 0, 20, .inl (fun _ => 0))), (q16, .inl (ct 0, 20, .inl (fun _ => 0))), (q17, .inl (ct 0, 20, .inl (fun _ => 0))), (q18, .inl (ct 0, 20, .inl (fun _ => 0))), (q19, .inl (ct 0, 320, .inl (fun _ => 0))), (q20, .inl (ct 0, 320, .inl (fun _ => 0))), (q21, .inl (ct 0, 320, .inl (fun _ => 0))), (q22, .inl (ct 0, 320, .inl (fun _ => 0))), (q23, .inl (ct 0, 320, .inl (fun _ => 0))), (q24, .inl (ct 0, 320, .inl (fun _ => 0))), (q25, .inl (ct 0, 3200, .inl (fun _ => 0))), (q26, .inl (ct 0, 3200, .inl (fun _ => 0))), (q27, .inl (ct 0, 200, .inl (fun _ => 0))), (q28, .inl (ct 0, 200, .inl (fun _ => 0))), (q29, .inl (ct 3, 200, .inl (fun _ => 0))), (q30, .inl (ct 0, 16, .inl (fun _ => 0))), (q31, .inl (ct 0, 16, .inl (fun _ => 0))), (q32, .inl (ct 0, 400, .inl (fun _ => 0))), (q33, .inl (ct 0, 200, .inl (fun _ => 0))), (q34, .inl (ct 0, 200, .inl (fun _ => 0))), (q35, .inl (ct 0, 200, .inl (fun _ => 0))), (q36, .inl (ct 0, 200, .inl (fun _ => 0))), (q37, .inl (ct 0, 200, .inl (fun _ => 0))), (q38, .inl (ct 0, 200, .inl (fun _ => 0))), (q39, .inl (ct 0, 1600, .inl (fun _ => 0))), (q40, .inl (ct 0, 200, .inl (fun _ => 0))), (q41, .inl (ct 0, 2400, .inl (fun _ => 0))), (q42, .inl (ct 0, 2400, .inl (fun _ => 0))), (q43, .inl (ct 0, 200, .inl (fun _ => 0))), (q44, .inl (ct 0, 400, .inl (fun _ => 0))), (q45, .inl (ct 0, 400, .inl (fun _ => 0))), (q46, .inl (ct 0, 400, .inl (fun _ => 0))), (q47, .inl (ct 0, 400, .inl (fun _ => 0))), (q48, .inl (ct 0, 400, .inl (fun _ => 0))), (q49, .inl (ct 0, 400, .inl (fun _ => 0))), (q50, .inl (ct 0, 400, .inl (fun _ => 0))), (q51, .inl (ct 0, 4000, .inl (fun _ => 0))), (q52, .inl (ct 0, 4000, .inl (fun _ => 0))), (q53, .inl (ct 0, 4000, .inl (fun _ => 0))), (q54, .inl (ct 0, 60, .inl (fun _ => 0))), (q55, .inl (ct 0, 6, .inl (fun _ => 0))), (q56, .inl (ct 0, 6, .inl (fun _ => 0))), (q57, .inl (ct 0, 24, .inl (fun _ => 0)))] : va_W)) B rfl
  refine at_pc (n := 499) rfl ?_
  refine lv_aload_n E.1.1 E.1.2.1 dX12_init_499 rfl (lv_at hl 0 rfl) ?_
  refine lv_sipush (v := 1600) E.1.1 E.1.2.1 dX12_init_500 (by decide) ?_
  refine row_newa (atype := .boolean) (a0 := (1600, .inl (fun _ => 0))) E B w_7d01f517 rfl 3 rfl (fun _ => rfl) (by decide) (by decide) (Nat.le_of_ble_eq_true rfl) (Nat.le_of_ble_eq_true rfl) (Nat.le_of_ble_eq_true rfl) dX12_init_503 ?_
  clear B
  intro q58 H B
  refine at_n (n := 505) (k1 := 58) (k2 := 41152) rfl rfl rfl ?_
  refine row_putF E B iX12 rfl tyX12 tyX12_ok nmX12 84 (by decide) w_e3f8e22a rfl hnm rfl (ws.length + 0) ((at_pp _ _ _ _).trans rfl) rfl rfl (Nat.le_of_ble_eq_true rfl) dX12_init_505 ?_
  clear B
  intro H locs B
  replace B := Hp.to B (set_pp ..)
  replace B := Hp.to (ws' := ws ++ ([(h, .inr (12, [.ref q1, .int 0, .int 0, .int 0, .int 0, .int 0, .int 0, .int 0, .int 0, .int 0, .ref q2, .ref q3, .ref q4, .ref q5, .ref q6, .ref q7, .ref q8, .ref q9, .ref q10, .ref q11, .ref q12, .ref q13, .ref q14, .ref q15, .ref q16, .ref q17, .ref q18, .ref q19, .ref q20, .ref q21, .ref q22, .ref q23, .ref q24, .ref q25, .ref q26, .int 0, .int 0, .int 0, .int 0, .int 0, .int 0, .int 0, .int 0, .int 0, .ref q27, .ref q28, .ref q29, .ref q30, .ref q31, .ref q32, .ref q33, .ref q34, .ref q35, .ref q36, .ref q37, .ref q38, .ref q39, .ref q40, .ref q41, .ref q42, .ref q43, .ref q44, .ref q45, .ref q46, .ref q47, .ref q48, .ref q49, .ref q50, .int 0, .ref q51, .ref q52, .ref q53, .int 0, .int 0, .int 0, .int 0, .int 0, .int 0, .int 0, .ref q54, .int 0, .ref q55, .ref q56, .ref q57, .ref q58, .null, .null, .null, .null, .int 0, .null, .int 0, .int 0, .null, .null, .null])), (q1, .inl (ct 1, 200, .inl (fun _ => 0))), (q2, .inl (ct 0, 60, .inl (fun _ => 0))), (q3, .inl (ct 0, 60, .inl (fun _ => 0))), (q4, .inl (ct 0, 180, .inl (fun _ => 0))), (q5, .inl (ct 0, 1440, .inl (fun _ => 0))), (q6, .inl (ct 0, 320, .inl (fun _ => 0))), (q7, .inl (ct 1, 3840, .inl (fun _ => 0))), (q8, .inl (ct 0, 6, .inl (fun _ => 0))), (q9, .inl (ct 0, 6, .inl (fun _ => 0))), (q10, .inl (ct 0, 24, .inl (fun _ => 0))), (q11, .inl (ct 3, 24, .inl (fun _ => 0))), (q12, .inl (ct 3, 24, .inl (fun _ => 0))), (q13, .inl (ct 1, 960, .inl (fun _ => 0))), (q14, .inl (ct 0, 80, .inl (fun _ => 0))), (q15, .inl (ct 0, 20, .inl (fun _ => 0))), (q16, .inl (ct 0, 20, .inl (fun _ => 0))), (q17, .inl (ct 0, 20, .inl (fun _ => 0))), (q18, .inl (ct 0, 20, .inl (fun _ => 0))), (q19, .inl (ct 0, 320, .inl (fun _ => 0))), (q20, .inl (ct 0, 320, .inl (fun _ => 0))), (q21, .inl (ct 0, 320, .inl (fun _ => 0))), (q22, .inl (ct 0, 320, .inl (fun _ => 0))), (q23, .inl (ct 0, 320, .inl (fun _ => 0))), (q24, .inl (ct 0, 320, .inl (fun _ => 0))), (q25, .inl (ct 0, 3200, .inl (fun _ => 0))), (q26, .inl (ct 0, 3200, .inl (fun _ => 0))), (q27, .inl (ct 0, 200, .inl (fun _ => 0))), (q28, .inl (ct 0, 200, .inl (fun _ => 0))), (q29, .inl (ct 3, 200, .inl (fun _ => 0))), (q30, .inl (ct 0, 16, .inl (fun _ => 0))), (q31, .inl (ct 0, 16, .inl (fun _ => 0))), (q32, .inl (ct 0, 400, .inl (fun _ => 0))), (q33, .inl (ct 0, 200, .inl (fun _ => 0))), (q34, .inl (ct 0, 200, .inl (fun _ => 0))), (q35, .inl (ct 0, 200, .inl (fun _ => 0))), (q36, .inl (ct 0, 200, .inl (fun _ => 0))), (q37, .inl (ct 0, 200, .inl (fun _ => 0))), (q38, .inl (ct 0, 200, .inl (fun _ => 0))), (q39, .inl (ct 0, 1600, .inl (fun _ => 0))), (q40, .inl (ct 0, 200, .inl (fun _ => 0))), (q41, .inl (ct 0, 2400, .inl (fun _ => 0))), (q42, .inl (ct 0, 2400, .inl (fun _ => 0))), (q43, .inl (ct 0, 200, .inl (fun _ => 0))), (q44, .inl (ct 0, 400, .inl (fun _ => 0))), (q45, .inl (ct 0, 400, .inl (fun _ => 0))), (q46, .inl (ct 0, 400, .inl (fun _ => 0))), (q47, .inl (ct 0, 400, .inl (fun _ => 0))), (q48, .inl (ct 0, 400, .inl (fun _ => 0))), (q49, .inl (ct 0, 400, .inl (fun _ => 0))), (q50, .inl (ct 0, 400, .inl (fun _ => 0))), (q51, .inl (ct 0, 4000, .inl (fun _ => 0))), (q52, .inl (ct 0, 4000, .inl (fun _ => 0))), (q53, .inl (ct 0, 4000, .inl (fun _ => 0))), (q54, .inl (ct 0, 60, .inl (fun _ => 0))), (q55, .inl (ct 0, 6, .inl (fun _ => 0))), (q56, .inl (ct 0, 6, .inl (fun _ => 0))), (q57, .inl (ct 0, 24, .inl (fun _ => 0))), (q58, .inl (ct 3, 1600, .inl (fun _ => 0)))] : va_W)) B rfl
  refine at_pc (n := 508) rfl ?_
  refine lv_aload_n E.1.1 E.1.2.1 dX12_init_508 rfl (lv_at hl 0 rfl) ?_
  refine lv_bipush (v := 24) E.1.1 E.1.2.1 dX12_init_509 (by decide) ?_
  refine row_newa (atype := .int) (a0 := (24, .inl (fun _ => 0))) E B w_e8e14353 rfl 0 rfl (fun _ => rfl) (by decide) (by decide) (Nat.le_of_ble_eq_true rfl) (Nat.le_of_ble_eq_true rfl) (Nat.le_of_ble_eq_true rfl) dX12_init_511 ?_
  clear B
  intro q59 H B
  refine at_n (n := 513) (k1 := 59) (k2 := 41176) rfl rfl rfl ?_
  refine row_putF E B iX12 rfl tyX12 tyX12_ok nmX12 85 (by decide) w_5ed2e189 rfl hnm rfl (ws.length + 0) ((at_pp _ _ _ _).trans rfl) rfl rfl (Nat.le_of_ble_eq_true rfl) dX12_init_513 ?_
  clear B
  intro H locs B
  replace B := Hp.to B (set_pp ..)
  replace B := Hp.to (ws' := ws ++ ([(h, .inr (12, [.ref q1, .int 0, .int 0, .int 0, .int 0, .int 0, .int 0, .int 0, .int 0, .int 0, .ref q2, .ref q3, .ref q4, .ref q5, .ref q6, .ref q7, .ref q8, .ref q9, .ref q10, .ref q11, .ref q12, .ref q13, .ref q14, .ref q15, .ref q16, .ref q17, .ref q18, .ref q19, .ref q20, .ref q21, .ref q22, .ref q23, .ref q24, .ref q25, .ref q26, .int 0, .int 0, .int 0, .int 0, .int 0, .int 0, .int 0, .int 0, .int 0, .ref q27, .ref q28, .ref q29, .ref q30, .ref q31, .ref q32, .ref q33, .ref q34, .ref q35, .ref q36, .ref q37, .ref q38, .ref q39, .ref q40, .ref q41, .ref q42, .ref q43, .ref q44, .ref q45, .ref q46, .ref q47, .ref q48, .ref q49, .ref q50, .int 0, .ref q51, .ref q52, .ref q53, .int 0, .int 0, .int 0, .int 0, .int 0, .int 0, .int 0, .ref q54, .int 0, .ref q55, .ref q56, .ref q57, .ref q58, .ref q59, .null, .null, .null, .int 0, .null, .int 0, .int 0, .null, .null, .null])), (q1, .inl (ct 1, 200, .inl (fun _ => 0))), (q2, .inl (ct 0, 60, .inl (fun _ => 0))), (q3, .inl (ct 0, 60, .inl (fun _ => 0))), (q4, .inl (ct 0, 180, .inl (fun _ => 0))), (q5, .inl (ct 0, 1440, .inl (fun _ => 0))), (q6, .inl (ct 0, 320, .inl (fun _ => 0))), (q7, .inl (ct 1, 3840, .inl (fun _ => 0))), (q8, .inl (ct 0, 6, .inl (fun _ => 0))), (q9, .inl (ct 0, 6, .inl (fun _ => 0))), (q10, .inl (ct 0, 24, .inl (fun _ => 0))), (q11, .inl (ct 3, 24, .inl (fun _ => 0))), (q12, .inl (ct 3, 24, .inl (fun _ => 0))), (q13, .inl (ct 1, 960, .inl (fun _ => 0))), (q14, .inl (ct 0, 80, .inl (fun _ => 0))), (q15, .inl (ct 0, 20, .inl (fun _ => 0))), (q16, .inl (ct 0, 20, .inl (fun _ => 0))), (q17, .inl (ct 0, 20, .inl (fun _ => 0))), (q18, .inl (ct 0, 20, .inl (fun _ => 0))), (q19, .inl (ct 0, 320, .inl (fun _ => 0))), (q20, .inl (ct 0, 320, .inl (fun _ => 0))), (q21, .inl (ct 0, 320, .inl (fun _ => 0))), (q22, .inl (ct 0, 320, .inl (fun _ => 0))), (q23, .inl (ct 0, 320, .inl (fun _ => 0))), (q24, .inl (ct 0, 320, .inl (fun _ => 0))), (q25, .inl (ct 0, 3200, .inl (fun _ => 0))), (q26, .inl (ct 0, 3200, .inl (fun _ => 0))), (q27, .inl (ct 0, 200, .inl (fun _ => 0))), (q28, .inl (ct 0, 200, .inl (fun _ => 0))), (q29, .inl (ct 3, 200, .inl (fun _ => 0))), (q30, .inl (ct 0, 16, .inl (fun _ => 0))), (q31, .inl (ct 0, 16, .inl (fun _ => 0))), (q32, .inl (ct 0, 400, .inl (fun _ => 0))), (q33, .inl (ct 0, 200, .inl (fun _ => 0))), (q34, .inl (ct 0, 200, .inl (fun _ => 0))), (q35, .inl (ct 0, 200, .inl (fun _ => 0))), (q36, .inl (ct 0, 200, .inl (fun _ => 0))), (q37, .inl (ct 0, 200, .inl (fun _ => 0))), (q38, .inl (ct 0, 200, .inl (fun _ => 0))), (q39, .inl (ct 0, 1600, .inl (fun _ => 0))), (q40, .inl (ct 0, 200, .inl (fun _ => 0))), (q41, .inl (ct 0, 2400, .inl (fun _ => 0))), (q42, .inl (ct 0, 2400, .inl (fun _ => 0))), (q43, .inl (ct 0, 200, .inl (fun _ => 0))), (q44, .inl (ct 0, 400, .inl (fun _ => 0))), (q45, .inl (ct 0, 400, .inl (fun _ => 0))), (q46, .inl (ct 0, 400, .inl (fun _ => 0))), (q47, .inl (ct 0, 400, .inl (fun _ => 0))), (q48, .inl (ct 0, 400, .inl (fun _ => 0))), (q49, .inl (ct 0, 400, .inl (fun _ => 0))), (q50, .inl (ct 0, 400, .inl (fun _ => 0))), (q51, .inl (ct 0, 4000, .inl (fun _ => 0))), (q52, .inl (ct 0, 4000, .inl (fun _ => 0))), (q53, .inl (ct 0, 4000, .inl (fun _ => 0))), (q54, .inl (ct 0, 60, .inl (fun _ => 0))), (q55, .inl (ct 0, 6, .inl (fun _ => 0))), (q56, .inl (ct 0, 6, .inl (fun _ => 0))), (q57, .inl (ct 0, 24, .inl (fun _ => 0))), (q58, .inl (ct 3, 1600, .inl (fun _ => 0))), (q59, .inl (ct 0, 24, .inl (fun _ => 0)))] : va_W)) B rfl
  refine at_pc (n := 516) rfl ?_
  refine lv_aload_n E.1.1 E.1.2.1 dX12_init_516 rfl (lv_at hl 0 rfl) ?_
  refine lv_bipush (v := 24) E.1.1 E.1.2.1 dX12_init_517 (by decide) ?_
  refine row_newa (atype := .boolean) (a0 := (24, .inl (fun _ => 0))) E B w_7d01f517 rfl 3 rfl (fun _ => rfl) (by decide) (by decide) (Nat.le_of_ble_eq_true rfl) (Nat.le_of_ble_eq_true rfl) (Nat.le_of_ble_eq_true rfl) dX12_init_519 ?_
  clear B
  intro q60 H B
  refine at_n (n := 521) (k1 := 60) (k2 := 41200) rfl rfl rfl ?_
  refine row_putF E B iX12 rfl tyX12 tyX12_ok nmX12 86 (by decide) w_993174b4 rfl hnm rfl (ws.length + 0) ((at_pp _ _ _ _).trans rfl) rfl rfl (Nat.le_of_ble_eq_true rfl) dX12_init_521 ?_
  clear B
  intro H locs B
  replace B := Hp.to B (set_pp ..)
  replace B := Hp.to (ws' := ws ++ ([(h, .inr (12, [.ref q1, .int 0, .int 0, .int 0, .int 0, .int 0, .int 0, .int 0, .int 0, .int 0, .ref q2, .ref q3, .ref q4, .ref q5, .ref q6, .ref q7, .ref q8, .ref q9, .ref q10, .ref q11, .ref q12, .ref q13, .ref q14, .ref q15, .ref q16, .ref q17, .ref q18, .ref q19, .ref q20, .ref q21, .ref q22, .ref q23, .ref q24, .ref q25, .ref q26, .int 0, .int 0, .int 0, .int 0, .int 0, .int 0, .int 0, .int 0, .int 0, .ref q27, .ref q28, .ref q29, .ref q30, .ref q31, .ref q32, .ref q33, .ref q34, .ref q35, .ref q36, .ref q37, .ref q38, .ref q39, .ref q40, .ref q41, .ref q42, .ref q43, .ref q44, .ref q45, .ref q46, .ref q47, .ref q48, .ref q49, .ref q50, .int 0, .ref q51, .ref q52, .ref q53, .int 0, .int 0, .int 0, .int 0, .int 0, .int 0, .int 0, .ref q54, .int 0, .ref q55, .ref q56, .ref q57, .ref q58, .ref q59, .ref q60, .null, .null, .int 0, .null, .int 0, .int 0, .null, .null, .null])), (q1, .inl (ct 1, 200, .inl (fun _ => 0))), (q2, .inl (ct 0, 60, .inl (fun _ => 0))), (q3, .inl (ct 0, 60, .inl (fun _ => 0))), (q4, .inl (ct 0, 180, .inl (fun _ => 0))), (q5, .inl (ct 0, 1440, .inl (fun _ => 0))), (q6, .inl (ct 0, 320, .inl (fun _ => 0))), (q7, .inl (ct 1, 3840, .inl (fun _ => 0))), (q8, .inl (ct 0, 6, .inl (fun _ => 0))), (q9, .inl (ct 0, 6, .inl (fun _ => 0))), (q10, .inl (ct 0, 24, .inl (fun _ => 0))), (q11, .inl (ct 3, 24, .inl (fun _ => 0))), (q12, .inl (ct 3, 24, .inl (fun _ => 0))), (q13, .inl (ct 1, 960, .inl (fun _ => 0))), (q14, .inl (ct 0, 80, .inl (fun _ => 0))), (q15, .inl (ct 0, 20, .inl (fun _ => 0))), (q16, .inl (ct 0, 20, .inl (fun _ => 0))), (q17, .inl (ct 0, 20, .inl (fun _ => 0))), (q18, .inl (ct 0, 20, .inl (fun _ => 0))), (q19, .inl (ct 0, 320, .inl (fun _ => 0))), (q20, .inl (ct 0, 320, .inl (fun _ => 0))), (q21, .inl (ct 0, 320, .inl (fun _ => 0))), (q22, .inl (ct 0, 320, .inl (fun _ => 0))), (q23, .inl (ct 0, 320, .inl (fun _ => 0))), (q24, .inl (ct 0, 320, .inl (fun _ => 0))), (q25, .inl (ct 0, 3200, .inl (fun _ => 0))), (q26, .inl (ct 0, 3200, .inl (fun _ => 0))), (q27, .inl (ct 0, 200, .inl (fun _ => 0))), (q28, .inl (ct 0, 200, .inl (fun _ => 0))), (q29, .inl (ct 3, 200, .inl (fun _ => 0))), (q30, .inl (ct 0, 16, .inl (fun _ => 0))), (q31, .inl (ct 0, 16, .inl (fun _ => 0))), (q32, .inl (ct 0, 400, .inl (fun _ => 0))), (q33, .inl (ct 0, 200, .inl (fun _ => 0))), (q34, .inl (ct 0, 200, .inl (fun _ => 0))), (q35, .inl (ct 0, 200, .inl (fun _ => 0))), (q36, .inl (ct 0, 200, .inl (fun _ => 0))), (q37, .inl (ct 0, 200, .inl (fun _ => 0))), (q38, .inl (ct 0, 200, .inl (fun _ => 0))), (q39, .inl (ct 0, 1600, .inl (fun _ => 0))), (q40, .inl (ct 0, 200, .inl (fun _ => 0))), (q41, .inl (ct 0, 2400, .inl (fun _ => 0))), (q42, .inl (ct 0, 2400, .inl (fun _ => 0))), (q43, .inl (ct 0, 200, .inl (fun _ => 0))), (q44, .inl (ct 0, 400, .inl (fun _ => 0))), (q45, .inl (ct 0, 400, .inl (fun _ => 0))), (q46, .inl (ct 0, 400, .inl (fun _ => 0))), (q47, .inl (ct 0, 400, .inl (fun _ => 0))), (q48, .inl (ct 0, 400, .inl (fun _ => 0))), (q49, .inl (ct 0, 400, .inl (fun _ => 0))), (q50, .inl (ct 0, 400, .inl (fun _ => 0))), (q51, .inl (ct 0, 4000, .inl (fun _ => 0))), (q52, .inl (ct 0, 4000, .inl (fun _ => 0))), (q53, .inl (ct 0, 4000, .inl (fun _ => 0))), (q54, .inl (ct 0, 60, .inl (fun _ => 0))), (q55, .inl (ct 0, 6, .inl (fun _ => 0))), (q56, .inl (ct 0, 6, .inl (fun _ => 0))), (q57, .inl (ct 0, 24, .inl (fun _ => 0))), (q58, .inl (ct 3, 1600, .inl (fun _ => 0))), (q59, .inl (ct 0, 24, .inl (fun _ => 0))), (q60, .inl (ct 3, 24, .inl (fun _ => 0)))] : va_W)) B rfl
  refine at_pc (n := 524) rfl ?_
  refine lv_aload_n E.1.1 E.1.2.1 dX12_init_524 rfl (lv_at hl 0 rfl) ?_
  refine lv_sipush (v := 480) E.1.1 E.1.2.1 dX12_init_525 (by decide) ?_
  refine row_newa (atype := .int) (a0 := (480, .inl (fun _ => 0))) E B w_e8e14353 rfl 0 rfl (fun _ => rfl) (by decide) (by decide) (Nat.le_of_ble_eq_true rfl) (Nat.le_of_ble_eq_true rfl) (Nat.le_of_ble_eq_true rfl) dX12_init_528 ?_
  clear B
  intro q61 H B
  refine at_n (n := 530) (k1 := 61) (k2 := 41680) rfl rfl rfl ?_
  refine row_putF E B iX12 rfl tyX12 tyX12_ok nmX12 87 (by decide) w_a1c15f02 rfl hnm rfl (ws.length + 0) ((at_pp _ _ _ _).trans rfl) rfl rfl (Nat.le_of_ble_eq_true rfl) dX12_init_530 ?_
  clear B
  intro H locs B
  replace B := Hp.to B (set_pp ..)
  replace B := Hp.to (ws' := ws ++ ([(h, .inr (12, [.ref q1, .int 0, .int 0, .int 0, .int 0, .int 0, .int 0, .int 0, .int 0, .int 0, .ref q2, .ref q3, .ref q4, .ref q5, .ref q6, .ref q7, .ref q8, .ref q9, .ref q10, .ref q11, .ref q12, .ref q13, .ref q14, .ref q15, .ref q16, .ref q17, .ref q18, .ref q19, .ref q20, .ref q21, .ref q22, .ref q23, .ref q24, .ref q25, .ref q26, .int 0, .int 0, .int 0, .int 0, .int 0, .int 0, .int 0, .int 0, .int 0, .ref q27, .ref q28, .ref q29, .ref q30, .ref q31, .ref q32, .ref q33, .ref q34, .ref q35, .ref q36, .ref q37, .ref q38, .ref q39, .ref q40, .ref q41, .ref q42, .ref q43, .ref q44, .ref q45, .ref q46, .ref q47, .ref q48, .ref q49, .ref q50, .int 0, .ref q51, .ref q52, .ref q53, .int 0, .int 0, .int 0, .int 0, .int 0, .int 0, .int 0, .ref q54, .int 0, .ref q55, .ref q56, .ref q57, .ref q58, .ref q59, .ref q60, .ref q61, .null, .int 0, .null, .int 0, .int 0, .null, .null, .null])), (q1, .inl (ct 1, 200, .inl (fun _ => 0))), (q2, .inl (ct 0, 60, .inl (fun _ => 0))), (q3, .inl (ct 0, 60, .inl (fun _ => 0))), (q4, .inl (ct 0, 180, .inl (fun _ => 0))), (q5, .inl (ct 0, 1440, .inl (fun _ => 0))), (q6, .inl (ct 0, 320, .inl (fun _ => 0))), (q7, .inl (ct 1, 3840, .inl (fun _ => 0))), (q8, .inl (ct 0, 6, .inl (fun _ => 0))), (q9, .inl (ct 0, 6, .inl (fun _ => 0))), (q10, .inl (ct 0, 24, .inl (fun _ => 0))), (q11, .inl (ct 3, 24, .inl (fun _ => 0))), (q12, .inl (ct 3, 24, .inl (fun _ => 0))), (q13, .inl (ct 1, 960, .inl (fun _ => 0))), (q14, .inl (ct 0, 80, .inl (fun _ => 0))), (q15, .inl (ct 0, 20, .inl (fun _ => 0))), (q16, .inl (ct 0, 20, .inl (fun _ => 0))), (q17, .inl (ct 0, 20, .inl (fun _ => 0))), (q18, .inl (ct 0, 20, .inl (fun _ => 0))), (q19, .inl (ct 0, 320, .inl (fun _ => 0))), (q20, .inl (ct 0, 320, .inl (fun _ => 0))), (q21, .inl (ct 0, 320, .inl (fun _ => 0))), (q22, .inl (ct 0, 320, .inl (fun _ => 0))), (q23, .inl (ct 0, 320, .inl (fun _ => 0))), (q24, .inl (ct 0, 320, .inl (fun _ => 0))), (q25, .inl (ct 0, 3200, .inl (fun _ => 0))), (q26, .inl (ct 0, 3200, .inl (fun _ => 0))), (q27, .inl (ct 0, 200, .inl (fun _ => 0))), (q28, .inl (ct 0, 200, .inl (fun _ => 0))), (q29, .inl (ct 3, 200, .inl (fun _ => 0))), (q30, .inl (ct 0, 16, .inl (fun _ => 0))), (q31, .inl (ct 0, 16, .inl (fun _ => 0))), (q32, .inl (ct 0, 400, .inl (fun _ => 0))), (q33, .inl (ct 0, 200, .inl (fun _ => 0))), (q34, .inl (ct 0, 200, .inl (fun _ => 0))), (q35, .inl (ct 0, 200, .inl (fun _ => 0))), (q36, .inl (ct 0, 200, .inl (fun _ => 0))), (q37, .inl (ct 0, 200, .inl (fun _ => 0))), (q38, .inl (ct 0, 200, .inl (fun _ => 0))), (q39, .inl (ct 0, 1600, .inl (fun _ => 0))), (q40, .inl (ct 0, 200, .inl (fun _ => 0))), (q41, .inl (ct 0, 2400, .inl (fun _ => 0))), (q42, .inl (ct 0, 2400, .inl (fun _ => 0))), (q43, .inl (ct 0, 200, .inl (fun _ => 0))), (q44, .inl (ct 0, 400, .inl (fun _ => 0))), (q45, .inl (ct 0, 400, .inl (fun _ => 0))), (q46, .inl (ct 0, 400, .inl (fun _ => 0))), (q47, .inl (ct 0, 400, .inl (fun _ => 0))), (q48, .inl (ct 0, 400, .inl (fun _ => 0))), (q49, .inl (ct 0, 400, .inl (fun _ => 0))), (q50, .inl (ct 0, 400, .inl (fun _ => 0))), (q51, .inl (ct 0, 4000, .inl (fun _ => 0))), (q52, .inl (ct 0, 4000, .inl (fun _ => 0))), (q53, .inl (ct 0, 4000, .inl (fun _ => 0))), (q54, .inl (ct 0, 60, .inl (fun _ => 0))), (q55, .inl (ct 0, 6, .inl (fun _ => 0))), (q56, .inl (ct 0, 6, .inl (fun _ => 0))), (q57, .inl (ct 0, 24, .inl (fun _ => 0))), (q58, .inl (ct 3, 1600, .inl (fun _ => 0))), (q59, .inl (ct 0, 24, .inl (fun _ => 0))), (q60, .inl (ct 3, 24, .inl (fun _ => 0))), (q61, .inl (ct 0, 480, .inl (fun _ => 0)))] : va_W)) B rfl
  refine at_pc (n := 533) rfl ?_
  refine lv_aload_n E.1.1 E.1.2.1 dX12_init_533 rfl (lv_at hl 0 rfl) ?_
  refine lv_sipush (v := 480) E.1.1 E.1.2.1 dX12_init_534 (by decide) ?_
  refine row_newa (atype := .int) (a0 := (480, .inl (fun _ => 0))) E B w_e8e14353 rfl 0 rfl (fun _ => rfl) (by decide) (by decide) (Nat.le_of_ble_eq_true rfl) (Nat.le_of_ble_eq_true rfl) (Nat.le_of_ble_eq_true rfl) dX12_init_537 ?_
  clear B
  intro q62 H B
  refine at_n (n := 539) (k1 := 62) (k2 := 42160) rfl rfl rfl ?_
  refine row_putF E B iX12 rfl tyX12 tyX12_ok nmX12 88 (by decide) w_b85d3664 rfl hnm rfl (ws.length + 0) ((at_pp _ _ _ _).trans rfl) rfl rfl (Nat.le_of_ble_eq_true rfl) dX12_init_539 ?_
  clear B
  intro H locs B
  replace B := Hp.to B (set_pp ..)
  replace B := Hp.to (ws' := ws ++ ([(h, .inr (12, [.ref q1, .int 0, .int 0, .int 0, .int 0, .int 0, .int 0, .int 0, .int 0, .int 0, .ref q2, .ref q3, .ref q4, .ref q5, .ref q6, .ref q7, .ref q8, .ref q9, .ref q10, .ref q11, .ref q12, .ref q13, .ref q14, .ref q15, .ref q16, .ref q17, .ref q18, .ref q19, .ref q20, .ref q21, .ref q22, .ref q23, .ref q24, .ref q25, .ref q26, .int 0, .int 0, .int 0, .int 0, .int 0, .int 0, .int 0, .int 0, .int 0, .ref q27, .ref q28, .ref q29, .ref q30, .ref q31, .ref q32, .ref q33, .ref q34, .ref q35, .ref q36, .ref q37, .ref q38, .ref q39, .ref q40, .ref q41, .ref q42, .ref q43, .ref q44, .ref q45, .ref q46, .ref q47, .ref q48, .ref q49, .ref q50, .int 0, .ref q51, .ref q52, .ref q53, .int 0, .int 0, .int 0, .int 0, .int 0, .int 0, .int 0, .ref q54, .int 0, .ref q55, .ref q56, .ref q57, .ref q58, .ref q59, .ref q60, .ref q61, .ref q62, .int 0, .null, .int 0, .int 0, .null, .null, .null])), (q1, .inl (ct 1, 200, .inl (fun _ => 0))), (q2, .inl (ct 0, 60, .inl (fun _ => 0))), (q3, .inl (ct 0, 60, .inl (fun _ => 0))), (q4, .inl (ct 0, 180, .inl (fun _ => 0))), (q5, .inl (ct 0, 1440, .inl (fun _ => 0))), (q6, .inl (ct 0, 320, .inl (fun _ => 0))), (q7, .inl (ct 1, 3840, .inl (fun _ => 0))), (q8, .inl (ct 0, 6, .inl (fun _ => 0))), (q9, .inl (ct 0, 6, .inl (fun _ => 0))), (q10, .inl (ct 0, 24, .inl (fun _ => 0))), (q11, .inl (ct 3, 24, .inl (fun _ => 0))), (q12, .inl (ct 3, 24, .inl (fun _ => 0))), (q13, .inl (ct 1, 960, .inl (fun _ => 0))), (q14, .inl (ct 0, 80, .inl (fun _ => 0))), (q15, .inl (ct 0, 20, .inl (fun _ => 0))), (q16, .inl (ct 0, 20, .inl (fun _ => 0))), (q17, .inl (ct 0, 20, .inl (fun _ => 0))), (q18, .inl (ct 0, 20, .inl (fun _ => 0))), (q19, .inl (ct 0, 320, .inl (fun _ => 0))), (q20, .inl (ct 0, 320, .inl (fun _ => 0))), (q21, .inl (ct 0, 320, .inl (fun _ => 0))), (q22, .inl (ct 0, 320, .inl (fun _ => 0))), (q23, .inl (ct 0, 320, .inl (fun _ => 0))), (q24, .inl (ct 0, 320, .inl (fun _ => 0))), (q25, .inl (ct 0, 3200, .inl (fun _ => 0))), (q26, .inl (ct 0, 3200, .inl (fun _ => 0))), (q27, .inl (ct 0, 200, .inl (fun _ => 0))), (q28, .inl (ct 0, 200, .inl (fun _ => 0))), (q29, .inl (ct 3, 200, .inl (fun _ => 0))), (q30, .inl (ct 0, 16, .inl (fun _ => 0))), (q31, .inl (ct 0, 16, .inl (fun _ => 0))), (q32, .inl (ct 0, 400, .inl (fun _ => 0))), (q33, .inl (ct 0, 200, .inl (fun _ => 0))), (q34, .inl (ct 0, 200, .inl (fun _ => 0))), (q35, .inl (ct 0, 200, .inl (fun _ => 0))), (q36, .inl (ct 0, 200, .inl (fun _ => 0))), (q37, .inl (ct 0, 200, .inl (fun _ => 0))), (q38, .inl (ct 0, 200, .inl (fun _ => 0))), (q39, .inl (ct 0, 1600, .inl (fun _ => 0))), (q40, .inl (ct 0, 200, .inl (fun _ => 0))), (q41, .inl (ct 0, 2400, .inl (fun _ => 0))), (q42, .inl (ct 0, 2400, .inl (fun _ => 0))), (q43, .inl (ct 0, 200, .inl (fun _ => 0))), (q44, .inl (ct 0, 400, .inl (fun _ => 0))), (q45, .inl (ct 0, 400, .inl (fun _ => 0))), (q46, .inl (ct 0, 400, .inl (fun _ => 0))), (q47, .inl (ct 0, 400, .inl (fun _ => 0))), (q48, .inl (ct 0, 400, .inl (fun _ => 0))), (q49, .inl (ct 0, 400, .inl (fun _ => 0))), (q50, .inl (ct 0, 400, .inl (fun _ => 0))), (q51, .inl (ct 0, 4000, .inl (fun _ => 0))), (q52, .inl (ct 0, 4000, .inl (fun _ => 0))), (q53, .inl (ct 0, 4000, .inl (fun _ => 0))), (q54, .inl (ct 0, 60, .inl (fun _ => 0))), (q55, .inl (ct 0, 6, .inl (fun _ => 0))), (q56, .inl (ct 0, 6, .inl (fun _ => 0))), (q57, .inl (ct 0, 24, .inl (fun _ => 0))), (q58, .inl (ct 3, 1600, .inl (fun _ => 0))), (q59, .inl (ct 0, 24, .inl (fun _ => 0))), (q60, .inl (ct 3, 24, .inl (fun _ => 0))), (q61, .inl (ct 0, 480, .inl (fun _ => 0))), (q62, .inl (ct 0, 480, .inl (fun _ => 0)))] : va_W)) B rfl
  refine at_pc (n := 542) rfl ?_
  refine lv_aload_n E.1.1 E.1.2.1 dX12_init_542 rfl (lv_at hl 0 rfl) ?_
  refine lv_sipush (v := 200) E.1.1 E.1.2.1 dX12_init_543 (by decide) ?_
  refine row_newa (atype := .byte) (a0 := (200, .inl (fun _ => 0))) E B w_db47154c rfl 1 rfl (fun _ => rfl) (by decide) (by decide) (Nat.le_of_ble_eq_true rfl) (Nat.le_of_ble_eq_true rfl) (Nat.le_of_ble_eq_true rfl) dX12_init_546 ?_
  clear B
  intro q63 H B
  refine at_n (n := 548) (k1 := 63) (k2 := 42360) rfl rfl rfl ?_
  refine row_putF E B iX12 rfl tyX12 tyX12_ok nmX12 90 (by decide) w_eddf517a rfl hnm rfl (ws.length + 0) ((at_pp _ _ _ _).trans rfl) rfl rfl (Nat.le_of_ble_eq_true rfl) dX12_init_548 ?_
  clear B
  intro H locs B
  replace B := Hp.to B (set_pp ..)
  replace B := Hp.to (ws' := ws ++ ([(h, .inr (12, [.ref q1, .int 0, .int 0, .int 0, .int 0, .int 0, .int 0, .int 0, .int 0, .int 0, .ref q2, .ref q3, .ref q4, .ref q5, .ref q6, .ref q7, .ref q8, .ref q9, .ref q10, .ref q11, .ref q12, .ref q13, .ref q14, .ref q15, .ref q16, .ref q17, .ref q18, .ref q19, .ref q20, .ref q21, .ref q22, .ref q23, .ref q24, .ref q25, .ref q26, .int 0, .int 0, .int 0, .int 0, .int 0, .int 0, .int 0, .int 0, .int 0, .ref q27, .ref q28, .ref q29, .ref q30, .ref q31, .ref q32, .ref q33, .ref q34, .ref q35, .ref q36, .ref q37, .ref q38, .ref q39, .ref q40, .ref q41, .ref q42, .ref q43, .ref q44, .ref q45, .ref q46, .ref q47, .ref q48, .ref q49, .ref q50, .int 0, .ref q51, .ref q52, .ref q53, .int 0, .int 0, .int 0, .int 0, .int 0, .int 0, .int 0, .ref q54, .int 0, .ref q55, .ref q56, .ref q57, .ref q58, .ref q59, .ref q60, .ref q61, .ref q62, .int 0, .ref q63, .int 0, .int 0, .null, .null, .null])), (q1, .inl (ct 1, 200, .inl (fun _ => 0))), (q2, .inl (ct 0, 60, .inl (fun _ => 0))), (q3, .inl (ct 0, 60, .inl (fun _ => 0))), (q4, .inl (ct 0, 180, .inl (fun _ => 0))), (q5, .inl (ct 0, 1440, .inl (fun _ => 0))), (q6, .inl (ct 0, 320, .inl (fun _ => 0))), (q7, .inl (ct 1, 3840, .inl (fun _ => 0))), (q8, .inl (ct 0, 6, .inl (fun _ => 0))), (q9, .inl (ct 0, 6, .inl (fun _ => 0))), (q10, .inl (ct 0, 24, .inl (fun _ => 0))), (q11, .inl (ct 3, 24, .inl (fun _ => 0))), (q12, .inl (ct 3, 24, .inl (fun _ => 0))), (q13, .inl (ct 1, 960, .inl (fun _ => 0))), (q14, .inl (ct 0, 80, .inl (fun _ => 0))), (q15, .inl (ct 0, 20, .inl (fun _ => 0))), (q16, .inl (ct 0, 20, .inl (fun _ => 0))), (q17, .inl (ct 0, 20, .inl (fun _ => 0))), (q18, .inl (ct 0, 20, .inl (fun _ => 0))), (q19, .inl (ct 0, 320, .inl (fun _ => 0))), (q20, .inl (ct 0, 320, .inl (fun _ => 0))), (q21, .inl (ct 0, 320, .inl (fun _ => 0))), (q22, .inl (ct 0, 320, .inl (fun _ => 0))), (q23, .inl (ct 0, 320, .inl (fun _ => 0))), (q24, .inl (ct 0, 320, .inl (fun _ => 0))), (q25, .inl (ct 0, 3200, .inl (fun _ => 0))), (q26, .inl (ct 0, 3200, .inl (fun _ => 0))), (q27, .inl (ct 0, 200, .inl (fun _ => 0))), (q28, .inl (ct 0, 200, .inl (fun _ => 0))), (q29, .inl (ct 3, 200, .inl (fun _ => 0))), (q30, .inl (ct 0, 16, .inl (fun _ => 0))), (q31, .inl (ct 0, 16, .inl (fun _ => 0))), (q32, .inl (ct 0, 400, .inl (fun _ => 0))), (q33, .inl (ct 0, 200, .inl (fun _ => 0))), (q34, .inl (ct 0, 200, .inl (fun _ => 0))), (q35, .inl (ct 0, 200, .inl (fun _ => 0))), (q36, .inl (ct 0, 200, .inl (fun _ => 0))), (q37, .inl (ct 0, 200, .inl (fun _ => 0))), (q38, .inl (ct 0, 200, .inl (fun _ => 0))), (q39, .inl (ct 0, 1600, .inl (fun _ => 0))), (q40, .inl (ct 0, 200, .inl (fun _ => 0))), (q41, .inl (ct 0, 2400, .inl (fun _ => 0))), (q42, .inl (ct 0, 2400, .inl (fun _ => 0))), (q43, .inl (ct 0, 200, .inl (fun _ => 0))), (q44, .inl (ct 0, 400, .inl (fun _ => 0))), (q45, .inl (ct 0, 400, .inl (fun _ => 0))), (q46, .inl (ct 0, 400, .inl (fun _ => 0))), (q47, .inl (ct 0, 400, .inl (fun _ => 0))), (q48, .inl (ct 0, 400, .inl (fun _ => 0))), (q49, .inl (ct 0, 400, .inl (fun _ => 0))), (q50, .inl (ct 0, 400, .inl (fun _ => 0))), (q51, .inl (ct 0, 4000, .inl (fun _ => 0))), (q52, .inl (ct 0, 4000, .inl (fun _ => 0))), (q53, .inl (ct 0, 4000, .inl (fun _ => 0))), (q54, .inl (ct 0, 60, .inl (fun _ => 0))), (q55, .inl (ct 0, 6, .inl (fun _ => 0))), (q56, .inl (ct 0, 6, .inl (fun _ => 0))), (q57, .inl (ct 0, 24, .inl (fun _ => 0))), (q58, .inl (ct 3, 1600, .inl (fun _ => 0))), (q59, .inl (ct 0, 24, .inl (fun _ => 0))), (q60, .inl (ct 3, 24, .inl (fun _ => 0))), (q61, .inl (ct 0, 480, .inl (fun _ => 0))), (q62, .inl (ct 0, 480, .inl (fun _ => 0))), (q63, .inl (ct 1, 200, .inl (fun _ => 0)))] : va_W)) B rfl
  refine at_pc (n := 551) rfl ?_
  refine lv_aload_n E.1.1 E.1.2.1 dX12_init_551 rfl (lv_at hl 0 rfl) ?_
  refine lv_bipush (v := 6) E.1.1 E.1.2.1 dX12_init_552 (by decide) ?_
  refine row_newa (atype := .int) (a0 := (6, .inl (fun _ => 0))) E B w_e8e14353 rfl 0 rfl (fun _ => rfl) (by decide) (by decide) (Nat.le_of_ble_eq_true rfl) (Nat.le_of_ble_eq_true rfl) (Nat.le_of_ble_eq_true rfl) dX12_init_554 ?_
  clear B
  intro q64 H B
  refine at_n (n := 556) (k1 := 64) (k2 := 42366) rfl rfl rfl ?_
  refine row_putF E B iX12 rfl tyX12 tyX12_ok nmX12 93 (by decide) w_d1ae37dc rfl hnm rfl (ws.length + 0) ((at_pp _ _ _ _).trans rfl) rfl rfl (Nat.le_of_ble_eq_true rfl) dX12_init_556 ?_
  clear B
  intro H locs B
  replace B := Hp.to B (set_pp ..)
  replace B := Hp.to (ws' := ws ++ ([(h, .inr (12, [.ref q1, .int 0, .int 0, .int 0, .int 0, .int 0, .int 0, .int 0, .int 0, .int 0, .ref q2, .ref q3, .ref q4, .ref q5, .ref q6, .ref q7, .ref q8, .ref q9, .ref q10, .ref q11, .ref q12, .ref q13, .ref q14, .ref q15, .ref q16, .ref q17, .ref q18, .ref q19, .ref q20, .ref q21, .ref q22, .ref q23, .ref q24, .ref q25, .ref q26, .int 0, .int 0, .int 0, .int 0, .int 0, .int 0, .int 0, .int 0, .int 0, .ref q27, .ref q28, .ref q29, .ref q30, .ref q31, .ref q32, .ref q33, .ref q34, .ref q35, .ref q36, .ref q37, .ref q38, .ref q39, .ref q40, .ref q41, .ref q42, .ref q43, .ref q44, .ref q45, .ref q46, .ref q47, .ref q48, .ref q49, .ref q50, .int 0, .ref q51, .ref q52, .ref q53, .int 0, .int 0, .int 0, .int 0, .int 0, .int 0, .int 0, .ref q54, .int 0, .ref q55, .ref q56, .ref q57, .ref q58, .ref q59, .ref q60, .ref q61, .ref q62, .int 0, .ref q63, .int 0, .int 0, .ref q64, .null, .null])), (q1, .inl (ct 1, 200, .inl (fun _ => 0))), (q2, .inl (ct 0, 60, .inl (fun _ => 0))), (q3, .inl (ct 0, 60, .inl (fun _ => 0))), (q4, .inl (ct 0, 180, .inl (fun _ => 0))), (q5, .inl (ct 0, 1440, .inl (fun _ => 0))), (q6, .inl (ct 0, 320, .inl (fun _ => 0))), (q7, .inl (ct 1, 3840, .inl (fun _ => 0))), (q8, .inl (ct 0, 6, .inl (fun _ => 0))), (q9, .inl (ct 0, 6, .inl (fun _ => 0))), (q10, .inl (ct 0, 24, .inl (fun _ => 0))), (q11, .inl (ct 3, 24, .inl (fun _ => 0))), (q12, .inl (ct 3, 24, .inl (fun _ => 0))), (q13, .inl (ct 1, 960, .inl (fun _ => 0))), (q14, .inl (ct 0, 80, .inl (fun _ => 0))), (q15, .inl (ct 0, 20, .inl (fun _ => 0))), (q16, .inl (ct 0, 20, .inl (fun _ => 0))), (q17, .inl (ct 0, 20, .inl (fun _ => 0))), (q18, .inl (ct 0, 20, .inl (fun _ => 0))), (q19, .inl (ct 0, 320, .inl (fun _ => 0))), (q20, .inl (ct 0, 320, .inl (fun _ => 0))), (q21, .inl (ct 0, 320, .inl (fun _ => 0))), (q22, .inl (ct 0, 320, .inl (fun _ => 0))), (q23, .inl (ct 0, 320, .inl (fun _ => 0))), (q24, .inl (ct 0, 320, .inl (fun _ => 0))), (q25, .inl (ct 0, 3200, .inl (fun _ => 0))), (q26, .inl (ct 0, 3200, .inl (fun _ => 0))), (q27, .inl (ct 0, 200, .inl (fun _ => 0))), (q28, .inl (ct 0, 200, .inl (fun _ => 0))), (q29, .inl (ct 3, 200, .inl (fun _ => 0))), (q30, .inl (ct 0, 16, .inl (fun _ => 0))), (q31, .inl (ct 0, 16, .inl (fun _ => 0))), (q32, .inl (ct 0, 400, .inl (fun _ => 0))), (q33, .inl (ct 0, 200, .inl (fun _ => 0))), (q34, .inl (ct 0, 200, .inl (fun _ => 0))), (q35, .inl (ct 0, 200, .inl (fun _ => 0))), (q36, .inl (ct 0, 200, .inl (fun _ => 0))), (q37, .inl (ct 0, 200, .inl (fun _ => 0))), (q38, .inl (ct 0, 200, .inl (fun _ => 0))), (q39, .inl (ct 0, 1600, .inl (fun _ => 0))), (q40, .inl (ct 0, 200, .inl (fun _ => 0))), (q41, .inl (ct 0, 2400, .inl (fun _ => 0))), (q42, .inl (ct 0, 2400, .inl (fun _ => 0))), (q43, .inl (ct 0, 200, .inl (fun _ => 0))), (q44, .inl (ct 0, 400, .inl (fun _ => 0))), (q45, .inl (ct 0, 400, .inl (fun _ => 0))), (q46, .inl (ct 0, 400, .inl (fun _ => 0))), (q47, .inl (ct 0, 400, .inl (fun _ => 0))), (q48, .inl (ct 0, 400, .inl (fun _ => 0))), (q49, .inl (ct 0, 400, .inl (fun _ => 0))), (q50, .inl (ct 0, 400, .inl (fun _ => 0))), (q51, .inl (ct 0, 4000, .inl (fun _ => 0))), (q52, .inl (ct 0, 4000, .inl (fun _ => 0))), (q53, .inl (ct 0, 4000, .inl (fun _ => 0))), (q54, .inl (ct 0, 60, .inl (fun _ => 0))), (q55, .inl (ct 0, 6, .inl (fun _ => 0))), (q56, .inl (ct 0, 6, .inl (fun _ => 0))), (q57, .inl (ct 0, 24, .inl (fun _ => 0))), (q58, .inl (ct 3, 1600, .inl (fun _ => 0))), (q59, .inl (ct 0, 24, .inl (fun _ => 0))), (q60, .inl (ct 3, 24, .inl (fun _ => 0))), (q61, .inl (ct 0, 480, .inl (fun _ => 0))), (q62, .inl (ct 0, 480, .inl (fun _ => 0))), (q63, .inl (ct 1, 200, .inl (fun _ => 0))), (q64, .inl (ct 0, 6, .inl (fun _ => 0)))] : va_W)) B rfl
  refine at_pc (n := 559) rfl ?_
  refine lv_aload_n E.1.1 E.1.2.1 dX12_init_559 rfl (lv_at hl 0 rfl) ?_
  refine lv_bipush (v := 6) E.1.1 E.1.2.1 dX12_init_560 (by decide) ?_
  refine row_newa (atype := .int) (a0 := (6, .inl (fun _ => 0))) E B w_e8e14353 rfl 0 rfl (fun _ => rfl) (by decide) (by decide) (Nat.le_of_ble_eq_true rfl) (Nat.le_of_ble_eq_true rfl) (Nat.le_of_ble_eq_true rfl) dX12_init_562 ?_
  clear B
  intro q65 H B
  refine at_n (n := 564) (k1 := 65) (k2 := 42372) rfl rfl rfl ?_
  refine row_putF E B iX12 rfl tyX12 tyX12_ok nmX12 94 (by decide) w_b608a55f rfl hnm rfl (ws.length + 0) ((at_pp _ _ _ _).trans rfl) rfl rfl (Nat.le_of_ble_eq_true rfl) dX12_init_564 ?_
  clear B
  intro H locs B
  replace B := Hp.to B (set_pp ..)
  replace B := Hp.to (ws' := ws ++ ([(h, .inr (12, [.ref q1, .int 0, .int 0, .int 0, .int 0, .int 0, .int 0, .int 0, .int 0, .int 0, .ref q2, .ref q3, .ref q4, .ref q5, .ref q6, .ref q7, .ref q8, .ref q9, .ref q10, .ref q11, .ref q12, .ref q13, .ref q14, .ref q15, .ref q16, .ref q17, .ref q18, .ref q19, .ref q20, .ref q21, .ref q22, .ref q23, .ref q24, .ref q25, .ref q26, .int 0, .int 0, .int 0, .int 0, .int 0, .int 0, .int 0, .int 0, .int 0, .ref q27, .ref q28, .ref q29, .ref q30, .ref q31, .ref q32, .ref q33, .ref q34, .ref q35, .ref q36, .ref q37, .ref q38, .ref q39, .ref q40, .ref q41, .ref q42, .ref q43, .ref q44, .ref q45, .ref q46, .ref q47, .ref q48, .ref q49, .ref q50, .int 0, .ref q51, .ref q52, .ref q53, .int 0, .int 0, .int 0, .int 0, .int 0, .int 0, .int 0, .ref q54, .int 0, .ref q55, .ref q56, .ref q57, .ref q58, .ref q59, .ref q60, .ref q61, .ref q62, .int 0, .ref q63, .int 0, .int 0, .ref q64, .ref q65, .null])), (q1, .inl (ct 1, 200, .inl (fun _ => 0))), (q2, .inl (ct 0, 60, .inl (fun _ => 0))), (q3, .inl (ct 0, 60, .inl (fun _ => 0))), (q4, .inl (ct 0, 180, .inl (fun _ => 0))), (q5, .inl (ct 0, 1440, .inl (fun _ => 0))), (q6, .inl (ct 0, 320, .inl (fun _ => 0))), (q7, .inl (ct 1, 3840, .inl (fun _ => 0))), (q8, .inl (ct 0, 6, .inl (fun _ => 0))), (q9, .inl (ct 0, 6, .inl (fun _ => 0))), (q10, .inl (ct 0, 24, .inl (fun _ => 0))), (q11, .inl (ct 3, 24, .inl (fun _ => 0))), (q12, .inl (ct 3, 24, .inl (fun _ => 0))), (q13, .inl (ct 1, 960, .inl (fun _ => 0))), (q14, .inl (ct 0, 80, .inl (fun _ => 0))), (q15, .inl (ct 0, 20, .inl (fun _ => 0))), (q16, .inl (ct 0, 20, .inl (fun _ => 0))), (q17, .inl (ct 0, 20, .inl (fun _ => 0))), (q18, .inl (ct 0, 20, .inl (fun _ => 0))), (q19, .inl (ct 0, 320, .inl (fun _ => 0))), (q20, .inl (ct 0, 320, .inl (fun _ => 0))), (q21, .inl (ct 0, 320, .inl (fun _ => 0))), (q22, .inl (ct 0, 320, .inl (fun _ => 0))), (q23, .inl (ct 0, 320, .inl (fun _ => 0))), (q24, .inl (ct 0, 320, .inl (fun _ => 0))), (q25, .inl (ct 0, 3200, .inl (fun _ => 0))), (q26, .inl (ct 0, 3200, .inl (fun _ => 0))), (q27, .inl (ct 0, 200, .inl (fun _ => 0))), (q28, .inl (ct 0, 200, .inl (fun _ => 0))), (q29, .inl (ct 3, 200, .inl (fun _ => 0))), (q30, .inl (ct 0, 16, .inl (fun _ => 0))), (q31, .inl (ct 0, 16, .inl (fun _ => 0))), (q32, .inl (ct 0, 400, .inl (fun _ => 0))), (q33, .inl (ct 0, 200, .inl (fun _ => 0))), (q34, .inl (ct 0, 200, .inl (fun _ => 0))), (q35, .inl (ct 0, 200, .inl (fun _ => 0))), (q36, .inl (ct 0, 200, .inl (fun _ => 0))), (q37, .inl (ct 0, 200, .inl (fun _ => 0))), (q38, .inl (ct 0, 200, .inl (fun _ => 0))), (q39, .inl (ct 0, 1600, .inl (fun _ => 0))), (q40, .inl (ct 0, 200, .inl (fun _ => 0))), (q41, .inl (ct 0, 2400, .inl (fun _ => 0))), (q42, .inl (ct 0, 2400, .inl (fun _ => 0))), (q43, .inl (ct 0, 200, .inl (fun _ => 0))), (q44, .inl (ct 0, 400, .inl (fun _ => 0))), (q45, .inl (ct 0, 400, .inl (fun _ => 0))), (q46, .inl (ct 0, 400, .inl (fun _ => 0))), (q47, .inl (ct 0, 400, .inl (fun _ => 0))), (q48, .inl (ct 0, 400, .inl (fun _ => 0))), (q49, .inl (ct 0, 400, .inl (fun _ => 0))), (q50, .inl (ct 0, 400, .inl (fun _ => 0))), (q51, .inl (ct 0, 4000, .inl (fun _ => 0))), (q52, .inl (ct 0, 4000, .inl (fun _ => 0))), (q53, .inl (ct 0, 4000, .inl (fun _ => 0))), (q54, .inl (ct 0, 60, .inl (fun _ => 0))), (q55, .inl (ct 0, 6, .inl (fun _ => 0))), (q56, .inl (ct 0, 6, .inl (fun _ => 0))), (q57, .inl (ct 0, 24, .inl (fun _ => 0))), (q58, .inl (ct 3, 1600, .inl (fun _ => 0))), (q59, .inl (ct 0, 24, .inl (fun _ => 0))), (q60, .inl (ct 3, 24, .inl (fun _ => 0))), (q61, .inl (ct 0, 480, .inl (fun _ => 0))), (q62, .inl (ct 0, 480, .inl (fun _ => 0))), (q63, .inl (ct 1, 200, .inl (fun _ => 0))), (q64, .inl (ct 0, 6, .inl (fun _ => 0))), (q65, .inl (ct 0, 6, .inl (fun _ => 0)))] : va_W)) B rfl
  refine at_pc (n := 567) rfl ?_
  refine lv_aload_n E.1.1 E.1.2.1 dX12_init_567 rfl (lv_at hl 0 rfl) ?_
  refine lv_bipush (v := 6) E.1.1 E.1.2.1 dX12_init_568 (by decide) ?_
  refine row_newa (atype := .int) (a0 := (6, .inl (fun _ => 0))) E B w_e8e14353 rfl 0 rfl (fun _ => rfl) (by decide) (by decide) (Nat.le_of_ble_eq_true rfl) (Nat.le_of_ble_eq_true rfl) (Nat.le_of_ble_eq_true rfl) dX12_init_570 ?_
  clear B
  intro q66 H B
  refine at_n (n := 572) (k1 := 66) (k2 := 42378) rfl rfl rfl ?_
  refine row_putF E B iX12 rfl tyX12 tyX12_ok nmX12 95 (by decide) w_a004040e rfl hnm rfl (ws.length + 0) ((at_pp _ _ _ _).trans rfl) rfl rfl (Nat.le_of_ble_eq_true rfl) dX12_init_572 ?_
  clear B
  intro H locs B
  replace B := Hp.to B (set_pp ..)
  replace B := Hp.to (ws' := ws ++ ([(h, .inr (12, [.ref q1, .int 0, .int 0, .int 0, .int 0, .int 0, .int 0, .int 0, .int 0, .int 0, .ref q2, .ref q3, .ref q4, .ref q5, .ref q6, .ref q7, .ref q8, .ref q9, .ref q10, .ref q11, .ref q12, .ref q13, .ref q14, .ref q15, .ref q16, .ref q17, .ref q18, .ref q19, .ref q20, .ref q21, .ref q22, .ref q23, .ref q24, .ref q25, .ref q26, .int 0, .int 0, .int 0, .int 0, .int 0, .int 0, .int 0, .int 0, .int 0, .ref q27, .ref q28, .ref q29, .ref q30, .ref q31, .ref q32, .ref q33, .ref q34, .ref q35, .ref q36, .ref q37, .ref q38, .ref q39, .ref q40, .ref q41, .ref q42, .ref q43, .ref q44, .ref q45, .ref q46, .ref q47, .ref q48, .ref q49, .ref q50, .int 0, .ref q51, .ref q52, .ref q53, .int 0, .int 0, .int 0, .int 0, .int 0, .int 0, .int 0, .ref q54, .int 0, .ref q55, .ref q56, .ref q57, .ref q58, .ref q59, .ref q60, .ref q61, .ref q62, .int 0, .ref q63, .int 0, .int 0, .ref q64, .ref q65, .ref q66])), (q1, .inl (ct 1, 200, .inl (fun _ => 0))), (q2, .inl (ct 0, 60, .inl (fun _ => 0))), (q3, .inl (ct 0, 60, .inl (fun _ => 0))), (q4, .inl (ct 0, 180, .inl (fun _ => 0))), (q5, .inl (ct 0, 1440, .inl (fun _ => 0))), (q6, .inl (ct 0, 320, .inl (fun _ => 0))), (q7, .inl (ct 1, 3840, .inl (fun _ => 0))), (q8, .inl (ct 0, 6, .inl (fun _ => 0))), (q9, .inl (ct 0, 6, .inl (fun _ => 0))), (q10, .inl (ct 0, 24, .inl (fun _ => 0))), (q11, .inl (ct 3, 24, .inl (fun _ => 0))), (q12, .inl (ct 3, 24, .inl (fun _ => 0))), (q13, .inl (ct 1, 960, .inl (fun _ => 0))), (q14, .inl (ct 0, 80, .inl (fun _ => 0))), (q15, .inl (ct 0, 20, .inl (fun _ => 0))), (q16, .inl (ct 0, 20, .inl (fun _ => 0))), (q17, .inl (ct 0, 20, .inl (fun _ => 0))), (q18, .inl (ct 0, 20, .inl (fun _ => 0))), (q19, .inl (ct 0, 320, .inl (fun _ => 0))), (q20, .inl (ct 0, 320, .inl (fun _ => 0))), (q21, .inl (ct 0, 320, .inl (fun _ => 0))), (q22, .inl (ct 0, 320, .inl (fun _ => 0))), (q23, .inl (ct 0, 320, .inl (fun _ => 0))), (q24, .inl (ct 0, 320, .inl (fun _ => 0))), (q25, .inl (ct 0, 3200, .inl (fun _ => 0))), (q26, .inl (ct 0, 3200, .inl (fun _ => 0))), (q27, .inl (ct 0, 200, .inl (fun _ => 0))), (q28, .inl (ct 0, 200, .inl (fun _ => 0))), (q29, .inl (ct 3, 200, .inl (fun _ => 0))), (q30, .inl (ct 0, 16, .inl (fun _ => 0))), (q31, .inl (ct 0, 16, .inl (fun _ => 0))), (q32, .inl (ct 0, 400, .inl (fun _ => 0))), (q33, .inl (ct 0, 200, .inl (fun _ => 0))), (q34, .inl (ct 0, 200, .inl (fun _ => 0))), (q35, .inl (ct 0, 200, .inl (fun _ => 0))), (q36, .inl (ct 0, 200, .inl (fun _ => 0))), (q37, .inl (ct 0, 200, .inl (fun _ => 0))), (q38, .inl (ct 0, 200, .inl (fun _ => 0))), (q39, .inl (ct 0, 1600, .inl (fun _ => 0))), (q40, .inl (ct 0, 200, .inl (fun _ => 0))), (q41, .inl (ct 0, 2400, .inl (fun _ => 0))), (q42, .inl (ct 0, 2400, .inl (fun _ => 0))), (q43, .inl (ct 0, 200, .inl (fun _ => 0))), (q44, .inl (ct 0, 400, .inl (fun _ => 0))), (q45, .inl (ct 0, 400, .inl (fun _ => 0))), (q46, .inl (ct 0, 400, .inl (fun _ => 0))), (q47, .inl (ct 0, 400, .inl (fun _ => 0))), (q48, .inl (ct 0, 400, .inl (fun _ => 0))), (q49, .inl (ct 0, 400, .inl (fun _ => 0))), (q50, .inl (ct 0, 400, .inl (fun _ => 0))), (q51, .inl (ct 0, 4000, .inl (fun _ => 0))), (q52, .inl (ct 0, 4000, .inl (fun _ => 0))), (q53, .inl (ct 0, 4000, .inl (fun _ => 0))), (q54, .inl (ct 0, 60, .inl (fun _ => 0))), (q55, .inl (ct 0, 6, .inl (fun _ => 0))), (q56, .inl (ct 0, 6, .inl (fun _ => 0))), (q57, .inl (ct 0, 24, .inl (fun _ => 0))), (q58, .inl (ct 3, 1600, .inl (fun _ => 0))), (q59, .inl (ct 0, 24, .inl (fun _ => 0))), (q60, .inl (ct 3, 24, .inl (fun _ => 0))), (q61, .inl (ct 0, 480, .inl (fun _ => 0))), (q62, .inl (ct 0, 480, .inl (fun _ => 0))), (q63, .inl (ct 1, 200, .inl (fun _ => 0))), (q64, .inl (ct 0, 6, .inl (fun _ => 0))), (q65, .inl (ct 0, 6, .inl (fun _ => 0))), (q66, .inl (ct 0, 6, .inl (fun _ => 0)))] : va_W)) B rfl
  refine at_pc (n := 575) rfl ?_
  exact ret_V (u := (fun k => ([q1, q2, q3, q4, q5, q6, q7, q8, q9, q10, q11, q12, q13, q14, q15, q16, q17, q18, q19, q20, q21, q22, q23, q24, q25, q26, q27, q28, q29, q30, q31, q32, q33, q34, q35, q36, q37, q38, q39, q40, q41, q42, q43, q44, q45, q46, q47, q48, q49, q50, q51, q52, q53, q54, q55, q56, q57, q58, q59, q60, q61, q62, q63, q64, q65, q66] : List Nat).getD k 0)) E hr hlk B trivial dX12_init_575
