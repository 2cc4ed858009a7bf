theorem dX12_clause_0 : decode cX12_clause 0 = .ok (.aload_n 0, 1) := k42 hC_cX12_clause rfl
theorem dX12_clause_1 : decode cX12_clause 1 = .ok (.invokevirtual 297, 3) := k182 (y := 1) (z := 41) hC_cX12_clause rfl rfl
theorem dX12_clause_102 : decode cX12_clause 102 = .ok (.iastore, 1) := k79 hC_cX12_clause rfl
theorem dX12_clause_103 : decode cX12_clause 103 = .ok (.aload_n 0, 1) := k42 hC_cX12_clause rfl
theorem dX12_clause_104 : decode cX12_clause 104 = .ok (.dup, 1) := k89 hC_cX12_clause rfl
theorem dX12_clause_105 : decode cX12_clause 105 = .ok (.getfield 268, 3) := k180 (y := 1) (z := 12) hC_cX12_clause rfl rfl
theorem dX12_clause_108 : decode cX12_clause 108 = .ok (.iconst 1, 1) := k4 hC_cX12_clause rfl
theorem dX12_clause_109 : decode cX12_clause 109 = .ok (.iadd, 1) := k96 hC_cX12_clause rfl
theorem dX12_clause_11 : decode cX12_clause 11 = .ok (.iload_n 1, 1) := k27 hC_cX12_clause rfl
theorem dX12_clause_110 : decode cX12_clause 110 = .ok (.putfield 268, 3) := k181 (y := 1) (z := 12) hC_cX12_clause rfl rfl
theorem dX12_clause_113 : decode cX12_clause 113 = .ok (.iload_n 1, 1) := k27 hC_cX12_clause rfl
theorem dX12_clause_114 : decode cX12_clause 114 = .ok (.bipush 119, 2) := k16 (y := 119) hC_cX12_clause rfl rfl
theorem dX12_clause_116 : decode cX12_clause 116 = .ok (.if_icmp .ne 11, 3) := k160 (y := 0) (z := 11) hC_cX12_clause rfl rfl
theorem dX12_clause_119 : decode cX12_clause 119 = .ok (.aload_n 0, 1) := k42 hC_cX12_clause rfl
theorem dX12_clause_12 : decode cX12_clause 12 = .ok (.bipush 115, 2) := k16 (y := 115) hC_cX12_clause rfl rfl
theorem dX12_clause_120 : decode cX12_clause 120 = .ok (.iload_n 2, 1) := k28 hC_cX12_clause rfl
theorem dX12_clause_121 : decode cX12_clause 121 = .ok (.invokevirtual 367, 3) := k182 (y := 1) (z := 111) hC_cX12_clause rfl rfl
theorem dX12_clause_124 : decode cX12_clause 124 = .ok (.goto 127, 3) := k167 (y := 0) (z := 127) hC_cX12_clause rfl rfl
theorem dX12_clause_127 : decode cX12_clause 127 = .ok (.iload_n 1, 1) := k27 hC_cX12_clause rfl
theorem dX12_clause_128 : decode cX12_clause 128 = .ok (.bipush 107, 2) := k16 (y := 107) hC_cX12_clause rfl rfl
theorem dX12_clause_130 : decode cX12_clause 130 = .ok (.if_icmp .ne 11, 3) := k160 (y := 0) (z := 11) hC_cX12_clause rfl rfl
theorem dX12_clause_133 : decode cX12_clause 133 = .ok (.aload_n 0, 1) := k42 hC_cX12_clause rfl
theorem dX12_clause_134 : decode cX12_clause 134 = .ok (.iload_n 2, 1) := k28 hC_cX12_clause rfl
theorem dX12_clause_135 : decode cX12_clause 135 = .ok (.invokevirtual 370, 3) := k182 (y := 1) (z := 114) hC_cX12_clause rfl rfl
theorem dX12_clause_138 : decode cX12_clause 138 = .ok (.goto 113, 3) := k167 (y := 0) (z := 113) hC_cX12_clause rfl rfl
theorem dX12_clause_14 : decode cX12_clause 14 = .ok (.if_icmp .eq 33, 3) := k159 (y := 0) (z := 33) hC_cX12_clause rfl rfl
theorem dX12_clause_141 : decode cX12_clause 141 = .ok (.iload_n 1, 1) := k27 hC_cX12_clause rfl
theorem dX12_clause_142 : decode cX12_clause 142 = .ok (.bipush 118, 2) := k16 (y := 118) hC_cX12_clause rfl rfl
theorem dX12_clause_144 : decode cX12_clause 144 = .ok (.if_icmp .ne 88, 3) := k160 (y := 0) (z := 88) hC_cX12_clause rfl rfl
theorem dX12_clause_147 : decode cX12_clause 147 = .ok (.aload_n 0, 1) := k42 hC_cX12_clause rfl
theorem dX12_clause_148 : decode cX12_clause 148 = .ok (.invokevirtual 297, 3) := k182 (y := 1) (z := 41) hC_cX12_clause rfl rfl
theorem dX12_clause_151 : decode cX12_clause 151 = .ok (.bipush 48, 2) := k16 (y := 48) hC_cX12_clause rfl rfl
theorem dX12_clause_153 : decode cX12_clause 153 = .ok (.if_icmp .eq 21, 3) := k159 (y := 0) (z := 21) hC_cX12_clause rfl rfl
theorem dX12_clause_156 : decode cX12_clause 156 = .ok (.aload_n 0, 1) := k42 hC_cX12_clause rfl
theorem dX12_clause_157 : decode cX12_clause 157 = .ok (.invokevirtual 297, 3) := k182 (y := 1) (z := 41) hC_cX12_clause rfl rfl
theorem dX12_clause_160 : decode cX12_clause 160 = .ok (.bipush 49, 2) := k16 (y := 49) hC_cX12_clause rfl rfl
theorem dX12_clause_162 : decode cX12_clause 162 = .ok (.if_icmp .eq 12, 3) := k159 (y := 0) (z := 12) hC_cX12_clause rfl rfl
theorem dX12_clause_165 : decode cX12_clause 165 = .ok (.aload_n 0, 1) := k42 hC_cX12_clause rfl
theorem dX12_clause_166 : decode cX12_clause 166 = .ok (.iconst 1, 1) := k4 hC_cX12_clause rfl
theorem dX12_clause_167 : decode cX12_clause 167 = .ok (.aload_n 0, 1) := k42 hC_cX12_clause rfl
theorem dX12_clause_168 : decode cX12_clause 168 = .ok (.getfield 268, 3) := k180 (y := 1) (z := 12) hC_cX12_clause rfl rfl
theorem dX12_clause_17 : decode cX12_clause 17 = .ok (.iload_n 1, 1) := k27 hC_cX12_clause rfl
theorem dX12_clause_171 : decode cX12_clause 171 = .ok (.invokevirtual 293, 3) := k182 (y := 1) (z := 37) hC_cX12_clause rfl rfl
theorem dX12_clause_174 : decode cX12_clause 174 = .ok (.aload_n 0, 1) := k42 hC_cX12_clause rfl
theorem dX12_clause_175 : decode cX12_clause 175 = .ok (.getfield 69, 3) := k180 (y := 0) (z := 69) hC_cX12_clause rfl rfl
theorem dX12_clause_178 : decode cX12_clause 178 = .ok (.iload_n 2, 1) := k28 hC_cX12_clause rfl
theorem dX12_clause_179 : decode cX12_clause 179 = .ok (.aload_n 0, 1) := k42 hC_cX12_clause rfl
theorem dX12_clause_18 : decode cX12_clause 18 = .ok (.bipush 107, 2) := k16 (y := 107) hC_cX12_clause rfl rfl
theorem dX12_clause_180 : decode cX12_clause 180 = .ok (.invokevirtual 297, 3) := k182 (y := 1) (z := 41) hC_cX12_clause rfl rfl
theorem dX12_clause_183 : decode cX12_clause 183 = .ok (.bipush 48, 2) := k16 (y := 48) hC_cX12_clause rfl rfl
theorem dX12_clause_185 : decode cX12_clause 185 = .ok (.isub, 1) := k100 hC_cX12_clause rfl
theorem dX12_clause_186 : decode cX12_clause 186 = .ok (.iastore, 1) := k79 hC_cX12_clause rfl
theorem dX12_clause_187 : decode cX12_clause 187 = .ok (.aload_n 0, 1) := k42 hC_cX12_clause rfl
theorem dX12_clause_188 : decode cX12_clause 188 = .ok (.dup, 1) := k89 hC_cX12_clause rfl
theorem dX12_clause_189 : decode cX12_clause 189 = .ok (.getfield 268, 3) := k180 (y := 1) (z := 12) hC_cX12_clause rfl rfl
theorem dX12_clause_192 : decode cX12_clause 192 = .ok (.iconst 1, 1) := k4 hC_cX12_clause rfl
theorem dX12_clause_193 : decode cX12_clause 193 = .ok (.iadd, 1) := k96 hC_cX12_clause rfl
theorem dX12_clause_194 : decode cX12_clause 194 = .ok (.putfield 268, 3) := k181 (y := 1) (z := 12) hC_cX12_clause rfl rfl
theorem dX12_clause_197 : decode cX12_clause 197 = .ok (.aload_n 0, 1) := k42 hC_cX12_clause rfl
theorem dX12_clause_198 : decode cX12_clause 198 = .ok (.invokevirtual 277, 3) := k182 (y := 1) (z := 21) hC_cX12_clause rfl rfl
theorem dX12_clause_20 : decode cX12_clause 20 = .ok (.if_icmp .eq 27, 3) := k159 (y := 0) (z := 27) hC_cX12_clause rfl rfl
theorem dX12_clause_201 : decode cX12_clause 201 = .ok (.ifCond .eq 9, 3) := k153 (y := 0) (z := 9) hC_cX12_clause rfl rfl
theorem dX12_clause_204 : decode cX12_clause 204 = .ok (.aload_n 0, 1) := k42 hC_cX12_clause rfl
theorem dX12_clause_205 : decode cX12_clause 205 = .ok (.bipush 46, 2) := k16 (y := 46) hC_cX12_clause rfl rfl
theorem dX12_clause_207 : decode cX12_clause 207 = .ok (.invokevirtual 361, 3) := k182 (y := 1) (z := 105) hC_cX12_clause rfl rfl
theorem dX12_clause_210 : decode cX12_clause 210 = .ok (.aload_n 0, 1) := k42 hC_cX12_clause rfl
theorem dX12_clause_211 : decode cX12_clause 211 = .ok (.invokevirtual 277, 3) := k182 (y := 1) (z := 21) hC_cX12_clause rfl rfl
theorem dX12_clause_214 : decode cX12_clause 214 = .ok (.ifCond .eq 37, 3) := k153 (y := 0) (z := 37) hC_cX12_clause rfl rfl
theorem dX12_clause_217 : decode cX12_clause 217 = .ok (.aload_n 0, 1) := k42 hC_cX12_clause rfl
theorem dX12_clause_218 : decode cX12_clause 218 = .ok (.getfield 72, 3) := k180 (y := 0) (z := 72) hC_cX12_clause rfl rfl
theorem dX12_clause_221 : decode cX12_clause 221 = .ok (.iload_n 2, 1) := k28 hC_cX12_clause rfl
theorem dX12_clause_222 : decode cX12_clause 222 = .ok (.aload_n 0, 1) := k42 hC_cX12_clause rfl
theorem dX12_clause_223 : decode cX12_clause 223 = .ok (.bipush 100, 2) := k16 (y := 100) hC_cX12_clause rfl rfl
theorem dX12_clause_225 : decode cX12_clause 225 = .ok (.invokevirtual 323, 3) := k182 (y := 1) (z := 67) hC_cX12_clause rfl rfl
theorem dX12_clause_228 : decode cX12_clause 228 = .ok (.iastore, 1) := k79 hC_cX12_clause rfl
theorem dX12_clause_229 : decode cX12_clause 229 = .ok (.goto 22, 3) := k167 (y := 0) (z := 22) hC_cX12_clause rfl rfl
theorem dX12_clause_23 : decode cX12_clause 23 = .ok (.iload_n 1, 1) := k27 hC_cX12_clause rfl
theorem dX12_clause_232 : decode cX12_clause 232 = .ok (.iload_n 1, 1) := k27 hC_cX12_clause rfl
theorem dX12_clause_233 : decode cX12_clause 233 = .ok (.bipush 111, 2) := k16 (y := 111) hC_cX12_clause rfl rfl
theorem dX12_clause_235 : decode cX12_clause 235 = .ok (.if_icmp .ne 16, 3) := k160 (y := 0) (z := 16) hC_cX12_clause rfl rfl
theorem dX12_clause_238 : decode cX12_clause 238 = .ok (.aload_n 0, 1) := k42 hC_cX12_clause rfl
theorem dX12_clause_239 : decode cX12_clause 239 = .ok (.getfield 69, 3) := k180 (y := 0) (z := 69) hC_cX12_clause rfl rfl
theorem dX12_clause_24 : decode cX12_clause 24 = .ok (.bipush 118, 2) := k16 (y := 118) hC_cX12_clause rfl rfl
theorem dX12_clause_242 : decode cX12_clause 242 = .ok (.iload_n 2, 1) := k28 hC_cX12_clause rfl
theorem dX12_clause_243 : decode cX12_clause 243 = .ok (.aload_n 0, 1) := k42 hC_cX12_clause rfl
theorem dX12_clause_244 : decode cX12_clause 244 = .ok (.ldc_w 322, 3) := k19 (y := 1) (z := 66) hC_cX12_clause rfl rfl
theorem dX12_clause_247 : decode cX12_clause 247 = .ok (.invokevirtual 323, 3) := k182 (y := 1) (z := 67) hC_cX12_clause rfl rfl
theorem dX12_clause_250 : decode cX12_clause 250 = .ok (.iastore, 1) := k79 hC_cX12_clause rfl
theorem dX12_clause_251 : decode cX12_clause 251 = .ok (.aload_n 0, 1) := k42 hC_cX12_clause rfl
theorem dX12_clause_252 : decode cX12_clause 252 = .ok (.invokevirtual 277, 3) := k182 (y := 1) (z := 21) hC_cX12_clause rfl rfl
theorem dX12_clause_255 : decode cX12_clause 255 = .ok (.ifCond .eq 28, 3) := k153 (y := 0) (z := 28) hC_cX12_clause rfl rfl
theorem dX12_clause_258 : decode cX12_clause 258 = .ok (.aload_n 0, 1) := k42 hC_cX12_clause rfl
theorem dX12_clause_259 : decode cX12_clause 259 = .ok (.invokevirtual 297, 3) := k182 (y := 1) (z := 41) hC_cX12_clause rfl rfl
theorem dX12_clause_26 : decode cX12_clause 26 = .ok (.if_icmp .eq 21, 3) := k159 (y := 0) (z := 21) hC_cX12_clause rfl rfl
theorem dX12_clause_262 : decode cX12_clause 262 = .ok (.bipush 40, 2) := k16 (y := 40) hC_cX12_clause rfl rfl
theorem dX12_clause_264 : decode cX12_clause 264 = .ok (.if_icmp .ne 19, 3) := k160 (y := 0) (z := 19) hC_cX12_clause rfl rfl
theorem dX12_clause_267 : decode cX12_clause 267 = .ok (.iload_n 1, 1) := k27 hC_cX12_clause rfl
theorem dX12_clause_268 : decode cX12_clause 268 = .ok (.bipush 119, 2) := k16 (y := 119) hC_cX12_clause rfl rfl
theorem dX12_clause_270 : decode cX12_clause 270 = .ok (.if_icmp .eq 9, 3) := k159 (y := 0) (z := 9) hC_cX12_clause rfl rfl
theorem dX12_clause_273 : decode cX12_clause 273 = .ok (.iload_n 1, 1) := k27 hC_cX12_clause rfl
theorem dX12_clause_274 : decode cX12_clause 274 = .ok (.bipush 115, 2) := k16 (y := 115) hC_cX12_clause rfl rfl
theorem dX12_clause_276 : decode cX12_clause 276 = .ok (.if_icmp .ne 7, 3) := k160 (y := 0) (z := 7) hC_cX12_clause rfl rfl
theorem dX12_clause_279 : decode cX12_clause 279 = .ok (.aload_n 0, 1) := k42 hC_cX12_clause rfl
theorem dX12_clause_280 : decode cX12_clause 280 = .ok (.invokevirtual 373, 3) := k182 (y := 1) (z := 117) hC_cX12_clause rfl rfl
theorem dX12_clause_283 : decode cX12_clause 283 = .ok (.aload_n 0, 1) := k42 hC_cX12_clause rfl
theorem dX12_clause_284 : decode cX12_clause 284 = .ok (.getfield 81, 3) := k180 (y := 0) (z := 81) hC_cX12_clause rfl rfl
theorem dX12_clause_287 : decode cX12_clause 287 = .ok (.iload_n 2, 1) := k28 hC_cX12_clause rfl
theorem dX12_clause_288 : decode cX12_clause 288 = .ok (.aload_n 0, 1) := k42 hC_cX12_clause rfl
theorem dX12_clause_289 : decode cX12_clause 289 = .ok (.getfield 284, 3) := k180 (y := 1) (z := 28) hC_cX12_clause rfl rfl
theorem dX12_clause_29 : decode cX12_clause 29 = .ok (.iload_n 1, 1) := k27 hC_cX12_clause rfl
theorem dX12_clause_292 : decode cX12_clause 292 = .ok (.iastore, 1) := k79 hC_cX12_clause rfl
theorem dX12_clause_293 : decode cX12_clause 293 = .ok (.aload_n 0, 1) := k42 hC_cX12_clause rfl
theorem dX12_clause_294 : decode cX12_clause 294 = .ok (.dup, 1) := k89 hC_cX12_clause rfl
theorem dX12_clause_295 : decode cX12_clause 295 = .ok (.getfield 364, 3) := k180 (y := 1) (z := 108) hC_cX12_clause rfl rfl
theorem dX12_clause_298 : decode cX12_clause 298 = .ok (.iconst 1, 1) := k4 hC_cX12_clause rfl
theorem dX12_clause_299 : decode cX12_clause 299 = .ok (.iadd, 1) := k96 hC_cX12_clause rfl
theorem dX12_clause_30 : decode cX12_clause 30 = .ok (.bipush 111, 2) := k16 (y := 111) hC_cX12_clause rfl rfl
theorem dX12_clause_300 : decode cX12_clause 300 = .ok (.putfield 364, 3) := k181 (y := 1) (z := 108) hC_cX12_clause rfl rfl
theorem dX12_clause_303 : decode cX12_clause 303 = .ok (.return_, 1) := k177 hC_cX12_clause rfl
theorem dX12_clause_32 : decode cX12_clause 32 = .ok (.if_icmp .eq 15, 3) := k159 (y := 0) (z := 15) hC_cX12_clause rfl rfl
theorem dX12_clause_35 : decode cX12_clause 35 = .ok (.aload_n 0, 1) := k42 hC_cX12_clause rfl
theorem dX12_clause_36 : decode cX12_clause 36 = .ok (.iconst 1, 1) := k4 hC_cX12_clause rfl
theorem dX12_clause_37 : decode cX12_clause 37 = .ok (.aload_n 0, 1) := k42 hC_cX12_clause rfl
theorem dX12_clause_38 : decode cX12_clause 38 = .ok (.getfield 268, 3) := k180 (y := 1) (z := 12) hC_cX12_clause rfl rfl
theorem dX12_clause_4 : decode cX12_clause 4 = .ok (.istore_n 1, 1) := k60 hC_cX12_clause rfl
theorem dX12_clause_41 : decode cX12_clause 41 = .ok (.invokevirtual 293, 3) := k182 (y := 1) (z := 37) hC_cX12_clause rfl rfl
theorem dX12_clause_44 : decode cX12_clause 44 = .ok (.goto 21, 3) := k167 (y := 0) (z := 21) hC_cX12_clause rfl rfl
theorem dX12_clause_47 : decode cX12_clause 47 = .ok (.aload_n 0, 1) := k42 hC_cX12_clause rfl
theorem dX12_clause_48 : decode cX12_clause 48 = .ok (.getfield 364, 3) := k180 (y := 1) (z := 108) hC_cX12_clause rfl rfl
theorem dX12_clause_5 : decode cX12_clause 5 = .ok (.iload_n 1, 1) := k27 hC_cX12_clause rfl
theorem dX12_clause_51 : decode cX12_clause 51 = .ok (.bipush 16, 2) := k16 (y := 16) hC_cX12_clause rfl rfl
theorem dX12_clause_53 : decode cX12_clause 53 = .ok (.if_icmp .ne 12, 3) := k160 (y := 0) (z := 12) hC_cX12_clause rfl rfl
theorem dX12_clause_56 : decode cX12_clause 56 = .ok (.aload_n 0, 1) := k42 hC_cX12_clause rfl
theorem dX12_clause_57 : decode cX12_clause 57 = .ok (.iconst 4, 1) := k7 hC_cX12_clause rfl
theorem dX12_clause_58 : decode cX12_clause 58 = .ok (.aload_n 0, 1) := k42 hC_cX12_clause rfl
theorem dX12_clause_59 : decode cX12_clause 59 = .ok (.getfield 268, 3) := k180 (y := 1) (z := 12) hC_cX12_clause rfl rfl
theorem dX12_clause_6 : decode cX12_clause 6 = .ok (.bipush 119, 2) := k16 (y := 119) hC_cX12_clause rfl rfl
theorem dX12_clause_62 : decode cX12_clause 62 = .ok (.invokevirtual 293, 3) := k182 (y := 1) (z := 37) hC_cX12_clause rfl rfl
theorem dX12_clause_65 : decode cX12_clause 65 = .ok (.aload_n 0, 1) := k42 hC_cX12_clause rfl
theorem dX12_clause_66 : decode cX12_clause 66 = .ok (.invokevirtual 277, 3) := k182 (y := 1) (z := 21) hC_cX12_clause rfl rfl
theorem dX12_clause_69 : decode cX12_clause 69 = .ok (.ifCond .ne 4, 3) := k154 (y := 0) (z := 4) hC_cX12_clause rfl rfl
theorem dX12_clause_72 : decode cX12_clause 72 = .ok (.return_, 1) := k177 hC_cX12_clause rfl
theorem dX12_clause_73 : decode cX12_clause 73 = .ok (.bipush 16, 2) := k16 (y := 16) hC_cX12_clause rfl rfl
theorem dX12_clause_75 : decode cX12_clause 75 = .ok (.aload_n 0, 1) := k42 hC_cX12_clause rfl
theorem dX12_clause_76 : decode cX12_clause 76 = .ok (.getfield 281, 3) := k180 (y := 1) (z := 25) hC_cX12_clause rfl rfl
theorem dX12_clause_79 : decode cX12_clause 79 = .ok (.imul, 1) := k104 hC_cX12_clause rfl
theorem dX12_clause_8 : decode cX12_clause 8 = .ok (.if_icmp .eq 39, 3) := k159 (y := 0) (z := 39) hC_cX12_clause rfl rfl
theorem dX12_clause_80 : decode cX12_clause 80 = .ok (.aload_n 0, 1) := k42 hC_cX12_clause rfl
theorem dX12_clause_81 : decode cX12_clause 81 = .ok (.getfield 364, 3) := k180 (y := 1) (z := 108) hC_cX12_clause rfl rfl
theorem dX12_clause_84 : decode cX12_clause 84 = .ok (.iadd, 1) := k96 hC_cX12_clause rfl
theorem dX12_clause_85 : decode cX12_clause 85 = .ok (.istore_n 2, 1) := k61 hC_cX12_clause rfl
theorem dX12_clause_86 : decode cX12_clause 86 = .ok (.aload_n 0, 1) := k42 hC_cX12_clause rfl
theorem dX12_clause_87 : decode cX12_clause 87 = .ok (.getfield 66, 3) := k180 (y := 0) (z := 66) hC_cX12_clause rfl rfl
theorem dX12_clause_90 : decode cX12_clause 90 = .ok (.iload_n 2, 1) := k28 hC_cX12_clause rfl
theorem dX12_clause_91 : decode cX12_clause 91 = .ok (.iload_n 1, 1) := k27 hC_cX12_clause rfl
theorem dX12_clause_92 : decode cX12_clause 92 = .ok (.iastore, 1) := k79 hC_cX12_clause rfl
theorem dX12_clause_93 : decode cX12_clause 93 = .ok (.aload_n 0, 1) := k42 hC_cX12_clause rfl
theorem dX12_clause_94 : decode cX12_clause 94 = .ok (.getfield 78, 3) := k180 (y := 0) (z := 78) hC_cX12_clause rfl rfl
theorem dX12_clause_97 : decode cX12_clause 97 = .ok (.iload_n 2, 1) := k28 hC_cX12_clause rfl
theorem dX12_clause_98 : decode cX12_clause 98 = .ok (.aload_n 0, 1) := k42 hC_cX12_clause rfl
theorem dX12_clause_99 : decode cX12_clause 99 = .ok (.getfield 284, 3) := k180 (y := 1) (z := 28) hC_cX12_clause rfl rfl
theorem dX12_rules_0 : decode cX12_rules 0 = .ok (.aload_n 0, 1) := k42 hC_cX12_rules rfl
theorem dX12_rules_1 : decode cX12_rules 1 = .ok (.getfield 281, 3) := k180 (y := 1) (z := 25) hC_cX12_rules rfl rfl
theorem dX12_rules_10 : decode cX12_rules 10 = .ok (.iconst (-1), 1) := k2 hC_cX12_rules rfl
theorem dX12_rules_101 : decode cX12_rules 101 = .ok (.iload 5, 2) := k21 hC_cX12_rules rfl
theorem dX12_rules_103 : decode cX12_rules 103 = .ok (.ifCond .eq 53, 3) := k153 (y := 0) (z := 53) hC_cX12_rules rfl rfl
theorem dX12_rules_106 : decode cX12_rules 106 = .ok (.aload_n 0, 1) := k42 hC_cX12_rules rfl
theorem dX12_rules_107 : decode cX12_rules 107 = .ok (.invokevirtual 277, 3) := k182 (y := 1) (z := 21) hC_cX12_rules rfl rfl
theorem dX12_rules_11 : decode cX12_rules 11 = .ok (.aload_n 0, 1) := k42 hC_cX12_rules rfl
theorem dX12_rules_110 : decode cX12_rules 110 = .ok (.ifCond .eq 46, 3) := k153 (y := 0) (z := 46) hC_cX12_rules rfl rfl
theorem dX12_rules_113 : decode cX12_rules 113 = .ok (.aload_n 0, 1) := k42 hC_cX12_rules rfl
theorem dX12_rules_114 : decode cX12_rules 114 = .ok (.invokevirtual 379, 3) := k182 (y := 1) (z := 123) hC_cX12_rules rfl rfl
theorem dX12_rules_117 : decode cX12_rules 117 = .ok (.aload_n 0, 1) := k42 hC_cX12_rules rfl
theorem dX12_rules_118 : decode cX12_rules 118 = .ok (.invokevirtual 277, 3) := k182 (y := 1) (z := 21) hC_cX12_rules rfl rfl
theorem dX12_rules_12 : decode cX12_rules 12 = .ok (.getfield 256, 3) := k180 (y := 1) (z := 0) hC_cX12_rules rfl rfl
theorem dX12_rules_121 : decode cX12_rules 121 = .ok (.ifCond .eq 18, 3) := k153 (y := 0) (z := 18) hC_cX12_rules rfl rfl
theorem dX12_rules_124 : decode cX12_rules 124 = .ok (.aload_n 0, 1) := k42 hC_cX12_rules rfl
theorem dX12_rules_125 : decode cX12_rules 125 = .ok (.getfield 268, 3) := k180 (y := 1) (z := 12) hC_cX12_rules rfl rfl
theorem dX12_rules_128 : decode cX12_rules 128 = .ok (.aload_n 0, 1) := k42 hC_cX12_rules rfl
theorem dX12_rules_129 : decode cX12_rules 129 = .ok (.getfield 271, 3) := k180 (y := 1) (z := 15) hC_cX12_rules rfl rfl
theorem dX12_rules_132 : decode cX12_rules 132 = .ok (.if_icmp .ge 7, 3) := k162 (y := 0) (z := 7) hC_cX12_rules rfl rfl
theorem dX12_rules_135 : decode cX12_rules 135 = .ok (.iconst 1, 1) := k4 hC_cX12_rules rfl
theorem dX12_rules_136 : decode cX12_rules 136 = .ok (.goto 4, 3) := k167 (y := 0) (z := 4) hC_cX12_rules rfl rfl
theorem dX12_rules_139 : decode cX12_rules 139 = .ok (.iconst 0, 1) := k3 hC_cX12_rules rfl
theorem dX12_rules_140 : decode cX12_rules 140 = .ok (.istore 5, 2) := k54 hC_cX12_rules rfl
theorem dX12_rules_142 : decode cX12_rules 142 = .ok (.iload 5, 2) := k21 hC_cX12_rules rfl
theorem dX12_rules_144 : decode cX12_rules 144 = .ok (.ifCond .eq (-43), 3) := k153 (y := 255) (z := 213) hC_cX12_rules rfl rfl
theorem dX12_rules_147 : decode cX12_rules 147 = .ok (.aload_n 0, 1) := k42 hC_cX12_rules rfl
theorem dX12_rules_148 : decode cX12_rules 148 = .ok (.bipush 59, 2) := k16 (y := 59) hC_cX12_rules rfl rfl
theorem dX12_rules_15 : decode cX12_rules 15 = .ok (.iconst 1, 1) := k4 hC_cX12_rules rfl
theorem dX12_rules_150 : decode cX12_rules 150 = .ok (.invokevirtual 361, 3) := k182 (y := 1) (z := 105) hC_cX12_rules rfl rfl
theorem dX12_rules_153 : decode cX12_rules 153 = .ok (.goto (-52), 3) := k167 (y := 255) (z := 204) hC_cX12_rules rfl rfl
theorem dX12_rules_156 : decode cX12_rules 156 = .ok (.aload_n 0, 1) := k42 hC_cX12_rules rfl
theorem dX12_rules_157 : decode cX12_rules 157 = .ok (.getfield 274, 3) := k180 (y := 1) (z := 18) hC_cX12_rules rfl rfl
theorem dX12_rules_16 : decode cX12_rules 16 = .ok (.isub, 1) := k100 hC_cX12_rules rfl
theorem dX12_rules_160 : decode cX12_rules 160 = .ok (.ifCond .ge 8, 3) := k156 (y := 0) (z := 8) hC_cX12_rules rfl rfl
theorem dX12_rules_163 : decode cX12_rules 163 = .ok (.aload_n 0, 1) := k42 hC_cX12_rules rfl
theorem dX12_rules_164 : decode cX12_rules 164 = .ok (.getfield 274, 3) := k180 (y := 1) (z := 18) hC_cX12_rules rfl rfl
theorem dX12_rules_167 : decode cX12_rules 167 = .ok (.ireturn, 1) := k172 hC_cX12_rules rfl
theorem dX12_rules_168 : decode cX12_rules 168 = .ok (.aload_n 0, 1) := k42 hC_cX12_rules rfl
theorem dX12_rules_169 : decode cX12_rules 169 = .ok (.getfield 54, 3) := k180 (y := 0) (z := 54) hC_cX12_rules rfl rfl
theorem dX12_rules_17 : decode cX12_rules 17 = .ok (.invokestatic 214, 3) := k184 (y := 0) (z := 214) hC_cX12_rules rfl rfl
theorem dX12_rules_172 : decode cX12_rules 172 = .ok (.aload_n 0, 1) := k42 hC_cX12_rules rfl
theorem dX12_rules_173 : decode cX12_rules 173 = .ok (.getfield 281, 3) := k180 (y := 1) (z := 25) hC_cX12_rules rfl rfl
theorem dX12_rules_176 : decode cX12_rules 176 = .ok (.iload_n 1, 1) := k27 hC_cX12_rules rfl
theorem dX12_rules_177 : decode cX12_rules 177 = .ok (.iastore, 1) := k79 hC_cX12_rules rfl
theorem dX12_rules_178 : decode cX12_rules 178 = .ok (.aload_n 0, 1) := k42 hC_cX12_rules rfl
theorem dX12_rules_179 : decode cX12_rules 179 = .ok (.getfield 57, 3) := k180 (y := 0) (z := 57) hC_cX12_rules rfl rfl
theorem dX12_rules_182 : decode cX12_rules 182 = .ok (.aload_n 0, 1) := k42 hC_cX12_rules rfl
theorem dX12_rules_183 : decode cX12_rules 183 = .ok (.getfield 281, 3) := k180 (y := 1) (z := 25) hC_cX12_rules rfl rfl
theorem dX12_rules_186 : decode cX12_rules 186 = .ok (.iload_n 2, 1) := k28 hC_cX12_rules rfl
theorem dX12_rules_187 : decode cX12_rules 187 = .ok (.iastore, 1) := k79 hC_cX12_rules rfl
theorem dX12_rules_188 : decode cX12_rules 188 = .ok (.aload_n 0, 1) := k42 hC_cX12_rules rfl
theorem dX12_rules_189 : decode cX12_rules 189 = .ok (.getfield 60, 3) := k180 (y := 0) (z := 60) hC_cX12_rules rfl rfl
theorem dX12_rules_192 : decode cX12_rules 192 = .ok (.aload_n 0, 1) := k42 hC_cX12_rules rfl
theorem dX12_rules_193 : decode cX12_rules 193 = .ok (.getfield 281, 3) := k180 (y := 1) (z := 25) hC_cX12_rules rfl rfl
theorem dX12_rules_196 : decode cX12_rules 196 = .ok (.iload_n 3, 1) := k29 hC_cX12_rules rfl
theorem dX12_rules_197 : decode cX12_rules 197 = .ok (.iastore, 1) := k79 hC_cX12_rules rfl
theorem dX12_rules_198 : decode cX12_rules 198 = .ok (.aload_n 0, 1) := k42 hC_cX12_rules rfl
theorem dX12_rules_199 : decode cX12_rules 199 = .ok (.getfield 63, 3) := k180 (y := 0) (z := 63) hC_cX12_rules rfl rfl
theorem dX12_rules_20 : decode cX12_rules 20 = .ok (.ifCond .eq 45, 3) := k153 (y := 0) (z := 45) hC_cX12_rules rfl rfl
theorem dX12_rules_202 : decode cX12_rules 202 = .ok (.aload_n 0, 1) := k42 hC_cX12_rules rfl
theorem dX12_rules_203 : decode cX12_rules 203 = .ok (.getfield 281, 3) := k180 (y := 1) (z := 25) hC_cX12_rules rfl rfl
theorem dX12_rules_206 : decode cX12_rules 206 = .ok (.aload_n 0, 1) := k42 hC_cX12_rules rfl
theorem dX12_rules_207 : decode cX12_rules 207 = .ok (.getfield 364, 3) := k180 (y := 1) (z := 108) hC_cX12_rules rfl rfl
theorem dX12_rules_210 : decode cX12_rules 210 = .ok (.iastore, 1) := k79 hC_cX12_rules rfl
theorem dX12_rules_211 : decode cX12_rules 211 = .ok (.aload_n 0, 1) := k42 hC_cX12_rules rfl
theorem dX12_rules_212 : decode cX12_rules 212 = .ok (.dup, 1) := k89 hC_cX12_rules rfl
theorem dX12_rules_213 : decode cX12_rules 213 = .ok (.getfield 281, 3) := k180 (y := 1) (z := 25) hC_cX12_rules rfl rfl
theorem dX12_rules_216 : decode cX12_rules 216 = .ok (.iconst 1, 1) := k4 hC_cX12_rules rfl
theorem dX12_rules_217 : decode cX12_rules 217 = .ok (.iadd, 1) := k96 hC_cX12_rules rfl
theorem dX12_rules_218 : decode cX12_rules 218 = .ok (.putfield 281, 3) := k181 (y := 1) (z := 25) hC_cX12_rules rfl rfl
theorem dX12_rules_221 : decode cX12_rules 221 = .ok (.aload_n 0, 1) := k42 hC_cX12_rules rfl
theorem dX12_rules_222 : decode cX12_rules 222 = .ok (.getfield 281, 3) := k180 (y := 1) (z := 25) hC_cX12_rules rfl rfl
theorem dX12_rules_225 : decode cX12_rules 225 = .ok (.iconst 1, 1) := k4 hC_cX12_rules rfl
theorem dX12_rules_226 : decode cX12_rules 226 = .ok (.isub, 1) := k100 hC_cX12_rules rfl
theorem dX12_rules_227 : decode cX12_rules 227 = .ok (.ireturn, 1) := k172 hC_cX12_rules rfl
theorem dX12_rules_23 : decode cX12_rules 23 = .ok (.aload_n 0, 1) := k42 hC_cX12_rules rfl
theorem dX12_rules_24 : decode cX12_rules 24 = .ok (.iload_n 2, 1) := k28 hC_cX12_rules rfl
theorem dX12_rules_25 : decode cX12_rules 25 = .ok (.invokevirtual 376, 3) := k182 (y := 1) (z := 120) hC_cX12_rules rfl rfl
theorem dX12_rules_28 : decode cX12_rules 28 = .ok (.ifCond .eq 37, 3) := k153 (y := 0) (z := 37) hC_cX12_rules rfl rfl
theorem dX12_rules_31 : decode cX12_rules 31 = .ok (.aload_n 0, 1) := k42 hC_cX12_rules rfl
theorem dX12_rules_32 : decode cX12_rules 32 = .ok (.iload_n 3, 1) := k29 hC_cX12_rules rfl
theorem dX12_rules_33 : decode cX12_rules 33 = .ok (.invokevirtual 376, 3) := k182 (y := 1) (z := 120) hC_cX12_rules rfl rfl
theorem dX12_rules_36 : decode cX12_rules 36 = .ok (.ifCond .eq 29, 3) := k153 (y := 0) (z := 29) hC_cX12_rules rfl rfl
theorem dX12_rules_39 : decode cX12_rules 39 = .ok (.iload_n 3, 1) := k29 hC_cX12_rules rfl
theorem dX12_rules_4 : decode cX12_rules 4 = .ok (.bipush 20, 2) := k16 (y := 20) hC_cX12_rules rfl rfl
theorem dX12_rules_40 : decode cX12_rules 40 = .ok (.iload_n 2, 1) := k28 hC_cX12_rules rfl
theorem dX12_rules_41 : decode cX12_rules 41 = .ok (.if_icmp .lt 24, 3) := k161 (y := 0) (z := 24) hC_cX12_rules rfl rfl
theorem dX12_rules_44 : decode cX12_rules 44 = .ok (.iload 4, 2) := k21 hC_cX12_rules rfl
theorem dX12_rules_46 : decode cX12_rules 46 = .ok (.iconst 1, 1) := k4 hC_cX12_rules rfl
theorem dX12_rules_47 : decode cX12_rules 47 = .ok (.sipush 160, 3) := k17 (y := 0) (z := 160) hC_cX12_rules rfl rfl
theorem dX12_rules_50 : decode cX12_rules 50 = .ok (.invokestatic 214, 3) := k184 (y := 0) (z := 214) hC_cX12_rules rfl rfl
theorem dX12_rules_53 : decode cX12_rules 53 = .ok (.ifCond .eq 12, 3) := k153 (y := 0) (z := 12) hC_cX12_rules rfl rfl
theorem dX12_rules_56 : decode cX12_rules 56 = .ok (.iload 4, 2) := k21 hC_cX12_rules rfl
theorem dX12_rules_58 : decode cX12_rules 58 = .ok (.aload_n 0, 1) := k42 hC_cX12_rules rfl
theorem dX12_rules_59 : decode cX12_rules 59 = .ok (.getfield 224, 3) := k180 (y := 0) (z := 224) hC_cX12_rules rfl rfl
theorem dX12_rules_6 : decode cX12_rules 6 = .ok (.if_icmp .eq 59, 3) := k159 (y := 0) (z := 59) hC_cX12_rules rfl rfl
theorem dX12_rules_62 : decode cX12_rules 62 = .ok (.if_icmp .le 5, 3) := k164 (y := 0) (z := 5) hC_cX12_rules rfl rfl
theorem dX12_rules_65 : decode cX12_rules 65 = .ok (.iconst (-1), 1) := k2 hC_cX12_rules rfl
theorem dX12_rules_66 : decode cX12_rules 66 = .ok (.ireturn, 1) := k172 hC_cX12_rules rfl
theorem dX12_rules_67 : decode cX12_rules 67 = .ok (.aload_n 0, 1) := k42 hC_cX12_rules rfl
theorem dX12_rules_68 : decode cX12_rules 68 = .ok (.iconst 0, 1) := k3 hC_cX12_rules rfl
