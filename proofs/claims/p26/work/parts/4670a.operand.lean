theorem flX12_167 : Cond.fieldLink RX12 167 (TX12 51).1 (TX12 51).2.1 (TX12 51).2.2.1 ∈ tb := tb_at 1562 (by decide +kernel)
theorem mlX12_326 : Cond.methodLink RX12 326 yX12_pushes ∈ tb := tb_at 1896 (by decide +kernel)
theorem kmV_X12_pushes : KmV yX12_pushes cX12_pushes 2 none 1 := ⟨tb_at (w := Cond.code yX12_pushes cX12_pushes 2 none) 1899 (by decide +kernel), tb_at (w := Cond.initialized RX12) 165 (by decide +kernel), tb_at (w := Cond.instanceMethod yX12_pushes) 1898 (by decide +kernel), tb_at (w := Cond.selects yX12_pushes.cls yX12_pushes yX12_pushes) 95 (by decide +kernel), ⟨by decide +kernel, by decide +kernel, by decide +kernel⟩⟩
theorem mlX12_339 : Cond.methodLink RX12 339 yX12_opens ∈ tb := tb_at 1915 (by decide +kernel)
theorem kmV_X12_opens : KmV yX12_opens cX12_opens 2 none 1 := ⟨tb_at (w := Cond.code yX12_opens cX12_opens 2 none) 1918 (by decide +kernel), tb_at (w := Cond.initialized RX12) 165 (by decide +kernel), tb_at (w := Cond.instanceMethod yX12_opens) 1917 (by decide +kernel), tb_at (w := Cond.selects yX12_opens.cls yX12_opens yX12_opens) 99 (by decide +kernel), ⟨by decide +kernel, by decide +kernel, by decide +kernel⟩⟩
theorem flX12_158 : Cond.fieldLink RX12 158 (TX12 48).1 (TX12 48).2.1 (TX12 48).2.2.1 ∈ tb := tb_at 1559 (by decide +kernel)
theorem mlX12_336 : Cond.methodLink RX12 336 yX12_holdsBack ∈ tb := tb_at 1907 (by decide +kernel)
theorem kmV_X12_holdsBack : KmV yX12_holdsBack cX12_holdsBack 2 none 1 := ⟨tb_at (w := Cond.code yX12_holdsBack cX12_holdsBack 2 none) 1910 (by decide +kernel), tb_at (w := Cond.initialized RX12) 165 (by decide +kernel), tb_at (w := Cond.instanceMethod yX12_holdsBack) 1909 (by decide +kernel), tb_at (w := Cond.selects yX12_holdsBack.cls yX12_holdsBack yX12_holdsBack) 97 (by decide +kernel), ⟨by decide +kernel, by decide +kernel, by decide +kernel⟩⟩
theorem mlX12_329 : Cond.methodLink RX12 329 yX12_isTest ∈ tb := tb_at 1904 (by decide +kernel)
theorem kmS_X12_isTest : KmS yX12_isTest cX12_isTest 1 (some .boolean) 1 := ⟨tb_at (w := Cond.code yX12_isTest cX12_isTest 1 (some .boolean)) 1906 (by decide +kernel), tb_at (w := Cond.initialized RX12) 165 (by decide +kernel), tb_at (w := Cond.static yX12_isTest) 1905 (by decide +kernel), ⟨by decide +kernel, by decide +kernel, by decide +kernel⟩⟩
theorem dX12_opens_0 : decode cX12_opens 0 = .ok (.aload_n 0, 1) := by decide +kernel
theorem dX12_opens_1 : decode cX12_opens 1 = .ok (.getfield 167, 3) := by decide +kernel
theorem dX12_opens_10 : decode cX12_opens 10 = .ok (.iconst 5, 1) := by decide +kernel
theorem dX12_opens_11 : decode cX12_opens 11 = .ok (.aload_n 0, 1) := by decide +kernel
theorem dX12_opens_12 : decode cX12_opens 12 = .ok (.getfield 23, 3) := by decide +kernel
theorem dX12_opens_15 : decode cX12_opens 15 = .ok (.invokevirtual 240, 3) := by decide +kernel
theorem dX12_opens_18 : decode cX12_opens 18 = .ok (.aload_n 0, 1) := by decide +kernel
theorem dX12_opens_19 : decode cX12_opens 19 = .ok (.getfield 36, 3) := by decide +kernel
theorem dX12_opens_22 : decode cX12_opens 22 = .ok (.ifCond .le 4, 3) := by decide +kernel
theorem dX12_opens_25 : decode cX12_opens 25 = .ok (.return_, 1) := by decide +kernel
theorem dX12_opens_26 : decode cX12_opens 26 = .ok (.aload_n 0, 1) := by decide +kernel
theorem dX12_opens_27 : decode cX12_opens 27 = .ok (.dup, 1) := by decide +kernel
theorem dX12_opens_28 : decode cX12_opens 28 = .ok (.getfield 167, 3) := by decide +kernel
theorem dX12_opens_31 : decode cX12_opens 31 = .ok (.iconst 1, 1) := by decide +kernel
theorem dX12_opens_32 : decode cX12_opens 32 = .ok (.iadd, 1) := by decide +kernel
theorem dX12_opens_33 : decode cX12_opens 33 = .ok (.putfield 167, 3) := by decide +kernel
theorem dX12_opens_36 : decode cX12_opens 36 = .ok (.aload_n 0, 1) := by decide +kernel
theorem dX12_opens_37 : decode cX12_opens 37 = .ok (.invokevirtual 247, 3) := by decide +kernel
theorem dX12_opens_4 : decode cX12_opens 4 = .ok (.bipush 8, 2) := by decide +kernel
theorem dX12_opens_40 : decode cX12_opens 40 = .ok (.aload_n 0, 1) := by decide +kernel
theorem dX12_opens_41 : decode cX12_opens 41 = .ok (.iload_n 1, 1) := by decide +kernel
theorem dX12_opens_42 : decode cX12_opens 42 = .ok (.invokevirtual 326, 3) := by decide +kernel
theorem dX12_opens_45 : decode cX12_opens 45 = .ok (.return_, 1) := by decide +kernel
theorem dX12_opens_6 : decode cX12_opens 6 = .ok (.if_icmp .ne 12, 3) := by decide +kernel
theorem dX12_opens_9 : decode cX12_opens 9 = .ok (.aload_n 0, 1) := by decide +kernel
theorem dX12_operand_0 : decode cX12_operand 0 = .ok (.aload_n 0, 1) := by decide +kernel
theorem dX12_operand_1 : decode cX12_operand 1 = .ok (.getfield 164, 3) := by decide +kernel
theorem dX12_operand_101 : decode cX12_operand 101 = .ok (.aload_n 0, 1) := by decide +kernel
theorem dX12_operand_102 : decode cX12_operand 102 = .ok (.bipush 9, 2) := by decide +kernel
theorem dX12_operand_104 : decode cX12_operand 104 = .ok (.iconst 0, 1) := by decide +kernel
theorem dX12_operand_105 : decode cX12_operand 105 = .ok (.invokevirtual 323, 3) := by decide +kernel
theorem dX12_operand_108 : decode cX12_operand 108 = .ok (.aload_n 0, 1) := by decide +kernel
theorem dX12_operand_109 : decode cX12_operand 109 = .ok (.getfield 152, 3) := by decide +kernel
theorem dX12_operand_11 : decode cX12_operand 11 = .ok (.iload_n 1, 1) := by decide +kernel
theorem dX12_operand_112 : decode cX12_operand 112 = .ok (.iload_n 1, 1) := by decide +kernel
theorem dX12_operand_113 : decode cX12_operand 113 = .ok (.iconst 2, 1) := by decide +kernel
theorem dX12_operand_114 : decode cX12_operand 114 = .ok (.iastore, 1) := by decide +kernel
theorem dX12_operand_115 : decode cX12_operand 115 = .ok (.aload_n 0, 1) := by decide +kernel
theorem dX12_operand_116 : decode cX12_operand 116 = .ok (.invokevirtual 247, 3) := by decide +kernel
theorem dX12_operand_119 : decode cX12_operand 119 = .ok (.iconst 1, 1) := by decide +kernel
theorem dX12_operand_12 : decode cX12_operand 12 = .ok (.iaload, 1) := by decide +kernel
theorem dX12_operand_120 : decode cX12_operand 120 = .ok (.ireturn, 1) := by decide +kernel
theorem dX12_operand_121 : decode cX12_operand 121 = .ok (.aload_n 0, 1) := by decide +kernel
theorem dX12_operand_122 : decode cX12_operand 122 = .ok (.bipush 40, 2) := by decide +kernel
theorem dX12_operand_124 : decode cX12_operand 124 = .ok (.invokevirtual 244, 3) := by decide +kernel
theorem dX12_operand_127 : decode cX12_operand 127 = .ok (.ifCond .eq 10, 3) := by decide +kernel
theorem dX12_operand_13 : decode cX12_operand 13 = .ok (.invokestatic 329, 3) := by decide +kernel
theorem dX12_operand_130 : decode cX12_operand 130 = .ok (.aload_n 0, 1) := by decide +kernel
theorem dX12_operand_131 : decode cX12_operand 131 = .ok (.iconst 2, 1) := by decide +kernel
theorem dX12_operand_132 : decode cX12_operand 132 = .ok (.invokevirtual 339, 3) := by decide +kernel
theorem dX12_operand_135 : decode cX12_operand 135 = .ok (.iconst 0, 1) := by decide +kernel
theorem dX12_operand_136 : decode cX12_operand 136 = .ok (.ireturn, 1) := by decide +kernel
theorem dX12_operand_137 : decode cX12_operand 137 = .ok (.aload_n 0, 1) := by decide +kernel
theorem dX12_operand_138 : decode cX12_operand 138 = .ok (.ldc2_w 312, 3) := by decide +kernel
theorem dX12_operand_141 : decode cX12_operand 141 = .ok (.invokevirtual 332, 3) := by decide +kernel
theorem dX12_operand_144 : decode cX12_operand 144 = .ok (.ifCond .ne 13, 3) := by decide +kernel
theorem dX12_operand_147 : decode cX12_operand 147 = .ok (.aload_n 0, 1) := by decide +kernel
theorem dX12_operand_148 : decode cX12_operand 148 = .ok (.ldc2_w 314, 3) := by decide +kernel
theorem dX12_operand_151 : decode cX12_operand 151 = .ok (.invokevirtual 332, 3) := by decide +kernel
theorem dX12_operand_154 : decode cX12_operand 154 = .ok (.ifCond .eq 69, 3) := by decide +kernel
theorem dX12_operand_157 : decode cX12_operand 157 = .ok (.aload_n 0, 1) := by decide +kernel
theorem dX12_operand_158 : decode cX12_operand 158 = .ok (.ldc2_w 312, 3) := by decide +kernel
theorem dX12_operand_16 : decode cX12_operand 16 = .ok (.ifCond .eq 16, 3) := by decide +kernel
theorem dX12_operand_161 : decode cX12_operand 161 = .ok (.invokevirtual 332, 3) := by decide +kernel
theorem dX12_operand_164 : decode cX12_operand 164 = .ok (.ifCond .eq 8, 3) := by decide +kernel
theorem dX12_operand_167 : decode cX12_operand 167 = .ok (.bipush 15, 2) := by decide +kernel
theorem dX12_operand_169 : decode cX12_operand 169 = .ok (.goto 5, 3) := by decide +kernel
theorem dX12_operand_172 : decode cX12_operand 172 = .ok (.bipush 16, 2) := by decide +kernel
theorem dX12_operand_174 : decode cX12_operand 174 = .ok (.istore_n 3, 1) := by decide +kernel
theorem dX12_operand_175 : decode cX12_operand 175 = .ok (.aload_n 0, 1) := by decide +kernel
theorem dX12_operand_176 : decode cX12_operand 176 = .ok (.invokevirtual 247, 3) := by decide +kernel
theorem dX12_operand_179 : decode cX12_operand 179 = .ok (.aload_n 0, 1) := by decide +kernel
theorem dX12_operand_180 : decode cX12_operand 180 = .ok (.bipush 40, 2) := by decide +kernel
theorem dX12_operand_182 : decode cX12_operand 182 = .ok (.invokevirtual 244, 3) := by decide +kernel
theorem dX12_operand_185 : decode cX12_operand 185 = .ok (.ifCond .ne 12, 3) := by decide +kernel
theorem dX12_operand_188 : decode cX12_operand 188 = .ok (.aload_n 0, 1) := by decide +kernel
theorem dX12_operand_189 : decode cX12_operand 189 = .ok (.iconst 1, 1) := by decide +kernel
theorem dX12_operand_19 : decode cX12_operand 19 = .ok (.aload_n 0, 1) := by decide +kernel
theorem dX12_operand_190 : decode cX12_operand 190 = .ok (.aload_n 0, 1) := by decide +kernel
theorem dX12_operand_191 : decode cX12_operand 191 = .ok (.getfield 23, 3) := by decide +kernel
theorem dX12_operand_194 : decode cX12_operand 194 = .ok (.invokevirtual 240, 3) := by decide +kernel
theorem dX12_operand_197 : decode cX12_operand 197 = .ok (.aload_n 0, 1) := by decide +kernel
theorem dX12_operand_198 : decode cX12_operand 198 = .ok (.iconst 3, 1) := by decide +kernel
theorem dX12_operand_199 : decode cX12_operand 199 = .ok (.invokevirtual 339, 3) := by decide +kernel
theorem dX12_operand_20 : decode cX12_operand 20 = .ok (.getfield 155, 3) := by decide +kernel
theorem dX12_operand_202 : decode cX12_operand 202 = .ok (.aload_n 0, 1) := by decide +kernel
theorem dX12_operand_203 : decode cX12_operand 203 = .ok (.getfield 36, 3) := by decide +kernel
theorem dX12_operand_206 : decode cX12_operand 206 = .ok (.ifCond .ne 15, 3) := by decide +kernel
theorem dX12_operand_209 : decode cX12_operand 209 = .ok (.aload_n 0, 1) := by decide +kernel
theorem dX12_operand_210 : decode cX12_operand 210 = .ok (.getfield 158, 3) := by decide +kernel
theorem dX12_operand_213 : decode cX12_operand 213 = .ok (.aload_n 0, 1) := by decide +kernel
theorem dX12_operand_214 : decode cX12_operand 214 = .ok (.getfield 164, 3) := by decide +kernel
theorem dX12_operand_217 : decode cX12_operand 217 = .ok (.iconst 1, 1) := by decide +kernel
theorem dX12_operand_218 : decode cX12_operand 218 = .ok (.isub, 1) := by decide +kernel
theorem dX12_operand_219 : decode cX12_operand 219 = .ok (.iload_n 3, 1) := by decide +kernel
theorem dX12_operand_220 : decode cX12_operand 220 = .ok (.iastore, 1) := by decide +kernel
theorem dX12_operand_221 : decode cX12_operand 221 = .ok (.iconst 0, 1) := by decide +kernel
theorem dX12_operand_222 : decode cX12_operand 222 = .ok (.ireturn, 1) := by decide +kernel
theorem dX12_operand_223 : decode cX12_operand 223 = .ok (.aload_n 0, 1) := by decide +kernel
theorem dX12_operand_224 : decode cX12_operand 224 = .ok (.getfield 20, 3) := by decide +kernel
theorem dX12_operand_227 : decode cX12_operand 227 = .ok (.iconst 2, 1) := by decide +kernel
theorem dX12_operand_228 : decode cX12_operand 228 = .ok (.if_icmp .ne 7, 3) := by decide +kernel
theorem dX12_operand_23 : decode cX12_operand 23 = .ok (.iload_n 1, 1) := by decide +kernel
theorem dX12_operand_231 : decode cX12_operand 231 = .ok (.iconst 0, 1) := by decide +kernel
theorem dX12_operand_232 : decode cX12_operand 232 = .ok (.goto 74, 3) := by decide +kernel
theorem dX12_operand_235 : decode cX12_operand 235 = .ok (.aload_n 0, 1) := by decide +kernel
theorem dX12_operand_236 : decode cX12_operand 236 = .ok (.ldc2_w 304, 3) := by decide +kernel
theorem dX12_operand_239 : decode cX12_operand 239 = .ok (.invokevirtual 332, 3) := by decide +kernel
theorem dX12_operand_24 : decode cX12_operand 24 = .ok (.baload, 1) := by decide +kernel
theorem dX12_operand_242 : decode cX12_operand 242 = .ok (.ifCond .eq 7, 3) := by decide +kernel
theorem dX12_operand_245 : decode cX12_operand 245 = .ok (.iconst 1, 1) := by decide +kernel
theorem dX12_operand_246 : decode cX12_operand 246 = .ok (.goto 60, 3) := by decide +kernel
theorem dX12_operand_249 : decode cX12_operand 249 = .ok (.aload_n 0, 1) := by decide +kernel
theorem dX12_operand_25 : decode cX12_operand 25 = .ok (.ifCond .eq 7, 3) := by decide +kernel
theorem dX12_operand_250 : decode cX12_operand 250 = .ok (.ldc2_w 260, 3) := by decide +kernel
theorem dX12_operand_253 : decode cX12_operand 253 = .ok (.invokevirtual 332, 3) := by decide +kernel
theorem dX12_operand_256 : decode cX12_operand 256 = .ok (.ifCond .eq 7, 3) := by decide +kernel
theorem dX12_operand_259 : decode cX12_operand 259 = .ok (.iconst 2, 1) := by decide +kernel
theorem dX12_operand_260 : decode cX12_operand 260 = .ok (.goto 46, 3) := by decide +kernel
theorem dX12_operand_263 : decode cX12_operand 263 = .ok (.aload_n 0, 1) := by decide +kernel
theorem dX12_operand_264 : decode cX12_operand 264 = .ok (.ldc2_w 306, 3) := by decide +kernel
theorem dX12_operand_267 : decode cX12_operand 267 = .ok (.invokevirtual 332, 3) := by decide +kernel
theorem dX12_operand_270 : decode cX12_operand 270 = .ok (.ifCond .eq 7, 3) := by decide +kernel
theorem dX12_operand_273 : decode cX12_operand 273 = .ok (.iconst 3, 1) := by decide +kernel
theorem dX12_operand_274 : decode cX12_operand 274 = .ok (.goto 32, 3) := by decide +kernel
theorem dX12_operand_277 : decode cX12_operand 277 = .ok (.aload_n 0, 1) := by decide +kernel
theorem dX12_operand_278 : decode cX12_operand 278 = .ok (.ldc2_w 308, 3) := by decide +kernel
theorem dX12_operand_28 : decode cX12_operand 28 = .ok (.iconst 1, 1) := by decide +kernel
theorem dX12_operand_281 : decode cX12_operand 281 = .ok (.invokevirtual 332, 3) := by decide +kernel
theorem dX12_operand_284 : decode cX12_operand 284 = .ok (.ifCond .eq 7, 3) := by decide +kernel
theorem dX12_operand_287 : decode cX12_operand 287 = .ok (.iconst 4, 1) := by decide +kernel
theorem dX12_operand_288 : decode cX12_operand 288 = .ok (.goto 18, 3) := by decide +kernel
theorem dX12_operand_29 : decode cX12_operand 29 = .ok (.goto 4, 3) := by decide +kernel
theorem dX12_operand_291 : decode cX12_operand 291 = .ok (.aload_n 0, 1) := by decide +kernel
theorem dX12_operand_292 : decode cX12_operand 292 = .ok (.ldc2_w 310, 3) := by decide +kernel
theorem dX12_operand_295 : decode cX12_operand 295 = .ok (.invokevirtual 332, 3) := by decide +kernel
theorem dX12_operand_298 : decode cX12_operand 298 = .ok (.ifCond .eq 7, 3) := by decide +kernel
theorem dX12_operand_301 : decode cX12_operand 301 = .ok (.iconst 5, 1) := by decide +kernel
theorem dX12_operand_302 : decode cX12_operand 302 = .ok (.goto 4, 3) := by decide +kernel
theorem dX12_operand_305 : decode cX12_operand 305 = .ok (.iconst (-1), 1) := by decide +kernel
theorem dX12_operand_306 : decode cX12_operand 306 = .ok (.istore_n 3, 1) := by decide +kernel
theorem dX12_operand_307 : decode cX12_operand 307 = .ok (.iload_n 3, 1) := by decide +kernel
theorem dX12_operand_308 : decode cX12_operand 308 = .ok (.iconst (-1), 1) := by decide +kernel
theorem dX12_operand_309 : decode cX12_operand 309 = .ok (.if_icmp .ne 12, 3) := by decide +kernel
theorem dX12_operand_312 : decode cX12_operand 312 = .ok (.aload_n 0, 1) := by decide +kernel
theorem dX12_operand_313 : decode cX12_operand 313 = .ok (.iconst 1, 1) := by decide +kernel
theorem dX12_operand_314 : decode cX12_operand 314 = .ok (.aload_n 0, 1) := by decide +kernel
theorem dX12_operand_315 : decode cX12_operand 315 = .ok (.getfield 23, 3) := by decide +kernel
theorem dX12_operand_318 : decode cX12_operand 318 = .ok (.invokevirtual 240, 3) := by decide +kernel
theorem dX12_operand_32 : decode cX12_operand 32 = .ok (.iconst 0, 1) := by decide +kernel
theorem dX12_operand_321 : decode cX12_operand 321 = .ok (.aload_n 0, 1) := by decide +kernel
theorem dX12_operand_322 : decode cX12_operand 322 = .ok (.getfield 36, 3) := by decide +kernel
theorem dX12_operand_325 : decode cX12_operand 325 = .ok (.ifCond .le 5, 3) := by decide +kernel
theorem dX12_operand_328 : decode cX12_operand 328 = .ok (.iconst 1, 1) := by decide +kernel
theorem dX12_operand_329 : decode cX12_operand 329 = .ok (.ireturn, 1) := by decide +kernel
theorem dX12_operand_33 : decode cX12_operand 33 = .ok (.istore_n 2, 1) := by decide +kernel
theorem dX12_operand_330 : decode cX12_operand 330 = .ok (.aload_n 0, 1) := by decide +kernel
theorem dX12_operand_331 : decode cX12_operand 331 = .ok (.iload_n 3, 1) := by decide +kernel
theorem dX12_operand_332 : decode cX12_operand 332 = .ok (.aload_n 0, 1) := by decide +kernel
theorem dX12_operand_333 : decode cX12_operand 333 = .ok (.getfield 29, 3) := by decide +kernel
theorem dX12_operand_336 : decode cX12_operand 336 = .ok (.invokevirtual 323, 3) := by decide +kernel
theorem dX12_operand_339 : decode cX12_operand 339 = .ok (.aload_n 0, 1) := by decide +kernel
theorem dX12_operand_34 : decode cX12_operand 34 = .ok (.iload_n 2, 1) := by decide +kernel
theorem dX12_operand_340 : decode cX12_operand 340 = .ok (.invokevirtual 247, 3) := by decide +kernel
theorem dX12_operand_343 : decode cX12_operand 343 = .ok (.iconst 1, 1) := by decide +kernel
theorem dX12_operand_344 : decode cX12_operand 344 = .ok (.ireturn, 1) := by decide +kernel
theorem dX12_operand_35 : decode cX12_operand 35 = .ok (.ifCond .eq 25, 3) := by decide +kernel
theorem dX12_operand_38 : decode cX12_operand 38 = .ok (.aload_n 0, 1) := by decide +kernel
theorem dX12_operand_39 : decode cX12_operand 39 = .ok (.ldc2_w 300, 3) := by decide +kernel
theorem dX12_operand_4 : decode cX12_operand 4 = .ok (.iconst 1, 1) := by decide +kernel
theorem dX12_operand_42 : decode cX12_operand 42 = .ok (.invokevirtual 332, 3) := by decide +kernel
theorem dX12_operand_45 : decode cX12_operand 45 = .ok (.ifCond .eq 15, 3) := by decide +kernel
theorem dX12_operand_48 : decode cX12_operand 48 = .ok (.aload_n 0, 1) := by decide +kernel
theorem dX12_operand_49 : decode cX12_operand 49 = .ok (.bipush 22, 2) := by decide +kernel
theorem dX12_operand_5 : decode cX12_operand 5 = .ok (.isub, 1) := by decide +kernel
theorem dX12_operand_51 : decode cX12_operand 51 = .ok (.invokevirtual 336, 3) := by decide +kernel
theorem dX12_operand_54 : decode cX12_operand 54 = .ok (.aload_n 0, 1) := by decide +kernel
theorem dX12_operand_55 : decode cX12_operand 55 = .ok (.invokevirtual 247, 3) := by decide +kernel
theorem dX12_operand_58 : decode cX12_operand 58 = .ok (.iconst 0, 1) := by decide +kernel
theorem dX12_operand_59 : decode cX12_operand 59 = .ok (.ireturn, 1) := by decide +kernel
theorem dX12_operand_6 : decode cX12_operand 6 = .ok (.istore_n 1, 1) := by decide +kernel
theorem dX12_operand_60 : decode cX12_operand 60 = .ok (.aload_n 0, 1) := by decide +kernel
theorem dX12_operand_61 : decode cX12_operand 61 = .ok (.getfield 155, 3) := by decide +kernel
theorem dX12_operand_64 : decode cX12_operand 64 = .ok (.iload_n 1, 1) := by decide +kernel
theorem dX12_operand_65 : decode cX12_operand 65 = .ok (.iconst 0, 1) := by decide +kernel
theorem dX12_operand_66 : decode cX12_operand 66 = .ok (.bastore, 1) := by decide +kernel
theorem dX12_operand_67 : decode cX12_operand 67 = .ok (.iload_n 2, 1) := by decide +kernel
theorem dX12_operand_68 : decode cX12_operand 68 = .ok (.ifCond .eq 19, 3) := by decide +kernel
theorem dX12_operand_7 : decode cX12_operand 7 = .ok (.aload_n 0, 1) := by decide +kernel
theorem dX12_operand_71 : decode cX12_operand 71 = .ok (.aload_n 0, 1) := by decide +kernel
theorem dX12_operand_72 : decode cX12_operand 72 = .ok (.bipush 91, 2) := by decide +kernel
theorem dX12_operand_74 : decode cX12_operand 74 = .ok (.invokevirtual 244, 3) := by decide +kernel
theorem dX12_operand_77 : decode cX12_operand 77 = .ok (.ifCond .eq 10, 3) := by decide +kernel
theorem dX12_operand_8 : decode cX12_operand 8 = .ok (.getfield 149, 3) := by decide +kernel
theorem dX12_operand_80 : decode cX12_operand 80 = .ok (.aload_n 0, 1) := by decide +kernel
theorem dX12_operand_81 : decode cX12_operand 81 = .ok (.iconst 5, 1) := by decide +kernel
theorem dX12_operand_82 : decode cX12_operand 82 = .ok (.invokevirtual 339, 3) := by decide +kernel
theorem dX12_operand_85 : decode cX12_operand 85 = .ok (.iconst 0, 1) := by decide +kernel
theorem dX12_operand_86 : decode cX12_operand 86 = .ok (.ireturn, 1) := by decide +kernel
theorem dX12_operand_87 : decode cX12_operand 87 = .ok (.iload_n 2, 1) := by decide +kernel
theorem dX12_operand_88 : decode cX12_operand 88 = .ok (.ifCond .eq 33, 3) := by decide +kernel
theorem dX12_operand_91 : decode cX12_operand 91 = .ok (.aload_n 0, 1) := by decide +kernel
theorem dX12_operand_92 : decode cX12_operand 92 = .ok (.ldc2_w 302, 3) := by decide +kernel
theorem dX12_operand_95 : decode cX12_operand 95 = .ok (.invokevirtual 332, 3) := by decide +kernel
theorem dX12_operand_98 : decode cX12_operand 98 = .ok (.ifCond .eq 23, 3) := by decide +kernel
