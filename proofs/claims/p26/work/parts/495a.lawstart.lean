set_option maxRecDepth 100000 in
theorem fs_X11 : ∀ j, j < 14 → defaultValue (tyX11 j) = vp_V [.null, .int 0, .null, .null, .null, .null, .null, .null, .int 0, .int 0, .long 0, .null, .int 0, .null] j := by decide +kernel
set_option maxRecDepth 100000 in
theorem fs_X12 : ∀ j, j < 70 → defaultValue (tyX12 j) = vp_V (.null :: .int 0 :: .int 0 :: .int 0 :: .int 0 :: .int 0 :: .int 0 :: .long 0 :: .int 0 :: .int 0 :: .int 0 :: .int 0 :: .int 0 :: .null :: .null :: .null :: .null :: .null :: .null :: .null :: .null :: .null :: .null :: .null :: .null :: .null :: .null :: .null :: .null :: .null :: .null :: .null :: .null :: .null :: .null :: .null :: .null :: .null :: .null :: .null :: .null :: .null :: .null :: .int 0 :: .int 0 :: .null :: .null :: .null :: .null :: .null :: .int 0 :: .int 0 :: .null :: .int 0 :: .int 0 :: .null :: .null :: .null :: .null :: .int 0 :: .int 0 :: .int 0 :: .int 0 :: .null :: .int 0 :: .null :: .long 0 :: .null :: .null :: .int 0 :: []) j := by decide +kernel
theorem ini_X11 : Cond.initialized RX11 ∈ tb := tb_at 148 (by decide +kernel)
theorem ini_X12 : Cond.initialized RX12 ∈ tb := tb_at 165 (by decide +kernel)
theorem it_X11 : Cond.instantiable RX11 14 ∈ tb := tb_at 170 (by decide +kernel)
theorem it_X12 : Cond.instantiable RX12 70 ∈ tb := tb_at 1506 (by decide +kernel)
theorem kmI_X11_init : KmI yX11_init cX11_init 1 0 := ⟨tb_at (w := Cond.code yX11_init cX11_init 1 none) 173 (by decide +kernel), tb_at (w := Cond.initialized RX11) 148 (by decide +kernel), tb_at (w := Cond.instanceMethod yX11_init) 172 (by decide +kernel), rfl, ⟨by decide +kernel, by decide +kernel, by decide +kernel⟩⟩
theorem kmI_X12_init : KmI yX12_init cX12_init 1 0 := ⟨tb_at (w := Cond.code yX12_init cX12_init 1 none) 1509 (by decide +kernel), tb_at (w := Cond.initialized RX12) 165 (by decide +kernel), tb_at (w := Cond.instanceMethod yX12_init) 1508 (by decide +kernel), rfl, ⟨by decide +kernel, by decide +kernel, by decide +kernel⟩⟩
theorem lkL_10 : Cond.classLink RL 10 RX12 ∈ tb := tb_at 1505 (by decide +kernel)
theorem lkL_7 : Cond.classLink RL 7 RX11 ∈ tb := tb_at 169 (by decide +kernel)
theorem mlL_12 : Cond.methodLink RL 12 yX12_init ∈ tb := tb_at 1507 (by decide +kernel)
theorem mlL_9 : Cond.methodLink RL 9 yX11_init ∈ tb := tb_at 171 (by decide +kernel)
theorem dL_law_0 : decode cL_law 0 = .ok (.new 7, 3) := by decide +kernel
theorem dL_law_11 : decode cL_law 11 = .ok (.dup, 1) := by decide +kernel
theorem dL_law_12 : decode cL_law 12 = .ok (.invokespecial 12, 3) := by decide +kernel
theorem dL_law_1267 : decode cL_law 1267 = .ok (.iconst 1, 1) := by decide +kernel
theorem dL_law_1268 : decode cL_law 1268 = .ok (.ireturn, 1) := by decide +kernel
theorem dL_law_15 : decode cL_law 15 = .ok (.astore_n 2, 1) := by decide +kernel
theorem dL_law_16 : decode cL_law 16 = .ok (.iconst 0, 1) := by decide +kernel
theorem dL_law_17 : decode cL_law 17 = .ok (.istore_n 3, 1) := by decide +kernel
theorem dL_law_3 : decode cL_law 3 = .ok (.dup, 1) := by decide +kernel
theorem dL_law_4 : decode cL_law 4 = .ok (.invokespecial 9, 3) := by decide +kernel
theorem dL_law_7 : decode cL_law 7 = .ok (.astore_n 1, 1) := by decide +kernel
theorem dL_law_8 : decode cL_law 8 = .ok (.new 10, 3) := by decide +kernel
