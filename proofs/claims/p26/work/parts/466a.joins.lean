theorem mlX12_320 : Cond.methodLink RX12 320 yX12_rank ∈ tb := tb_at 1931 (by decide +kernel)
theorem kmS_X12_rank : KmS yX12_rank cX12_rank 1 (some .int) 1 := ⟨tb_at (w := Cond.code yX12_rank cX12_rank 1 (some .int)) 1933 (by decide +kernel), tb_at (w := Cond.initialized RX12) 165 (by decide +kernel), tb_at (w := Cond.static yX12_rank) 1932 (by decide +kernel), ⟨by decide +kernel, by decide +kernel, by decide +kernel⟩⟩
theorem mlX12_323 : Cond.methodLink RX12 323 yX12_add ∈ tb := tb_at 1919 (by decide +kernel)
theorem kmV_X12_add : KmV yX12_add cX12_add 3 none 2 := ⟨tb_at (w := Cond.code yX12_add cX12_add 3 none) 1922 (by decide +kernel), tb_at (w := Cond.initialized RX12) 165 (by decide +kernel), tb_at (w := Cond.instanceMethod yX12_add) 1921 (by decide +kernel), tb_at (w := Cond.selects yX12_add.cls yX12_add yX12_add) 100 (by decide +kernel), ⟨by decide +kernel, by decide +kernel, by decide +kernel⟩⟩
theorem dX12_joins_0 : decode cX12_joins 0 = .ok (.aload_n 0, 1) := by decide +kernel
theorem dX12_joins_1 : decode cX12_joins 1 = .ok (.getfield 173, 3) := by decide +kernel
theorem dX12_joins_12 : decode cX12_joins 12 = .ok (.iconst 1, 1) := by decide +kernel
theorem dX12_joins_13 : decode cX12_joins 13 = .ok (.isub, 1) := by decide +kernel
theorem dX12_joins_14 : decode cX12_joins 14 = .ok (.iaload, 1) := by decide +kernel
theorem dX12_joins_15 : decode cX12_joins 15 = .ok (.if_icmp .le 48, 3) := by decide +kernel
theorem dX12_joins_18 : decode cX12_joins 18 = .ok (.aload_n 0, 1) := by decide +kernel
theorem dX12_joins_19 : decode cX12_joins 19 = .ok (.getfield 170, 3) := by decide +kernel
theorem dX12_joins_22 : decode cX12_joins 22 = .ok (.aload_n 0, 1) := by decide +kernel
theorem dX12_joins_23 : decode cX12_joins 23 = .ok (.getfield 173, 3) := by decide +kernel
theorem dX12_joins_26 : decode cX12_joins 26 = .ok (.iconst 1, 1) := by decide +kernel
theorem dX12_joins_27 : decode cX12_joins 27 = .ok (.isub, 1) := by decide +kernel
theorem dX12_joins_28 : decode cX12_joins 28 = .ok (.iaload, 1) := by decide +kernel
theorem dX12_joins_29 : decode cX12_joins 29 = .ok (.invokestatic 320, 3) := by decide +kernel
theorem dX12_joins_32 : decode cX12_joins 32 = .ok (.iload_n 1, 1) := by decide +kernel
theorem dX12_joins_33 : decode cX12_joins 33 = .ok (.if_icmp .lt 30, 3) := by decide +kernel
theorem dX12_joins_36 : decode cX12_joins 36 = .ok (.aload_n 0, 1) := by decide +kernel
theorem dX12_joins_37 : decode cX12_joins 37 = .ok (.dup, 1) := by decide +kernel
theorem dX12_joins_38 : decode cX12_joins 38 = .ok (.getfield 173, 3) := by decide +kernel
theorem dX12_joins_4 : decode cX12_joins 4 = .ok (.aload_n 0, 1) := by decide +kernel
theorem dX12_joins_41 : decode cX12_joins 41 = .ok (.iconst 1, 1) := by decide +kernel
theorem dX12_joins_42 : decode cX12_joins 42 = .ok (.isub, 1) := by decide +kernel
theorem dX12_joins_43 : decode cX12_joins 43 = .ok (.putfield 173, 3) := by decide +kernel
theorem dX12_joins_46 : decode cX12_joins 46 = .ok (.aload_n 0, 1) := by decide +kernel
theorem dX12_joins_47 : decode cX12_joins 47 = .ok (.aload_n 0, 1) := by decide +kernel
theorem dX12_joins_48 : decode cX12_joins 48 = .ok (.getfield 170, 3) := by decide +kernel
theorem dX12_joins_5 : decode cX12_joins 5 = .ok (.getfield 161, 3) := by decide +kernel
theorem dX12_joins_51 : decode cX12_joins 51 = .ok (.aload_n 0, 1) := by decide +kernel
theorem dX12_joins_52 : decode cX12_joins 52 = .ok (.getfield 173, 3) := by decide +kernel
theorem dX12_joins_55 : decode cX12_joins 55 = .ok (.iaload, 1) := by decide +kernel
theorem dX12_joins_56 : decode cX12_joins 56 = .ok (.iconst 0, 1) := by decide +kernel
theorem dX12_joins_57 : decode cX12_joins 57 = .ok (.invokevirtual 323, 3) := by decide +kernel
theorem dX12_joins_60 : decode cX12_joins 60 = .ok (.goto (-60), 3) := by decide +kernel
theorem dX12_joins_63 : decode cX12_joins 63 = .ok (.return_, 1) := by decide +kernel
theorem dX12_joins_8 : decode cX12_joins 8 = .ok (.aload_n 0, 1) := by decide +kernel
theorem dX12_joins_9 : decode cX12_joins 9 = .ok (.getfield 164, 3) := by decide +kernel
