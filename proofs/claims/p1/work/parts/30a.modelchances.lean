theorem flX12_210 : Cond.fieldLink RX12 210 (TX12 65).1 (TX12 65).2.1 (TX12 65).2.2.1 ∈ tb := tb_at 1576 (by decide +kernel)
theorem clX12_545 : Cond.constantLong RX12 545 1000000000000 ∈ tb := tb_at 2153 (by decide +kernel)
theorem clX12_547 : Cond.constantLong RX12 547 100 ∈ tb := tb_at 2158 (by decide +kernel)
theorem mlX12_549 : Cond.methodLink RX12 549 yX12_nobody ∈ tb := tb_at 2149 (by decide +kernel)
theorem kmV_X12_nobody : KmV yX12_nobody cX12_nobody 2 none 0 := ⟨tb_at (w := Cond.code yX12_nobody cX12_nobody 2 none) 2152 (by decide +kernel), tb_at (w := Cond.initialized RX12) 165 (by decide +kernel), tb_at (w := Cond.instanceMethod yX12_nobody) 2151 (by decide +kernel), tb_at (w := Cond.selects yX12_nobody.cls yX12_nobody yX12_nobody) 129 (by decide +kernel), ⟨by decide +kernel, by decide +kernel, by decide +kernel⟩⟩
theorem mlX12_552 : Cond.methodLink RX12 552 yX12_oneMore ∈ tb := tb_at 2154 (by decide +kernel)
theorem kmV_X12_oneMore : KmV yX12_oneMore cX12_oneMore 3 none 1 := ⟨tb_at (w := Cond.code yX12_oneMore cX12_oneMore 3 none) 2157 (by decide +kernel), tb_at (w := Cond.initialized RX12) 165 (by decide +kernel), tb_at (w := Cond.instanceMethod yX12_oneMore) 2156 (by decide +kernel), tb_at (w := Cond.selects yX12_oneMore.cls yX12_oneMore yX12_oneMore) 130 (by decide +kernel), ⟨by decide +kernel, by decide +kernel, by decide +kernel⟩⟩
theorem mlX12_560 : Cond.methodLink RX12 560 yX12_above ∈ tb := tb_at 2159 (by decide +kernel)
theorem kmV_X12_above : KmV yX12_above cX12_above 5 (some .long) 1 := ⟨tb_at (w := Cond.code yX12_above cX12_above 5 (some .long)) 2162 (by decide +kernel), tb_at (w := Cond.initialized RX12) 165 (by decide +kernel), tb_at (w := Cond.instanceMethod yX12_above) 2161 (by decide +kernel), tb_at (w := Cond.selects yX12_above.cls yX12_above yX12_above) 131 (by decide +kernel), ⟨by decide +kernel, by decide +kernel, by decide +kernel⟩⟩
theorem clX12_564 : Cond.constantLong RX12 564 10000000000 ∈ tb := tb_at 2171 (by decide +kernel)
theorem dX12_nobody_12 : decode cX12_nobody 12 = .ok (.iload_n 1, 1) := by decide +kernel
theorem dX12_nobody_13 : decode cX12_nobody 13 = .ok (.iload_n 1, 1) := by decide +kernel
theorem dX12_nobody_14 : decode cX12_nobody 14 = .ok (.ifCond .ne 9, 3) := by decide +kernel
theorem dX12_nobody_17 : decode cX12_nobody 17 = .ok (.ldc2_w 545, 3) := by decide +kernel
theorem dX12_nobody_2 : decode cX12_nobody 2 = .ok (.iload_n 1, 1) := by decide +kernel
theorem dX12_nobody_20 : decode cX12_nobody 20 = .ok (.goto 4, 3) := by decide +kernel
theorem dX12_nobody_23 : decode cX12_nobody 23 = .ok (.lconst 0, 1) := by decide +kernel
theorem dX12_nobody_24 : decode cX12_nobody 24 = .ok (.lastore, 1) := by decide +kernel
theorem dX12_nobody_25 : decode cX12_nobody 25 = .ok (.iinc 1 1, 3) := by decide +kernel
theorem dX12_nobody_28 : decode cX12_nobody 28 = .ok (.goto (-26), 3) := by decide +kernel
theorem dX12_nobody_3 : decode cX12_nobody 3 = .ok (.bipush 64, 2) := by decide +kernel
theorem dX12_nobody_5 : decode cX12_nobody 5 = .ok (.if_icmp .ge 26, 3) := by decide +kernel
theorem dX12_nobody_8 : decode cX12_nobody 8 = .ok (.aload_n 0, 1) := by decide +kernel
theorem dX12_nobody_9 : decode cX12_nobody 9 = .ok (.getfield 210, 3) := by decide +kernel
theorem dX12_nobody_0 : decode cX12_nobody 0 = .ok (.iconst 0, 1) := by decide +kernel
theorem dX12_nobody_1 : decode cX12_nobody 1 = .ok (.istore_n 1, 1) := by decide +kernel
theorem dX12_nobody_31 : decode cX12_nobody 31 = .ok (.return_, 1) := by decide +kernel
theorem dX12_oneMore_11 : decode cX12_oneMore 11 = .ok (.iload_n 2, 1) := by decide +kernel
theorem dX12_oneMore_12 : decode cX12_oneMore 12 = .ok (.aload_n 0, 1) := by decide +kernel
theorem dX12_oneMore_13 : decode cX12_oneMore 13 = .ok (.getfield 210, 3) := by decide +kernel
theorem dX12_oneMore_16 : decode cX12_oneMore 16 = .ok (.iload_n 2, 1) := by decide +kernel
theorem dX12_oneMore_17 : decode cX12_oneMore 17 = .ok (.laload, 1) := by decide +kernel
theorem dX12_oneMore_18 : decode cX12_oneMore 18 = .ok (.bipush 100, 2) := by decide +kernel
theorem dX12_oneMore_20 : decode cX12_oneMore 20 = .ok (.iload_n 1, 1) := by decide +kernel
theorem dX12_oneMore_21 : decode cX12_oneMore 21 = .ok (.isub, 1) := by decide +kernel
theorem dX12_oneMore_22 : decode cX12_oneMore 22 = .ok (.i2l, 1) := by decide +kernel
theorem dX12_oneMore_23 : decode cX12_oneMore 23 = .ok (.lmul, 1) := by decide +kernel
theorem dX12_oneMore_24 : decode cX12_oneMore 24 = .ok (.iload_n 2, 1) := by decide +kernel
theorem dX12_oneMore_25 : decode cX12_oneMore 25 = .ok (.ifCond .le 17, 3) := by decide +kernel
theorem dX12_oneMore_28 : decode cX12_oneMore 28 = .ok (.aload_n 0, 1) := by decide +kernel
theorem dX12_oneMore_29 : decode cX12_oneMore 29 = .ok (.getfield 210, 3) := by decide +kernel
theorem dX12_oneMore_3 : decode cX12_oneMore 3 = .ok (.iload_n 2, 1) := by decide +kernel
theorem dX12_oneMore_32 : decode cX12_oneMore 32 = .ok (.iload_n 2, 1) := by decide +kernel
theorem dX12_oneMore_33 : decode cX12_oneMore 33 = .ok (.iconst 1, 1) := by decide +kernel
theorem dX12_oneMore_34 : decode cX12_oneMore 34 = .ok (.isub, 1) := by decide +kernel
theorem dX12_oneMore_35 : decode cX12_oneMore 35 = .ok (.laload, 1) := by decide +kernel
theorem dX12_oneMore_36 : decode cX12_oneMore 36 = .ok (.iload_n 1, 1) := by decide +kernel
theorem dX12_oneMore_37 : decode cX12_oneMore 37 = .ok (.i2l, 1) := by decide +kernel
theorem dX12_oneMore_38 : decode cX12_oneMore 38 = .ok (.lmul, 1) := by decide +kernel
theorem dX12_oneMore_39 : decode cX12_oneMore 39 = .ok (.goto 4, 3) := by decide +kernel
theorem dX12_oneMore_4 : decode cX12_oneMore 4 = .ok (.ifCond .lt 51, 3) := by decide +kernel
theorem dX12_oneMore_42 : decode cX12_oneMore 42 = .ok (.lconst 0, 1) := by decide +kernel
theorem dX12_oneMore_43 : decode cX12_oneMore 43 = .ok (.ladd, 1) := by decide +kernel
theorem dX12_oneMore_44 : decode cX12_oneMore 44 = .ok (.ldc2_w 547, 3) := by decide +kernel
theorem dX12_oneMore_47 : decode cX12_oneMore 47 = .ok (.ldiv, 1) := by decide +kernel
theorem dX12_oneMore_48 : decode cX12_oneMore 48 = .ok (.lastore, 1) := by decide +kernel
theorem dX12_oneMore_49 : decode cX12_oneMore 49 = .ok (.iinc 2 (-1), 3) := by decide +kernel
theorem dX12_oneMore_52 : decode cX12_oneMore 52 = .ok (.goto (-49), 3) := by decide +kernel
theorem dX12_oneMore_7 : decode cX12_oneMore 7 = .ok (.aload_n 0, 1) := by decide +kernel
theorem dX12_oneMore_8 : decode cX12_oneMore 8 = .ok (.getfield 210, 3) := by decide +kernel
theorem dX12_oneMore_0 : decode cX12_oneMore 0 = .ok (.bipush 63, 2) := by decide +kernel
theorem dX12_oneMore_2 : decode cX12_oneMore 2 = .ok (.istore_n 2, 1) := by decide +kernel
theorem dX12_oneMore_55 : decode cX12_oneMore 55 = .ok (.return_, 1) := by decide +kernel
theorem dX12_above_11 : decode cX12_above 11 = .ok (.if_icmp .ge 19, 3) := by decide +kernel
theorem dX12_above_14 : decode cX12_above 14 = .ok (.lload_n 2, 1) := by decide +kernel
theorem dX12_above_15 : decode cX12_above 15 = .ok (.aload_n 0, 1) := by decide +kernel
theorem dX12_above_16 : decode cX12_above 16 = .ok (.getfield 210, 3) := by decide +kernel
theorem dX12_above_19 : decode cX12_above 19 = .ok (.iload 4, 2) := by decide +kernel
theorem dX12_above_21 : decode cX12_above 21 = .ok (.laload, 1) := by decide +kernel
theorem dX12_above_22 : decode cX12_above 22 = .ok (.ladd, 1) := by decide +kernel
theorem dX12_above_23 : decode cX12_above 23 = .ok (.lstore_n 2, 1) := by decide +kernel
theorem dX12_above_24 : decode cX12_above 24 = .ok (.iinc 4 1, 3) := by decide +kernel
theorem dX12_above_27 : decode cX12_above 27 = .ok (.goto (-20), 3) := by decide +kernel
theorem dX12_above_7 : decode cX12_above 7 = .ok (.iload 4, 2) := by decide +kernel
theorem dX12_above_9 : decode cX12_above 9 = .ok (.bipush 64, 2) := by decide +kernel
theorem dX12_above_0 : decode cX12_above 0 = .ok (.lconst 0, 1) := by decide +kernel
theorem dX12_above_1 : decode cX12_above 1 = .ok (.lstore_n 2, 1) := by decide +kernel
theorem dX12_above_2 : decode cX12_above 2 = .ok (.iload_n 1, 1) := by decide +kernel
theorem dX12_above_3 : decode cX12_above 3 = .ok (.iconst 1, 1) := by decide +kernel
theorem dX12_above_30 : decode cX12_above 30 = .ok (.lload_n 2, 1) := by decide +kernel
theorem dX12_above_31 : decode cX12_above 31 = .ok (.lreturn, 1) := by decide +kernel
theorem dX12_above_4 : decode cX12_above 4 = .ok (.iadd, 1) := by decide +kernel
theorem dX12_above_5 : decode cX12_above 5 = .ok (.istore 4, 2) := by decide +kernel
theorem dX12_comers_0 : decode cX12_comers 0 = .ok (.aload_n 0, 1) := by decide +kernel
theorem dX12_comers_1 : decode cX12_comers 1 = .ok (.invokevirtual 549, 3) := by decide +kernel
theorem dX12_comers_11 : decode cX12_comers 11 = .ok (.aload_n 0, 1) := by decide +kernel
theorem dX12_comers_12 : decode cX12_comers 12 = .ok (.getfield 48, 3) := by decide +kernel
theorem dX12_comers_15 : decode cX12_comers 15 = .ok (.iaload, 1) := by decide +kernel
theorem dX12_comers_16 : decode cX12_comers 16 = .ok (.if_icmp .ge 36, 3) := by decide +kernel
theorem dX12_comers_4 : decode cX12_comers 4 = .ok (.iconst 0, 1) := by decide +kernel
theorem dX12_comers_5 : decode cX12_comers 5 = .ok (.istore_n 2, 1) := by decide +kernel
theorem dX12_comers_52 : decode cX12_comers 52 = .ok (.iconst 0, 1) := by decide +kernel
theorem dX12_comers_53 : decode cX12_comers 53 = .ok (.istore_n 2, 1) := by decide +kernel
theorem dX12_comers_54 : decode cX12_comers 54 = .ok (.iload_n 2, 1) := by decide +kernel
theorem dX12_comers_55 : decode cX12_comers 55 = .ok (.aload_n 0, 1) := by decide +kernel
theorem dX12_comers_56 : decode cX12_comers 56 = .ok (.getfield 116, 3) := by decide +kernel
theorem dX12_comers_59 : decode cX12_comers 59 = .ok (.iconst 5, 1) := by decide +kernel
theorem dX12_comers_6 : decode cX12_comers 6 = .ok (.iload_n 2, 1) := by decide +kernel
theorem dX12_comers_60 : decode cX12_comers 60 = .ok (.aload_n 0, 1) := by decide +kernel
theorem dX12_comers_61 : decode cX12_comers 61 = .ok (.getfield 48, 3) := by decide +kernel
theorem dX12_comers_64 : decode cX12_comers 64 = .ok (.imul, 1) := by decide +kernel
theorem dX12_comers_65 : decode cX12_comers 65 = .ok (.iload_n 1, 1) := by decide +kernel
theorem dX12_comers_66 : decode cX12_comers 66 = .ok (.iadd, 1) := by decide +kernel
theorem dX12_comers_67 : decode cX12_comers 67 = .ok (.iaload, 1) := by decide +kernel
theorem dX12_comers_68 : decode cX12_comers 68 = .ok (.if_icmp .ge 26, 3) := by decide +kernel
theorem dX12_comers_7 : decode cX12_comers 7 = .ok (.aload_n 0, 1) := by decide +kernel
theorem dX12_comers_8 : decode cX12_comers 8 = .ok (.getfield 77, 3) := by decide +kernel
theorem dX12_comers_94 : decode cX12_comers 94 = .ok (.return_, 1) := by decide +kernel
theorem dX12_over__42 : decode cX12_over_ 42 = .ok (.iload 5, 2) := by decide +kernel
theorem dX12_over__44 : decode cX12_over_ 44 = .ok (.bipush 40, 2) := by decide +kernel
theorem dX12_over__46 : decode cX12_over_ 46 = .ok (.if_icmp .gt 38, 3) := by decide +kernel
theorem dX12_over__49 : decode cX12_over_ 49 = .ok (.iload 5, 2) := by decide +kernel
theorem dX12_over__51 : decode cX12_over_ 51 = .ok (.ifCond .le 8, 3) := by decide +kernel
theorem dX12_over__54 : decode cX12_over_ 54 = .ok (.aload_n 0, 1) := by decide +kernel
theorem dX12_over__55 : decode cX12_over_ 55 = .ok (.iload_n 1, 1) := by decide +kernel
theorem dX12_over__56 : decode cX12_over_ 56 = .ok (.invokevirtual 552, 3) := by decide +kernel
theorem dX12_over__59 : decode cX12_over_ 59 = .ok (.aload_n 0, 1) := by decide +kernel
theorem dX12_over__60 : decode cX12_over_ 60 = .ok (.iload_n 2, 1) := by decide +kernel
theorem dX12_over__61 : decode cX12_over_ 61 = .ok (.invokevirtual 560, 3) := by decide +kernel
theorem dX12_over__64 : decode cX12_over_ 64 = .ok (.iload_n 3, 1) := by decide +kernel
theorem dX12_over__65 : decode cX12_over_ 65 = .ok (.i2l, 1) := by decide +kernel
theorem dX12_over__66 : decode cX12_over_ 66 = .ok (.ldc2_w 564, 3) := by decide +kernel
theorem dX12_over__69 : decode cX12_over_ 69 = .ok (.lmul, 1) := by decide +kernel
theorem dX12_over__70 : decode cX12_over_ 70 = .ok (.lcmp, 1) := by decide +kernel
theorem dX12_over__71 : decode cX12_over_ 71 = .ok (.ifCond .gt 7, 3) := by decide +kernel
theorem dX12_over__74 : decode cX12_over_ 74 = .ok (.iload 5, 2) := by decide +kernel
theorem dX12_over__76 : decode cX12_over_ 76 = .ok (.istore 4, 2) := by decide +kernel
theorem dX12_over__78 : decode cX12_over_ 78 = .ok (.iinc 5 1, 3) := by decide +kernel
theorem dX12_over__81 : decode cX12_over_ 81 = .ok (.goto (-39), 3) := by decide +kernel
