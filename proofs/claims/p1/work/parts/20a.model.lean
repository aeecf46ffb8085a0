set_option maxRecDepth 100000 in
theorem inX12 : ∀ w ∈ u_ws RX12 TX12 70, w ∈ tb := fun w h => List.mem_filter.mpr ⟨(by decide +kernel : ∀ w ∈ u_ws RX12 TX12 70, w ∈ lw_tbl) w h, (by decide +kernel : ∀ w ∈ u_ws RX12 TX12 70, goodWord w = true) w h⟩
theorem clX12 : ClF 12 RX12 TX12 70 tyX12 := ⟨rfl, inX12, tyX12_ok, nmX12⟩
theorem mlX12_316 : Cond.methodLink RX12 316 yX12_is ∈ tb := tb_at 1825 (by decide +kernel)
theorem kmS_X12_is : KmS yX12_is cX12_is 3 (some .boolean) 3 := ⟨tb_at (w := Cond.code yX12_is cX12_is 3 (some .boolean)) 1827 (by decide +kernel), tb_at (w := Cond.initialized RX12) 165 (by decide +kernel), tb_at (w := Cond.static yX12_is) 1826 (by decide +kernel), ⟨by decide +kernel, by decide +kernel, by decide +kernel⟩⟩
theorem flX12_77 : Cond.fieldLink RX12 77 (TX12 21).1 (TX12 21).2.1 (TX12 21).2.2.1 ∈ tb := tb_at 1532 (by decide +kernel)
theorem flX12_48 : Cond.fieldLink RX12 48 (TX12 12).1 (TX12 12).2.1 (TX12 12).2.2.1 ∈ tb := tb_at 1523 (by decide +kernel)
theorem flX12_180 : Cond.fieldLink RX12 180 (TX12 55).1 (TX12 55).2.1 (TX12 55).2.2.1 ∈ tb := tb_at 1566 (by decide +kernel)
theorem flX12_7 : Cond.fieldLink RX12 7 (TX12 0).1 (TX12 0).2.1 (TX12 0).2.2.1 ∈ tb := tb_at 1511 (by decide +kernel)
theorem flX12_13 : Cond.fieldLink RX12 13 (TX12 1).1 (TX12 1).2.1 (TX12 1).2.2.1 ∈ tb := tb_at 1512 (by decide +kernel)
theorem flX12_51 : Cond.fieldLink RX12 51 (TX12 13).1 (TX12 13).2.1 (TX12 13).2.2.1 ∈ tb := tb_at 1524 (by decide +kernel)
theorem mlX12_454 : Cond.methodLink RX12 454 yX12_desksAll ∈ tb := tb_at 1950 (by decide +kernel)
theorem kmV_X12_desksAll : KmV yX12_desksAll cX12_desksAll 3 (some .int) 0 := ⟨tb_at (w := Cond.code yX12_desksAll cX12_desksAll 3 (some .int)) 1953 (by decide +kernel), tb_at (w := Cond.initialized RX12) 165 (by decide +kernel), tb_at (w := Cond.instanceMethod yX12_desksAll) 1952 (by decide +kernel), tb_at (w := Cond.selects yX12_desksAll.cls yX12_desksAll yX12_desksAll) 104 (by decide +kernel), ⟨by decide +kernel, by decide +kernel, by decide +kernel⟩⟩
theorem mlX12_457 : Cond.methodLink RX12 457 yX12_ownedAll ∈ tb := tb_at 1954 (by decide +kernel)
theorem kmV_X12_ownedAll : KmV yX12_ownedAll cX12_ownedAll 3 (some .int) 0 := ⟨tb_at (w := Cond.code yX12_ownedAll cX12_ownedAll 3 (some .int)) 1957 (by decide +kernel), tb_at (w := Cond.initialized RX12) 165 (by decide +kernel), tb_at (w := Cond.instanceMethod yX12_ownedAll) 1956 (by decide +kernel), tb_at (w := Cond.selects yX12_ownedAll.cls yX12_ownedAll yX12_ownedAll) 105 (by decide +kernel), ⟨by decide +kernel, by decide +kernel, by decide +kernel⟩⟩
theorem mlX12_482 : Cond.methodLink RX12 482 yX12_othersOn ∈ tb := tb_at 2020 (by decide +kernel)
theorem kmV_X12_othersOn : KmV yX12_othersOn cX12_othersOn 4 (some .int) 1 := ⟨tb_at (w := Cond.code yX12_othersOn cX12_othersOn 4 (some .int)) 2023 (by decide +kernel), tb_at (w := Cond.initialized RX12) 165 (by decide +kernel), tb_at (w := Cond.instanceMethod yX12_othersOn) 2022 (by decide +kernel), tb_at (w := Cond.selects yX12_othersOn.cls yX12_othersOn yX12_othersOn) 113 (by decide +kernel), ⟨by decide +kernel, by decide +kernel, by decide +kernel⟩⟩
theorem mlX12_485 : Cond.methodLink RX12 485 yX12_spare ∈ tb := tb_at 2024 (by decide +kernel)
theorem kmV_X12_spare : KmV yX12_spare cX12_spare 1 (some .int) 0 := ⟨tb_at (w := Cond.code yX12_spare cX12_spare 1 (some .int)) 2027 (by decide +kernel), tb_at (w := Cond.initialized RX12) 165 (by decide +kernel), tb_at (w := Cond.instanceMethod yX12_spare) 2026 (by decide +kernel), tb_at (w := Cond.selects yX12_spare.cls yX12_spare yX12_spare) 114 (by decide +kernel), ⟨by decide +kernel, by decide +kernel, by decide +kernel⟩⟩
theorem flX12_192 : Cond.fieldLink RX12 192 (TX12 59).1 (TX12 59).2.1 (TX12 59).2.2.1 ∈ tb := tb_at 1570 (by decide +kernel)
theorem flX12_195 : Cond.fieldLink RX12 195 (TX12 60).1 (TX12 60).2.1 (TX12 60).2.2.1 ∈ tb := tb_at 1571 (by decide +kernel)
theorem flX12_198 : Cond.fieldLink RX12 198 (TX12 61).1 (TX12 61).2.1 (TX12 61).2.2.1 ∈ tb := tb_at 1572 (by decide +kernel)
theorem mlX12_494 : Cond.methodLink RX12 494 yX12_standOn ∈ tb := tb_at 2016 (by decide +kernel)
theorem kmV_X12_standOn : KmV yX12_standOn cX12_standOn 2 (some .int) 1 := ⟨tb_at (w := Cond.code yX12_standOn cX12_standOn 2 (some .int)) 2019 (by decide +kernel), tb_at (w := Cond.initialized RX12) 165 (by decide +kernel), tb_at (w := Cond.instanceMethod yX12_standOn) 2018 (by decide +kernel), tb_at (w := Cond.selects yX12_standOn.cls yX12_standOn yX12_standOn) 112 (by decide +kernel), ⟨by decide +kernel, by decide +kernel, by decide +kernel⟩⟩
theorem flX12_67 : Cond.fieldLink RX12 67 (TX12 18).1 (TX12 18).2.1 (TX12 18).2.2.1 ∈ tb := tb_at 1529 (by decide +kernel)
theorem flX12_104 : Cond.fieldLink RX12 104 (TX12 30).1 (TX12 30).2.1 (TX12 30).2.2.1 ∈ tb := tb_at 1541 (by decide +kernel)
theorem mlX12_514 : Cond.methodLink RX12 514 yX12_tied ∈ tb := tb_at 2056 (by decide +kernel)
theorem kmV_X12_tied : KmV yX12_tied cX12_tied 3 (some .int) 0 := ⟨tb_at (w := Cond.code yX12_tied cX12_tied 3 (some .int)) 2059 (by decide +kernel), tb_at (w := Cond.initialized RX12) 165 (by decide +kernel), tb_at (w := Cond.instanceMethod yX12_tied) 2058 (by decide +kernel), tb_at (w := Cond.selects yX12_tied.cls yX12_tied yX12_tied) 119 (by decide +kernel), ⟨by decide +kernel, by decide +kernel, by decide +kernel⟩⟩
theorem flX12_201 : Cond.fieldLink RX12 201 (TX12 62).1 (TX12 62).2.1 (TX12 62).2.2.1 ∈ tb := tb_at 1573 (by decide +kernel)
theorem flX12_204 : Cond.fieldLink RX12 204 (TX12 63).1 (TX12 63).2.1 (TX12 63).2.2.1 ∈ tb := tb_at 1574 (by decide +kernel)
theorem mlX12_590 : Cond.methodLink RX12 590 yX12_fitOf ∈ tb := tb_at 2232 (by decide +kernel)
theorem kmV_X12_fitOf : KmV yX12_fitOf cX12_fitOf 3 (some .int) 0 := ⟨tb_at (w := Cond.code yX12_fitOf cX12_fitOf 3 (some .int)) 2235 (by decide +kernel), tb_at (w := Cond.initialized RX12) 165 (by decide +kernel), tb_at (w := Cond.instanceMethod yX12_fitOf) 2234 (by decide +kernel), tb_at (w := Cond.selects yX12_fitOf.cls yX12_fitOf yX12_fitOf) 140 (by decide +kernel), ⟨by decide +kernel, by decide +kernel, by decide +kernel⟩⟩
theorem mlX12_599 : Cond.methodLink RX12 599 yX12_exchanges ∈ tb := tb_at 2228 (by decide +kernel)
theorem kmV_X12_exchanges : KmV yX12_exchanges cX12_exchanges 4 (some .boolean) 0 := ⟨tb_at (w := Cond.code yX12_exchanges cX12_exchanges 4 (some .boolean)) 2231 (by decide +kernel), tb_at (w := Cond.initialized RX12) 165 (by decide +kernel), tb_at (w := Cond.instanceMethod yX12_exchanges) 2230 (by decide +kernel), tb_at (w := Cond.selects yX12_exchanges.cls yX12_exchanges yX12_exchanges) 139 (by decide +kernel), ⟨by decide +kernel, by decide +kernel, by decide +kernel⟩⟩
theorem flX12_216 : Cond.fieldLink RX12 216 (TX12 67).1 (TX12 67).2.1 (TX12 67).2.2.1 ∈ tb := tb_at 1578 (by decide +kernel)
theorem flX12_26 : Cond.fieldLink RX12 26 (TX12 5).1 (TX12 5).2.1 (TX12 5).2.2.1 ∈ tb := tb_at 1516 (by decide +kernel)
theorem flX12_17 : Cond.fieldLink RX12 17 (TX12 2).1 (TX12 2).2.1 (TX12 2).2.2.1 ∈ tb := tb_at 1513 (by decide +kernel)
theorem flX12_23 : Cond.fieldLink RX12 23 (TX12 4).1 (TX12 4).2.1 (TX12 4).2.2.1 ∈ tb := tb_at 1515 (by decide +kernel)
theorem flX12_20 : Cond.fieldLink RX12 20 (TX12 3).1 (TX12 3).2.1 (TX12 3).2.2.1 ∈ tb := tb_at 1514 (by decide +kernel)
theorem flX12_219 : Cond.fieldLink RX12 219 (TX12 68).1 (TX12 68).2.1 (TX12 68).2.2.1 ∈ tb := tb_at 1579 (by decide +kernel)
theorem flX12_222 : Cond.fieldLink RX12 222 (TX12 69).1 (TX12 69).2.1 (TX12 69).2.2.1 ∈ tb := tb_at 1580 (by decide +kernel)
theorem dX12_is_0 : decode cX12_is 0 = .ok (.iload_n 0, 1) := by decide +kernel
theorem dX12_is_1 : decode cX12_is 1 = .ok (.iload_n 1, 1) := by decide +kernel
theorem dX12_is_10 : decode cX12_is 10 = .ok (.iconst 1, 1) := by decide +kernel
theorem dX12_is_11 : decode cX12_is 11 = .ok (.goto 4, 3) := by decide +kernel
theorem dX12_is_14 : decode cX12_is 14 = .ok (.iconst 0, 1) := by decide +kernel
theorem dX12_is_15 : decode cX12_is 15 = .ok (.ireturn, 1) := by decide +kernel
theorem dX12_is_2 : decode cX12_is 2 = .ok (.if_icmp .lt 12, 3) := by decide +kernel
theorem dX12_is_5 : decode cX12_is 5 = .ok (.iload_n 0, 1) := by decide +kernel
theorem dX12_is_6 : decode cX12_is 6 = .ok (.iload_n 2, 1) := by decide +kernel
theorem dX12_is_7 : decode cX12_is 7 = .ok (.if_icmp .gt 7, 3) := by decide +kernel
theorem dX12_isDay_0 : decode cX12_isDay 0 = .ok (.iload_n 0, 1) := by decide +kernel
theorem dX12_isDay_1 : decode cX12_isDay 1 = .ok (.iconst 0, 1) := by decide +kernel
theorem dX12_isDay_2 : decode cX12_isDay 2 = .ok (.iconst 4, 1) := by decide +kernel
theorem dX12_isDay_3 : decode cX12_isDay 3 = .ok (.invokestatic 316, 3) := by decide +kernel
theorem dX12_isDay_6 : decode cX12_isDay 6 = .ok (.ireturn, 1) := by decide +kernel
theorem dX12_isPerson_0 : decode cX12_isPerson 0 = .ok (.iload_n 1, 1) := by decide +kernel
theorem dX12_isPerson_1 : decode cX12_isPerson 1 = .ok (.iconst 0, 1) := by decide +kernel
theorem dX12_isPerson_10 : decode cX12_isPerson 10 = .ok (.iaload, 1) := by decide +kernel
theorem dX12_isPerson_11 : decode cX12_isPerson 11 = .ok (.iconst 1, 1) := by decide +kernel
theorem dX12_isPerson_12 : decode cX12_isPerson 12 = .ok (.isub, 1) := by decide +kernel
theorem dX12_isPerson_13 : decode cX12_isPerson 13 = .ok (.invokestatic 316, 3) := by decide +kernel
theorem dX12_isPerson_16 : decode cX12_isPerson 16 = .ok (.ireturn, 1) := by decide +kernel
theorem dX12_isPerson_2 : decode cX12_isPerson 2 = .ok (.aload_n 0, 1) := by decide +kernel
theorem dX12_isPerson_3 : decode cX12_isPerson 3 = .ok (.getfield 77, 3) := by decide +kernel
theorem dX12_isPerson_6 : decode cX12_isPerson 6 = .ok (.aload_n 0, 1) := by decide +kernel
theorem dX12_isPerson_7 : decode cX12_isPerson 7 = .ok (.getfield 48, 3) := by decide +kernel
theorem dX12_refuses_0 : decode cX12_refuses 0 = .ok (.aload_n 0, 1) := by decide +kernel
theorem dX12_refuses_1 : decode cX12_refuses 1 = .ok (.getfield 180, 3) := by decide +kernel
theorem dX12_refuses_10 : decode cX12_refuses 10 = .ok (.iconst (-1), 1) := by decide +kernel
theorem dX12_refuses_11 : decode cX12_refuses 11 = .ok (.ireturn, 1) := by decide +kernel
theorem dX12_refuses_4 : decode cX12_refuses 4 = .ok (.iload_n 1, 1) := by decide +kernel
theorem dX12_refuses_5 : decode cX12_refuses 5 = .ok (.dup2, 1) := by decide +kernel
theorem dX12_refuses_6 : decode cX12_refuses 6 = .ok (.iaload, 1) := by decide +kernel
theorem dX12_refuses_7 : decode cX12_refuses 7 = .ok (.iconst 1, 1) := by decide +kernel
theorem dX12_refuses_8 : decode cX12_refuses 8 = .ok (.iadd, 1) := by decide +kernel
theorem dX12_refuses_9 : decode cX12_refuses 9 = .ok (.iastore, 1) := by decide +kernel
theorem dX12_put_0 : decode cX12_put 0 = .ok (.bipush 24, 2) := by decide +kernel
theorem dX12_put_11 : decode cX12_put 11 = .ok (.aload_n 0, 1) := by decide +kernel
theorem dX12_put_12 : decode cX12_put 12 = .ok (.getfield 13, 3) := by decide +kernel
theorem dX12_put_15 : decode cX12_put 15 = .ok (.iload_n 1, 1) := by decide +kernel
theorem dX12_put_16 : decode cX12_put 16 = .ok (.iload_n 2, 1) := by decide +kernel
theorem dX12_put_17 : decode cX12_put 17 = .ok (.ishr, 1) := by decide +kernel
theorem dX12_put_18 : decode cX12_put 18 = .ok (.sipush 255, 3) := by decide +kernel
theorem dX12_put_2 : decode cX12_put 2 = .ok (.istore_n 2, 1) := by decide +kernel
theorem dX12_put_21 : decode cX12_put 21 = .ok (.iand, 1) := by decide +kernel
theorem dX12_put_22 : decode cX12_put 22 = .ok (.iastore, 1) := by decide +kernel
theorem dX12_put_23 : decode cX12_put 23 = .ok (.aload_n 0, 1) := by decide +kernel
theorem dX12_put_24 : decode cX12_put 24 = .ok (.dup, 1) := by decide +kernel
theorem dX12_put_25 : decode cX12_put 25 = .ok (.getfield 13, 3) := by decide +kernel
theorem dX12_put_28 : decode cX12_put 28 = .ok (.iconst 1, 1) := by decide +kernel
theorem dX12_put_29 : decode cX12_put 29 = .ok (.iadd, 1) := by decide +kernel
theorem dX12_put_3 : decode cX12_put 3 = .ok (.iload_n 2, 1) := by decide +kernel
theorem dX12_put_30 : decode cX12_put 30 = .ok (.putfield 13, 3) := by decide +kernel
theorem dX12_put_33 : decode cX12_put 33 = .ok (.iinc 2 (-8), 3) := by decide +kernel
theorem dX12_put_36 : decode cX12_put 36 = .ok (.goto (-33), 3) := by decide +kernel
theorem dX12_put_39 : decode cX12_put 39 = .ok (.return_, 1) := by decide +kernel
theorem dX12_put_4 : decode cX12_put 4 = .ok (.ifCond .lt 35, 3) := by decide +kernel
theorem dX12_put_7 : decode cX12_put 7 = .ok (.aload_n 0, 1) := by decide +kernel
theorem dX12_put_8 : decode cX12_put 8 = .ok (.getfield 7, 3) := by decide +kernel
theorem dX12_desksAll_0 : decode cX12_desksAll 0 = .ok (.iconst 0, 1) := by decide +kernel
theorem dX12_desksAll_1 : decode cX12_desksAll 1 = .ok (.istore_n 1, 1) := by decide +kernel
theorem dX12_desksAll_10 : decode cX12_desksAll 10 = .ok (.getfield 48, 3) := by decide +kernel
theorem dX12_desksAll_13 : decode cX12_desksAll 13 = .ok (.iaload, 1) := by decide +kernel
theorem dX12_desksAll_14 : decode cX12_desksAll 14 = .ok (.if_icmp .ge 25, 3) := by decide +kernel
theorem dX12_desksAll_2 : decode cX12_desksAll 2 = .ok (.iconst 0, 1) := by decide +kernel
theorem dX12_desksAll_3 : decode cX12_desksAll 3 = .ok (.istore_n 2, 1) := by decide +kernel
theorem dX12_desksAll_39 : decode cX12_desksAll 39 = .ok (.iload_n 1, 1) := by decide +kernel
theorem dX12_desksAll_4 : decode cX12_desksAll 4 = .ok (.iload_n 2, 1) := by decide +kernel
theorem dX12_desksAll_40 : decode cX12_desksAll 40 = .ok (.ireturn, 1) := by decide +kernel
theorem dX12_desksAll_5 : decode cX12_desksAll 5 = .ok (.aload_n 0, 1) := by decide +kernel
theorem dX12_desksAll_6 : decode cX12_desksAll 6 = .ok (.getfield 51, 3) := by decide +kernel
theorem dX12_desksAll_9 : decode cX12_desksAll 9 = .ok (.aload_n 0, 1) := by decide +kernel
theorem dX12_ownedAll_0 : decode cX12_ownedAll 0 = .ok (.iconst 0, 1) := by decide +kernel
theorem dX12_ownedAll_1 : decode cX12_ownedAll 1 = .ok (.istore_n 1, 1) := by decide +kernel
theorem dX12_ownedAll_10 : decode cX12_ownedAll 10 = .ok (.getfield 48, 3) := by decide +kernel
theorem dX12_ownedAll_13 : decode cX12_ownedAll 13 = .ok (.iaload, 1) := by decide +kernel
theorem dX12_ownedAll_14 : decode cX12_ownedAll 14 = .ok (.if_icmp .ge 26, 3) := by decide +kernel
theorem dX12_ownedAll_2 : decode cX12_ownedAll 2 = .ok (.iconst 0, 1) := by decide +kernel
theorem dX12_ownedAll_3 : decode cX12_ownedAll 3 = .ok (.istore_n 2, 1) := by decide +kernel
theorem dX12_ownedAll_4 : decode cX12_ownedAll 4 = .ok (.iload_n 2, 1) := by decide +kernel
theorem dX12_ownedAll_40 : decode cX12_ownedAll 40 = .ok (.iload_n 1, 1) := by decide +kernel
theorem dX12_ownedAll_41 : decode cX12_ownedAll 41 = .ok (.ireturn, 1) := by decide +kernel
theorem dX12_ownedAll_5 : decode cX12_ownedAll 5 = .ok (.aload_n 0, 1) := by decide +kernel
theorem dX12_ownedAll_6 : decode cX12_ownedAll 6 = .ok (.getfield 77, 3) := by decide +kernel
theorem dX12_ownedAll_9 : decode cX12_ownedAll 9 = .ok (.aload_n 0, 1) := by decide +kernel
theorem dX12_spare_0 : decode cX12_spare 0 = .ok (.aload_n 0, 1) := by decide +kernel
theorem dX12_spare_1 : decode cX12_spare 1 = .ok (.invokevirtual 454, 3) := by decide +kernel
theorem dX12_spare_4 : decode cX12_spare 4 = .ok (.aload_n 0, 1) := by decide +kernel
theorem dX12_spare_5 : decode cX12_spare 5 = .ok (.invokevirtual 457, 3) := by decide +kernel
theorem dX12_spare_8 : decode cX12_spare 8 = .ok (.isub, 1) := by decide +kernel
theorem dX12_spare_9 : decode cX12_spare 9 = .ok (.ireturn, 1) := by decide +kernel
theorem dX12_inOn_0 : decode cX12_inOn 0 = .ok (.iconst 0, 1) := by decide +kernel
theorem dX12_inOn_1 : decode cX12_inOn 1 = .ok (.istore_n 2, 1) := by decide +kernel
theorem dX12_inOn_10 : decode cX12_inOn 10 = .ok (.getfield 48, 3) := by decide +kernel
theorem dX12_inOn_13 : decode cX12_inOn 13 = .ok (.iaload, 1) := by decide +kernel
theorem dX12_inOn_14 : decode cX12_inOn 14 = .ok (.if_icmp .ge 26, 3) := by decide +kernel
theorem dX12_inOn_2 : decode cX12_inOn 2 = .ok (.iconst 0, 1) := by decide +kernel
theorem dX12_inOn_3 : decode cX12_inOn 3 = .ok (.istore_n 3, 1) := by decide +kernel
theorem dX12_inOn_4 : decode cX12_inOn 4 = .ok (.iload_n 3, 1) := by decide +kernel
theorem dX12_inOn_40 : decode cX12_inOn 40 = .ok (.iload_n 2, 1) := by decide +kernel
theorem dX12_inOn_41 : decode cX12_inOn 41 = .ok (.ireturn, 1) := by decide +kernel
theorem dX12_inOn_5 : decode cX12_inOn 5 = .ok (.aload_n 0, 1) := by decide +kernel
theorem dX12_inOn_6 : decode cX12_inOn 6 = .ok (.getfield 77, 3) := by decide +kernel
theorem dX12_inOn_9 : decode cX12_inOn 9 = .ok (.aload_n 0, 1) := by decide +kernel
theorem dX12_othersOn_0 : decode cX12_othersOn 0 = .ok (.iconst 0, 1) := by decide +kernel
theorem dX12_othersOn_1 : decode cX12_othersOn 1 = .ok (.istore_n 2, 1) := by decide +kernel
theorem dX12_othersOn_10 : decode cX12_othersOn 10 = .ok (.getfield 48, 3) := by decide +kernel
theorem dX12_othersOn_13 : decode cX12_othersOn 13 = .ok (.iaload, 1) := by decide +kernel
theorem dX12_othersOn_14 : decode cX12_othersOn 14 = .ok (.if_icmp .ge 35, 3) := by decide +kernel
theorem dX12_othersOn_2 : decode cX12_othersOn 2 = .ok (.iconst 0, 1) := by decide +kernel
theorem dX12_othersOn_3 : decode cX12_othersOn 3 = .ok (.istore_n 3, 1) := by decide +kernel
theorem dX12_othersOn_4 : decode cX12_othersOn 4 = .ok (.iload_n 3, 1) := by decide +kernel
theorem dX12_othersOn_49 : decode cX12_othersOn 49 = .ok (.iload_n 2, 1) := by decide +kernel
theorem dX12_othersOn_5 : decode cX12_othersOn 5 = .ok (.aload_n 0, 1) := by decide +kernel
theorem dX12_othersOn_50 : decode cX12_othersOn 50 = .ok (.ireturn, 1) := by decide +kernel
theorem dX12_othersOn_6 : decode cX12_othersOn 6 = .ok (.getfield 77, 3) := by decide +kernel
theorem dX12_othersOn_9 : decode cX12_othersOn 9 = .ok (.aload_n 0, 1) := by decide +kernel
theorem dX12_standOn_0 : decode cX12_standOn 0 = .ok (.aload_n 0, 1) := by decide +kernel
theorem dX12_standOn_1 : decode cX12_standOn 1 = .ok (.iload_n 1, 1) := by decide +kernel
theorem dX12_standOn_2 : decode cX12_standOn 2 = .ok (.invokevirtual 482, 3) := by decide +kernel
theorem dX12_standOn_25 : decode cX12_standOn 25 = .ok (.iconst 0, 1) := by decide +kernel
theorem dX12_standOn_26 : decode cX12_standOn 26 = .ok (.ireturn, 1) := by decide +kernel
theorem dX12_standOn_5 : decode cX12_standOn 5 = .ok (.aload_n 0, 1) := by decide +kernel
theorem dX12_standOn_6 : decode cX12_standOn 6 = .ok (.invokevirtual 485, 3) := by decide +kernel
theorem dX12_standOn_9 : decode cX12_standOn 9 = .ok (.if_icmp .le 16, 3) := by decide +kernel
theorem dX12_holds_0 : decode cX12_holds 0 = .ok (.aload_n 0, 1) := by decide +kernel
theorem dX12_holds_1 : decode cX12_holds 1 = .ok (.iconst 0, 1) := by decide +kernel
theorem dX12_holds_10 : decode cX12_holds 10 = .ok (.aload_n 0, 1) := by decide +kernel
theorem dX12_holds_11 : decode cX12_holds 11 = .ok (.iconst (-1), 1) := by decide +kernel
theorem dX12_holds_12 : decode cX12_holds 12 = .ok (.putfield 198, 3) := by decide +kernel
theorem dX12_holds_141 : decode cX12_holds 141 = .ok (.iconst 0, 1) := by decide +kernel
theorem dX12_holds_142 : decode cX12_holds 142 = .ok (.istore_n 1, 1) := by decide +kernel
theorem dX12_holds_143 : decode cX12_holds 143 = .ok (.iload_n 1, 1) := by decide +kernel
theorem dX12_holds_144 : decode cX12_holds 144 = .ok (.iconst 5, 1) := by decide +kernel
theorem dX12_holds_145 : decode cX12_holds 145 = .ok (.if_icmp .ge 24, 3) := by decide +kernel
theorem dX12_holds_148 : decode cX12_holds 148 = .ok (.aload_n 0, 1) := by decide +kernel
theorem dX12_holds_149 : decode cX12_holds 149 = .ok (.iload_n 1, 1) := by decide +kernel
theorem dX12_holds_15 : decode cX12_holds 15 = .ok (.iconst 0, 1) := by decide +kernel
theorem dX12_holds_150 : decode cX12_holds 150 = .ok (.invokevirtual 494, 3) := by decide +kernel
theorem dX12_holds_153 : decode cX12_holds 153 = .ok (.ifCond .le 10, 3) := by decide +kernel
theorem dX12_holds_16 : decode cX12_holds 16 = .ok (.istore_n 1, 1) := by decide +kernel
theorem dX12_holds_163 : decode cX12_holds 163 = .ok (.iinc 1 1, 3) := by decide +kernel
theorem dX12_holds_166 : decode cX12_holds 166 = .ok (.goto (-23), 3) := by decide +kernel
theorem dX12_holds_169 : decode cX12_holds 169 = .ok (.iconst 0, 1) := by decide +kernel
theorem dX12_holds_17 : decode cX12_holds 17 = .ok (.iload_n 1, 1) := by decide +kernel
theorem dX12_holds_170 : decode cX12_holds 170 = .ok (.istore_n 1, 1) := by decide +kernel
theorem dX12_holds_171 : decode cX12_holds 171 = .ok (.iload_n 1, 1) := by decide +kernel
theorem dX12_holds_172 : decode cX12_holds 172 = .ok (.aload_n 0, 1) := by decide +kernel
theorem dX12_holds_173 : decode cX12_holds 173 = .ok (.getfield 67, 3) := by decide +kernel
theorem dX12_holds_176 : decode cX12_holds 176 = .ok (.aload_n 0, 1) := by decide +kernel
theorem dX12_holds_177 : decode cX12_holds 177 = .ok (.getfield 48, 3) := by decide +kernel
theorem dX12_holds_18 : decode cX12_holds 18 = .ok (.aload_n 0, 1) := by decide +kernel
theorem dX12_holds_180 : decode cX12_holds 180 = .ok (.iaload, 1) := by decide +kernel
theorem dX12_holds_181 : decode cX12_holds 181 = .ok (.if_icmp .ge 41, 3) := by decide +kernel
theorem dX12_holds_19 : decode cX12_holds 19 = .ok (.getfield 77, 3) := by decide +kernel
theorem dX12_holds_2 : decode cX12_holds 2 = .ok (.putfield 192, 3) := by decide +kernel
theorem dX12_holds_22 : decode cX12_holds 22 = .ok (.aload_n 0, 1) := by decide +kernel
theorem dX12_holds_222 : decode cX12_holds 222 = .ok (.aload_n 0, 1) := by decide +kernel
theorem dX12_holds_223 : decode cX12_holds 223 = .ok (.getfield 192, 3) := by decide +kernel
theorem dX12_holds_226 : decode cX12_holds 226 = .ok (.ifCond .ne 7, 3) := by decide +kernel
theorem dX12_holds_229 : decode cX12_holds 229 = .ok (.iconst 1, 1) := by decide +kernel
theorem dX12_holds_23 : decode cX12_holds 23 = .ok (.getfield 48, 3) := by decide +kernel
theorem dX12_holds_230 : decode cX12_holds 230 = .ok (.goto 4, 3) := by decide +kernel
theorem dX12_holds_234 : decode cX12_holds 234 = .ok (.ireturn, 1) := by decide +kernel
theorem dX12_holds_26 : decode cX12_holds 26 = .ok (.iaload, 1) := by decide +kernel
theorem dX12_holds_27 : decode cX12_holds 27 = .ok (.if_icmp .ge 60, 3) := by decide +kernel
theorem dX12_holds_5 : decode cX12_holds 5 = .ok (.aload_n 0, 1) := by decide +kernel
theorem dX12_holds_6 : decode cX12_holds 6 = .ok (.iconst (-1), 1) := by decide +kernel
theorem dX12_holds_7 : decode cX12_holds 7 = .ok (.putfield 195, 3) := by decide +kernel
theorem dX12_holds_87 : decode cX12_holds 87 = .ok (.iconst 0, 1) := by decide +kernel
theorem dX12_holds_88 : decode cX12_holds 88 = .ok (.istore_n 1, 1) := by decide +kernel
theorem dX12_holds_89 : decode cX12_holds 89 = .ok (.iload_n 1, 1) := by decide +kernel
theorem dX12_holds_90 : decode cX12_holds 90 = .ok (.aload_n 0, 1) := by decide +kernel
theorem dX12_holds_91 : decode cX12_holds 91 = .ok (.getfield 77, 3) := by decide +kernel
theorem dX12_holds_94 : decode cX12_holds 94 = .ok (.aload_n 0, 1) := by decide +kernel
theorem dX12_holds_95 : decode cX12_holds 95 = .ok (.getfield 48, 3) := by decide +kernel
theorem dX12_holds_98 : decode cX12_holds 98 = .ok (.iaload, 1) := by decide +kernel
theorem dX12_holds_99 : decode cX12_holds 99 = .ok (.if_icmp .ge 42, 3) := by decide +kernel
theorem dX12_tied_0 : decode cX12_tied 0 = .ok (.iconst 0, 1) := by decide +kernel
theorem dX12_tied_1 : decode cX12_tied 1 = .ok (.istore_n 1, 1) := by decide +kernel
theorem dX12_tied_10 : decode cX12_tied 10 = .ok (.getfield 48, 3) := by decide +kernel
theorem dX12_tied_13 : decode cX12_tied 13 = .ok (.iaload, 1) := by decide +kernel
theorem dX12_tied_14 : decode cX12_tied 14 = .ok (.if_icmp .ge 32, 3) := by decide +kernel
theorem dX12_tied_2 : decode cX12_tied 2 = .ok (.iconst 0, 1) := by decide +kernel
theorem dX12_tied_3 : decode cX12_tied 3 = .ok (.istore_n 2, 1) := by decide +kernel
theorem dX12_tied_4 : decode cX12_tied 4 = .ok (.iload_n 2, 1) := by decide +kernel
theorem dX12_tied_46 : decode cX12_tied 46 = .ok (.iload_n 1, 1) := by decide +kernel
theorem dX12_tied_47 : decode cX12_tied 47 = .ok (.ireturn, 1) := by decide +kernel
theorem dX12_tied_5 : decode cX12_tied 5 = .ok (.aload_n 0, 1) := by decide +kernel
theorem dX12_tied_6 : decode cX12_tied 6 = .ok (.getfield 104, 3) := by decide +kernel
theorem dX12_tied_9 : decode cX12_tied 9 = .ok (.aload_n 0, 1) := by decide +kernel
theorem dX12_worth_0 : decode cX12_worth 0 = .ok (.aload_n 0, 1) := by decide +kernel
theorem dX12_worth_1 : decode cX12_worth 1 = .ok (.invokevirtual 514, 3) := by decide +kernel
theorem dX12_worth_12 : decode cX12_worth 12 = .ok (.aload_n 0, 1) := by decide +kernel
theorem dX12_worth_13 : decode cX12_worth 13 = .ok (.getfield 48, 3) := by decide +kernel
theorem dX12_worth_16 : decode cX12_worth 16 = .ok (.iaload, 1) := by decide +kernel
theorem dX12_worth_17 : decode cX12_worth 17 = .ok (.if_icmp .ge 59, 3) := by decide +kernel
theorem dX12_worth_4 : decode cX12_worth 4 = .ok (.istore_n 1, 1) := by decide +kernel
theorem dX12_worth_5 : decode cX12_worth 5 = .ok (.iconst 0, 1) := by decide +kernel
theorem dX12_worth_6 : decode cX12_worth 6 = .ok (.istore_n 2, 1) := by decide +kernel
theorem dX12_worth_7 : decode cX12_worth 7 = .ok (.iload_n 2, 1) := by decide +kernel
theorem dX12_worth_76 : decode cX12_worth 76 = .ok (.iload_n 1, 1) := by decide +kernel
theorem dX12_worth_77 : decode cX12_worth 77 = .ok (.ireturn, 1) := by decide +kernel
theorem dX12_worth_8 : decode cX12_worth 8 = .ok (.aload_n 0, 1) := by decide +kernel
theorem dX12_worth_9 : decode cX12_worth 9 = .ok (.getfield 77, 3) := by decide +kernel
theorem dX12_betters_0 : decode cX12_betters 0 = .ok (.iconst 0, 1) := by decide +kernel
theorem dX12_betters_1 : decode cX12_betters 1 = .ok (.istore_n 2, 1) := by decide +kernel
theorem dX12_betters_11 : decode cX12_betters 11 = .ok (.iaload, 1) := by decide +kernel
theorem dX12_betters_112 : decode cX12_betters 112 = .ok (.iconst 0, 1) := by decide +kernel
theorem dX12_betters_113 : decode cX12_betters 113 = .ok (.ireturn, 1) := by decide +kernel
theorem dX12_betters_12 : decode cX12_betters 12 = .ok (.if_icmp .ge 100, 3) := by decide +kernel
theorem dX12_betters_2 : decode cX12_betters 2 = .ok (.iload_n 2, 1) := by decide +kernel
theorem dX12_betters_3 : decode cX12_betters 3 = .ok (.aload_n 0, 1) := by decide +kernel
theorem dX12_betters_4 : decode cX12_betters 4 = .ok (.getfield 77, 3) := by decide +kernel
theorem dX12_betters_7 : decode cX12_betters 7 = .ok (.aload_n 0, 1) := by decide +kernel
theorem dX12_betters_8 : decode cX12_betters 8 = .ok (.getfield 48, 3) := by decide +kernel
theorem dX12_sought_0 : decode cX12_sought 0 = .ok (.aload_n 0, 1) := by decide +kernel
theorem dX12_sought_1 : decode cX12_sought 1 = .ok (.iconst 0, 1) := by decide +kernel
theorem dX12_sought_10 : decode cX12_sought 10 = .ok (.getfield 48, 3) := by decide +kernel
theorem dX12_sought_13 : decode cX12_sought 13 = .ok (.iaload, 1) := by decide +kernel
theorem dX12_sought_14 : decode cX12_sought 14 = .ok (.istore_n 2, 1) := by decide +kernel
theorem dX12_sought_15 : decode cX12_sought 15 = .ok (.iconst 0, 1) := by decide +kernel
theorem dX12_sought_157 : decode cX12_sought 157 = .ok (.iload_n 3, 1) := by decide +kernel
theorem dX12_sought_158 : decode cX12_sought 158 = .ok (.ifCond .ge 7, 3) := by decide +kernel
theorem dX12_sought_16 : decode cX12_sought 16 = .ok (.istore_n 3, 1) := by decide +kernel
theorem dX12_sought_165 : decode cX12_sought 165 = .ok (.iconst 1, 1) := by decide +kernel
theorem dX12_sought_166 : decode cX12_sought 166 = .ok (.ireturn, 1) := by decide +kernel
theorem dX12_sought_17 : decode cX12_sought 17 = .ok (.aload_n 0, 1) := by decide +kernel
theorem dX12_sought_18 : decode cX12_sought 18 = .ok (.getfield 204, 3) := by decide +kernel
theorem dX12_sought_2 : decode cX12_sought 2 = .ok (.putfield 201, 3) := by decide +kernel
theorem dX12_sought_21 : decode cX12_sought 21 = .ok (.iconst 0, 1) := by decide +kernel
theorem dX12_sought_22 : decode cX12_sought 22 = .ok (.iconst (-1), 1) := by decide +kernel
theorem dX12_sought_23 : decode cX12_sought 23 = .ok (.iastore, 1) := by decide +kernel
theorem dX12_sought_24 : decode cX12_sought 24 = .ok (.iload_n 3, 1) := by decide +kernel
theorem dX12_sought_25 : decode cX12_sought 25 = .ok (.ifCond .lt 132, 3) := by decide +kernel
theorem dX12_sought_28 : decode cX12_sought 28 = .ok (.iload_n 3, 1) := by decide +kernel
theorem dX12_sought_29 : decode cX12_sought 29 = .ok (.iload_n 2, 1) := by decide +kernel
theorem dX12_sought_30 : decode cX12_sought 30 = .ok (.if_icmp .ge 127, 3) := by decide +kernel
theorem dX12_sought_5 : decode cX12_sought 5 = .ok (.aload_n 0, 1) := by decide +kernel
theorem dX12_sought_6 : decode cX12_sought 6 = .ok (.getfield 77, 3) := by decide +kernel
theorem dX12_sought_9 : decode cX12_sought 9 = .ok (.aload_n 0, 1) := by decide +kernel
theorem dX12_round_0 : decode cX12_round 0 = .ok (.iconst 0, 1) := by decide +kernel
theorem dX12_round_1 : decode cX12_round 1 = .ok (.istore_n 1, 1) := by decide +kernel
theorem dX12_round_10 : decode cX12_round 10 = .ok (.getfield 48, 3) := by decide +kernel
theorem dX12_round_13 : decode cX12_round 13 = .ok (.iaload, 1) := by decide +kernel
theorem dX12_round_134 : decode cX12_round 134 = .ok (.iload_n 1, 1) := by decide +kernel
theorem dX12_round_135 : decode cX12_round 135 = .ok (.ireturn, 1) := by decide +kernel
theorem dX12_round_14 : decode cX12_round 14 = .ok (.if_icmp .ge 120, 3) := by decide +kernel
theorem dX12_round_2 : decode cX12_round 2 = .ok (.iconst 0, 1) := by decide +kernel
theorem dX12_round_3 : decode cX12_round 3 = .ok (.istore_n 2, 1) := by decide +kernel
theorem dX12_round_4 : decode cX12_round 4 = .ok (.iload_n 2, 1) := by decide +kernel
theorem dX12_round_5 : decode cX12_round 5 = .ok (.aload_n 0, 1) := by decide +kernel
theorem dX12_round_6 : decode cX12_round 6 = .ok (.getfield 77, 3) := by decide +kernel
theorem dX12_round_9 : decode cX12_round 9 = .ok (.aload_n 0, 1) := by decide +kernel
theorem dX12_fitOf_0 : decode cX12_fitOf 0 = .ok (.iconst 0, 1) := by decide +kernel
theorem dX12_fitOf_1 : decode cX12_fitOf 1 = .ok (.istore_n 1, 1) := by decide +kernel
theorem dX12_fitOf_10 : decode cX12_fitOf 10 = .ok (.iload_n 2, 1) := by decide +kernel
theorem dX12_fitOf_101 : decode cX12_fitOf 101 = .ok (.iaload, 1) := by decide +kernel
theorem dX12_fitOf_102 : decode cX12_fitOf 102 = .ok (.if_icmp .ge 44, 3) := by decide +kernel
theorem dX12_fitOf_11 : decode cX12_fitOf 11 = .ok (.bipush 30, 2) := by decide +kernel
theorem dX12_fitOf_13 : decode cX12_fitOf 13 = .ok (.aload_n 0, 1) := by decide +kernel
theorem dX12_fitOf_14 : decode cX12_fitOf 14 = .ok (.getfield 48, 3) := by decide +kernel
theorem dX12_fitOf_146 : decode cX12_fitOf 146 = .ok (.iload_n 1, 1) := by decide +kernel
theorem dX12_fitOf_147 : decode cX12_fitOf 147 = .ok (.ireturn, 1) := by decide +kernel
theorem dX12_fitOf_17 : decode cX12_fitOf 17 = .ok (.imul, 1) := by decide +kernel
theorem dX12_fitOf_18 : decode cX12_fitOf 18 = .ok (.aload_n 0, 1) := by decide +kernel
theorem dX12_fitOf_19 : decode cX12_fitOf 19 = .ok (.getfield 104, 3) := by decide +kernel
theorem dX12_fitOf_2 : decode cX12_fitOf 2 = .ok (.bipush 30, 2) := by decide +kernel
theorem dX12_fitOf_22 : decode cX12_fitOf 22 = .ok (.aload_n 0, 1) := by decide +kernel
theorem dX12_fitOf_23 : decode cX12_fitOf 23 = .ok (.getfield 48, 3) := by decide +kernel
theorem dX12_fitOf_26 : decode cX12_fitOf 26 = .ok (.iaload, 1) := by decide +kernel
theorem dX12_fitOf_27 : decode cX12_fitOf 27 = .ok (.iadd, 1) := by decide +kernel
theorem dX12_fitOf_28 : decode cX12_fitOf 28 = .ok (.if_icmp .ge 62, 3) := by decide +kernel
theorem dX12_fitOf_4 : decode cX12_fitOf 4 = .ok (.aload_n 0, 1) := by decide +kernel
theorem dX12_fitOf_5 : decode cX12_fitOf 5 = .ok (.getfield 48, 3) := by decide +kernel
theorem dX12_fitOf_8 : decode cX12_fitOf 8 = .ok (.imul, 1) := by decide +kernel
theorem dX12_fitOf_9 : decode cX12_fitOf 9 = .ok (.istore_n 2, 1) := by decide +kernel
theorem dX12_fitOf_90 : decode cX12_fitOf 90 = .ok (.iconst 0, 1) := by decide +kernel
theorem dX12_fitOf_91 : decode cX12_fitOf 91 = .ok (.istore_n 2, 1) := by decide +kernel
theorem dX12_fitOf_92 : decode cX12_fitOf 92 = .ok (.iload_n 2, 1) := by decide +kernel
theorem dX12_fitOf_93 : decode cX12_fitOf 93 = .ok (.aload_n 0, 1) := by decide +kernel
theorem dX12_fitOf_94 : decode cX12_fitOf 94 = .ok (.getfield 77, 3) := by decide +kernel
theorem dX12_fitOf_97 : decode cX12_fitOf 97 = .ok (.aload_n 0, 1) := by decide +kernel
theorem dX12_fitOf_98 : decode cX12_fitOf 98 = .ok (.getfield 48, 3) := by decide +kernel
theorem dX12_exchanges_0 : decode cX12_exchanges 0 = .ok (.aload_n 0, 1) := by decide +kernel
theorem dX12_exchanges_1 : decode cX12_exchanges 1 = .ok (.invokevirtual 590, 3) := by decide +kernel
theorem dX12_exchanges_105 : decode cX12_exchanges 105 = .ok (.iconst 0, 1) := by decide +kernel
theorem dX12_exchanges_106 : decode cX12_exchanges 106 = .ok (.ireturn, 1) := by decide +kernel
theorem dX12_exchanges_12 : decode cX12_exchanges 12 = .ok (.aload_n 0, 1) := by decide +kernel
theorem dX12_exchanges_13 : decode cX12_exchanges 13 = .ok (.getfield 48, 3) := by decide +kernel
theorem dX12_exchanges_16 : decode cX12_exchanges 16 = .ok (.iaload, 1) := by decide +kernel
theorem dX12_exchanges_17 : decode cX12_exchanges 17 = .ok (.if_icmp .ge 88, 3) := by decide +kernel
theorem dX12_exchanges_4 : decode cX12_exchanges 4 = .ok (.istore_n 1, 1) := by decide +kernel
theorem dX12_exchanges_5 : decode cX12_exchanges 5 = .ok (.iconst 0, 1) := by decide +kernel
theorem dX12_exchanges_6 : decode cX12_exchanges 6 = .ok (.istore_n 2, 1) := by decide +kernel
theorem dX12_exchanges_7 : decode cX12_exchanges 7 = .ok (.iload_n 2, 1) := by decide +kernel
theorem dX12_exchanges_8 : decode cX12_exchanges 8 = .ok (.aload_n 0, 1) := by decide +kernel
theorem dX12_exchanges_9 : decode cX12_exchanges 9 = .ok (.getfield 77, 3) := by decide +kernel
theorem dX12_exchanged_0 : decode cX12_exchanged 0 = .ok (.iconst 0, 1) := by decide +kernel
theorem dX12_exchanged_1 : decode cX12_exchanged 1 = .ok (.istore_n 1, 1) := by decide +kernel
theorem dX12_exchanged_12 : decode cX12_exchanged 12 = .ok (.ifCond .eq 9, 3) := by decide +kernel
theorem dX12_exchanged_2 : decode cX12_exchanged 2 = .ok (.iload_n 1, 1) := by decide +kernel
theorem dX12_exchanged_21 : decode cX12_exchanged 21 = .ok (.iload_n 1, 1) := by decide +kernel
theorem dX12_exchanged_22 : decode cX12_exchanged 22 = .ok (.ireturn, 1) := by decide +kernel
theorem dX12_exchanged_3 : decode cX12_exchanged 3 = .ok (.bipush 50, 2) := by decide +kernel
theorem dX12_exchanged_5 : decode cX12_exchanged 5 = .ok (.if_icmp .ge 16, 3) := by decide +kernel
theorem dX12_exchanged_8 : decode cX12_exchanged 8 = .ok (.aload_n 0, 1) := by decide +kernel
theorem dX12_exchanged_9 : decode cX12_exchanged 9 = .ok (.invokevirtual 599, 3) := by decide +kernel
theorem dX12_seats_0 : decode cX12_seats 0 = .ok (.iconst 0, 1) := by decide +kernel
theorem dX12_seats_1 : decode cX12_seats 1 = .ok (.istore_n 2, 1) := by decide +kernel
theorem dX12_seats_12 : decode cX12_seats 12 = .ok (.iload_n 2, 1) := by decide +kernel
theorem dX12_seats_13 : decode cX12_seats 13 = .ok (.iload_n 2, 1) := by decide +kernel
theorem dX12_seats_14 : decode cX12_seats 14 = .ok (.aload_n 0, 1) := by decide +kernel
theorem dX12_seats_15 : decode cX12_seats 15 = .ok (.getfield 77, 3) := by decide +kernel
theorem dX12_seats_18 : decode cX12_seats 18 = .ok (.aload_n 0, 1) := by decide +kernel
theorem dX12_seats_19 : decode cX12_seats 19 = .ok (.getfield 48, 3) := by decide +kernel
theorem dX12_seats_2 : decode cX12_seats 2 = .ok (.iload_n 2, 1) := by decide +kernel
theorem dX12_seats_213 : decode cX12_seats 213 = .ok (.return_, 1) := by decide +kernel
theorem dX12_seats_22 : decode cX12_seats 22 = .ok (.iaload, 1) := by decide +kernel
theorem dX12_seats_23 : decode cX12_seats 23 = .ok (.if_icmp .ge 20, 3) := by decide +kernel
theorem dX12_seats_3 : decode cX12_seats 3 = .ok (.bipush 12, 2) := by decide +kernel
theorem dX12_seats_43 : decode cX12_seats 43 = .ok (.iconst (-1), 1) := by decide +kernel
theorem dX12_seats_44 : decode cX12_seats 44 = .ok (.iastore, 1) := by decide +kernel
theorem dX12_seats_45 : decode cX12_seats 45 = .ok (.iinc 2 1, 3) := by decide +kernel
theorem dX12_seats_48 : decode cX12_seats 48 = .ok (.goto (-46), 3) := by decide +kernel
theorem dX12_seats_5 : decode cX12_seats 5 = .ok (.if_icmp .ge 46, 3) := by decide +kernel
theorem dX12_seats_51 : decode cX12_seats 51 = .ok (.iconst 0, 1) := by decide +kernel
theorem dX12_seats_52 : decode cX12_seats 52 = .ok (.istore_n 2, 1) := by decide +kernel
theorem dX12_seats_53 : decode cX12_seats 53 = .ok (.iload_n 2, 1) := by decide +kernel
theorem dX12_seats_54 : decode cX12_seats 54 = .ok (.aload_n 0, 1) := by decide +kernel
theorem dX12_seats_55 : decode cX12_seats 55 = .ok (.getfield 77, 3) := by decide +kernel
theorem dX12_seats_58 : decode cX12_seats 58 = .ok (.aload_n 0, 1) := by decide +kernel
theorem dX12_seats_59 : decode cX12_seats 59 = .ok (.getfield 48, 3) := by decide +kernel
theorem dX12_seats_62 : decode cX12_seats 62 = .ok (.iaload, 1) := by decide +kernel
theorem dX12_seats_63 : decode cX12_seats 63 = .ok (.if_icmp .ge 150, 3) := by decide +kernel
theorem dX12_seats_8 : decode cX12_seats 8 = .ok (.aload_n 0, 1) := by decide +kernel
theorem dX12_seats_9 : decode cX12_seats 9 = .ok (.getfield 216, 3) := by decide +kernel
theorem dX12_neverIn_0 : decode cX12_neverIn 0 = .ok (.iconst 0, 1) := by decide +kernel
theorem dX12_neverIn_1 : decode cX12_neverIn 1 = .ok (.istore_n 2, 1) := by decide +kernel
theorem dX12_neverIn_10 : decode cX12_neverIn 10 = .ok (.iload_n 3, 1) := by decide +kernel
theorem dX12_neverIn_108 : decode cX12_neverIn 108 = .ok (.iload_n 2, 1) := by decide +kernel
theorem dX12_neverIn_109 : decode cX12_neverIn 109 = .ok (.ireturn, 1) := by decide +kernel
theorem dX12_neverIn_11 : decode cX12_neverIn 11 = .ok (.bipush 30, 2) := by decide +kernel
theorem dX12_neverIn_13 : decode cX12_neverIn 13 = .ok (.aload_n 0, 1) := by decide +kernel
theorem dX12_neverIn_14 : decode cX12_neverIn 14 = .ok (.getfield 48, 3) := by decide +kernel
theorem dX12_neverIn_17 : decode cX12_neverIn 17 = .ok (.imul, 1) := by decide +kernel
theorem dX12_neverIn_18 : decode cX12_neverIn 18 = .ok (.aload_n 0, 1) := by decide +kernel
theorem dX12_neverIn_19 : decode cX12_neverIn 19 = .ok (.getfield 104, 3) := by decide +kernel
theorem dX12_neverIn_2 : decode cX12_neverIn 2 = .ok (.bipush 30, 2) := by decide +kernel
theorem dX12_neverIn_22 : decode cX12_neverIn 22 = .ok (.aload_n 0, 1) := by decide +kernel
theorem dX12_neverIn_23 : decode cX12_neverIn 23 = .ok (.getfield 48, 3) := by decide +kernel
theorem dX12_neverIn_26 : decode cX12_neverIn 26 = .ok (.iaload, 1) := by decide +kernel
theorem dX12_neverIn_27 : decode cX12_neverIn 27 = .ok (.iadd, 1) := by decide +kernel
theorem dX12_neverIn_28 : decode cX12_neverIn 28 = .ok (.if_icmp .ge 80, 3) := by decide +kernel
theorem dX12_neverIn_4 : decode cX12_neverIn 4 = .ok (.aload_n 0, 1) := by decide +kernel
theorem dX12_neverIn_5 : decode cX12_neverIn 5 = .ok (.getfield 48, 3) := by decide +kernel
theorem dX12_neverIn_8 : decode cX12_neverIn 8 = .ok (.imul, 1) := by decide +kernel
theorem dX12_neverIn_9 : decode cX12_neverIn 9 = .ok (.istore_n 3, 1) := by decide +kernel
theorem dX12_ahead_0 : decode cX12_ahead 0 = .ok (.aload_n 0, 1) := by decide +kernel
theorem dX12_ahead_1 : decode cX12_ahead 1 = .ok (.getfield 26, 3) := by decide +kernel
theorem dX12_ahead_10 : decode cX12_ahead 10 = .ok (.if_icmp .ge 31, 3) := by decide +kernel
theorem dX12_ahead_4 : decode cX12_ahead 4 = .ok (.istore_n 1, 1) := by decide +kernel
theorem dX12_ahead_41 : decode cX12_ahead 41 = .ok (.aload_n 0, 1) := by decide +kernel
theorem dX12_ahead_42 : decode cX12_ahead 42 = .ok (.iload_n 1, 1) := by decide +kernel
theorem dX12_ahead_43 : decode cX12_ahead 43 = .ok (.putfield 23, 3) := by decide +kernel
theorem dX12_ahead_46 : decode cX12_ahead 46 = .ok (.aload_n 0, 1) := by decide +kernel
theorem dX12_ahead_47 : decode cX12_ahead 47 = .ok (.iload_n 1, 1) := by decide +kernel
theorem dX12_ahead_48 : decode cX12_ahead 48 = .ok (.putfield 26, 3) := by decide +kernel
theorem dX12_ahead_5 : decode cX12_ahead 5 = .ok (.iload_n 1, 1) := by decide +kernel
theorem dX12_ahead_51 : decode cX12_ahead 51 = .ok (.aload_n 0, 1) := by decide +kernel
theorem dX12_ahead_52 : decode cX12_ahead 52 = .ok (.iconst 0, 1) := by decide +kernel
theorem dX12_ahead_53 : decode cX12_ahead 53 = .ok (.putfield 20, 3) := by decide +kernel
theorem dX12_ahead_56 : decode cX12_ahead 56 = .ok (.iload_n 1, 1) := by decide +kernel
theorem dX12_ahead_57 : decode cX12_ahead 57 = .ok (.aload_n 0, 1) := by decide +kernel
theorem dX12_ahead_58 : decode cX12_ahead 58 = .ok (.getfield 17, 3) := by decide +kernel
theorem dX12_ahead_6 : decode cX12_ahead 6 = .ok (.aload_n 0, 1) := by decide +kernel
theorem dX12_ahead_61 : decode cX12_ahead 61 = .ok (.if_icmp .lt 4, 3) := by decide +kernel
theorem dX12_ahead_64 : decode cX12_ahead 64 = .ok (.return_, 1) := by decide +kernel
theorem dX12_ahead_7 : decode cX12_ahead 7 = .ok (.getfield 17, 3) := by decide +kernel
theorem dX12_writes_0 : decode cX12_writes 0 = .ok (.aload_n 0, 1) := by decide +kernel
theorem dX12_writes_1 : decode cX12_writes 1 = .ok (.getfield 219, 3) := by decide +kernel
theorem dX12_writes_12 : decode cX12_writes 12 = .ok (.iand, 1) := by decide +kernel
theorem dX12_writes_13 : decode cX12_writes 13 = .ok (.iastore, 1) := by decide +kernel
theorem dX12_writes_14 : decode cX12_writes 14 = .ok (.aload_n 0, 1) := by decide +kernel
theorem dX12_writes_15 : decode cX12_writes 15 = .ok (.dup, 1) := by decide +kernel
theorem dX12_writes_16 : decode cX12_writes 16 = .ok (.getfield 222, 3) := by decide +kernel
theorem dX12_writes_19 : decode cX12_writes 19 = .ok (.iconst 1, 1) := by decide +kernel
theorem dX12_writes_20 : decode cX12_writes 20 = .ok (.iadd, 1) := by decide +kernel
theorem dX12_writes_21 : decode cX12_writes 21 = .ok (.putfield 222, 3) := by decide +kernel
theorem dX12_writes_24 : decode cX12_writes 24 = .ok (.return_, 1) := by decide +kernel
theorem dX12_writes_4 : decode cX12_writes 4 = .ok (.aload_n 0, 1) := by decide +kernel
theorem dX12_writes_5 : decode cX12_writes 5 = .ok (.getfield 222, 3) := by decide +kernel
theorem dX12_writes_8 : decode cX12_writes 8 = .ok (.iload_n 1, 1) := by decide +kernel
theorem dX12_writes_9 : decode cX12_writes 9 = .ok (.sipush 255, 3) := by decide +kernel
