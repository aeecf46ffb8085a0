set_option maxRecDepth 100000 in
theorem inX7 : ∀ w ∈ u_ws RX7 TX7 8, w ∈ tb := fun w h => List.mem_filter.mpr ⟨(by decide +kernel : ∀ w ∈ u_ws RX7 TX7 8, w ∈ lw_tbl) w h, (by decide +kernel : ∀ w ∈ u_ws RX7 TX7 8, goodWord w = true) w h⟩
theorem clX7 : ClF 7 RX7 TX7 8 tyX7 := ⟨rfl, inX7, tyX7_ok, nmX7⟩
set_option maxRecDepth 100000 in
theorem inX9 : ∀ w ∈ u_ws RX9 TX9 5, w ∈ tb := fun w h => List.mem_filter.mpr ⟨(by decide +kernel : ∀ w ∈ u_ws RX9 TX9 5, w ∈ lw_tbl) w h, (by decide +kernel : ∀ w ∈ u_ws RX9 TX9 5, goodWord w = true) w h⟩
theorem clX9 : ClF 9 RX9 TX9 5 tyX9 := ⟨rfl, inX9, tyX9_ok, nmX9⟩
theorem flX11_70 : Cond.fieldLink RX11 70 (TX11 8).1 (TX11 8).2.1 (TX11 8).2.2.1 ∈ tb := tb_at 669 (by decide +kernel)
theorem flX11_73 : Cond.fieldLink RX11 73 (TX11 9).1 (TX11 9).2.1 (TX11 9).2.2.1 ∈ tb := tb_at 670 (by decide +kernel)
theorem flX11_129 : Cond.fieldLink RX11 129 (TX2 0).1 (TX2 0).2.1 (TX2 0).2.2.1 ∈ tb := tb_at 354 (by decide +kernel)
theorem flX11_133 : Cond.fieldLink RX11 133 (TX1 0).1 (TX1 0).2.1 (TX1 0).2.2.1 ∈ tb := tb_at 193 (by decide +kernel)
theorem flX11_136 : Cond.fieldLink RX11 136 (TX2 3).1 (TX2 3).2.1 (TX2 3).2.2.1 ∈ tb := tb_at 368 (by decide +kernel)
theorem flX11_146 : Cond.fieldLink RX11 146 (TX2 7).1 (TX2 7).2.1 (TX2 7).2.2.1 ∈ tb := tb_at 381 (by decide +kernel)
theorem flX11_149 : Cond.fieldLink RX11 149 (TX1 1).1 (TX1 1).2.1 (TX1 1).2.2.1 ∈ tb := tb_at 196 (by decide +kernel)
theorem flX11_152 : Cond.fieldLink RX11 152 (TX1 2).1 (TX1 2).2.1 (TX1 2).2.2.1 ∈ tb := tb_at 200 (by decide +kernel)
theorem flX11_155 : Cond.fieldLink RX11 155 (TX2 2).1 (TX2 2).2.1 (TX2 2).2.2.1 ∈ tb := tb_at 364 (by decide +kernel)
theorem flX11_159 : Cond.fieldLink RX11 159 (TX7 0).1 (TX7 0).2.1 (TX7 0).2.2.1 ∈ tb := tb_at 324 (by decide +kernel)
theorem flX11_162 : Cond.fieldLink RX11 162 (TX2 13).1 (TX2 13).2.1 (TX2 13).2.2.1 ∈ tb := tb_at 402 (by decide +kernel)
theorem mlX11_165 : Cond.methodLink RX11 165 yX2_meetingTeams ∈ tb := tb_at 1039 (by decide +kernel)
theorem kmV_X2_meetingTeams : KmV yX2_meetingTeams cX2_meetingTeams 3 (some .int) 0 := ⟨tb_at (w := Cond.code yX2_meetingTeams cX2_meetingTeams 3 (some .int)) 1042 (by decide +kernel), tb_at (w := Cond.initialized RX2) 149 (by decide +kernel), tb_at (w := Cond.instanceMethod yX2_meetingTeams) 1040 (by decide +kernel), tb_at (w := Cond.selects yX2_meetingTeams.cls yX2_meetingTeams yX2_meetingTeams) 1041 (by decide +kernel), ⟨by decide +kernel, by decide +kernel, by decide +kernel⟩⟩
theorem mlX11_89 : Cond.methodLink RX11 89 yX11_refuse ∈ tb := tb_at 708 (by decide +kernel)
theorem kmV_X11_refuse : KmV yX11_refuse cX11_refuse 2 (some .int) 1 := ⟨tb_at (w := Cond.code yX11_refuse cX11_refuse 2 (some .int)) 711 (by decide +kernel), tb_at (w := Cond.initialized RX11) 148 (by decide +kernel), tb_at (w := Cond.instanceMethod yX11_refuse) 710 (by decide +kernel), tb_at (w := Cond.selects yX11_refuse.cls yX11_refuse yX11_refuse) 1 (by decide +kernel), ⟨by decide +kernel, by decide +kernel, by decide +kernel⟩⟩
theorem flX11_13 : Cond.fieldLink RX11 13 (TX11 1).1 (TX11 1).2.1 (TX11 1).2.2.1 ∈ tb := tb_at 662 (by decide +kernel)
theorem mlX11_224 : Cond.methodLink RX11 224 yX11_areSets ∈ tb := tb_at 1070 (by decide +kernel)
theorem kmV_X11_areSets : KmV yX11_areSets cX11_areSets 5 (some .boolean) 1 := ⟨tb_at (w := Cond.code yX11_areSets cX11_areSets 5 (some .boolean)) 1073 (by decide +kernel), tb_at (w := Cond.initialized RX11) 148 (by decide +kernel), tb_at (w := Cond.instanceMethod yX11_areSets) 1072 (by decide +kernel), tb_at (w := Cond.selects yX11_areSets.cls yX11_areSets yX11_areSets) 38 (by decide +kernel), ⟨by decide +kernel, by decide +kernel, by decide +kernel⟩⟩
theorem mlX11_227 : Cond.methodLink RX11 227 yX11_takeSets ∈ tb := tb_at 1074 (by decide +kernel)
theorem kmV_X11_takeSets : KmV yX11_takeSets cX11_takeSets 4 none 1 := ⟨tb_at (w := Cond.code yX11_takeSets cX11_takeSets 4 none) 1077 (by decide +kernel), tb_at (w := Cond.initialized RX11) 148 (by decide +kernel), tb_at (w := Cond.instanceMethod yX11_takeSets) 1076 (by decide +kernel), tb_at (w := Cond.selects yX11_takeSets.cls yX11_takeSets yX11_takeSets) 39 (by decide +kernel), ⟨by decide +kernel, by decide +kernel, by decide +kernel⟩⟩
theorem mlX11_230 : Cond.methodLink RX11 230 yX11_isDay ∈ tb := tb_at 1082 (by decide +kernel)
theorem kmS_X11_isDay : KmS yX11_isDay cX11_isDay 1 (some .boolean) 1 := ⟨tb_at (w := Cond.code yX11_isDay cX11_isDay 1 (some .boolean)) 889 (by decide +kernel), tb_at (w := Cond.initialized RX11) 148 (by decide +kernel), tb_at (w := Cond.static yX11_isDay) 888 (by decide +kernel), ⟨by decide +kernel, by decide +kernel, by decide +kernel⟩⟩
theorem mlX11_233 : Cond.methodLink RX11 233 yX4_inCount ∈ tb := tb_at 1083 (by decide +kernel)
theorem mlX11_236 : Cond.methodLink RX11 236 yX4_standing ∈ tb := tb_at 1087 (by decide +kernel)
theorem flX11_239 : Cond.fieldLink RX11 239 (TX2 11).1 (TX2 11).2.1 (TX2 11).2.2.1 ∈ tb := tb_at 396 (by decide +kernel)
theorem mlX11_245 : Cond.methodLink RX11 245 yX4_examine ∈ tb := tb_at 1109 (by decide +kernel)
theorem flX11_248 : Cond.fieldLink RX11 248 (TX4 2).1 (TX4 2).2.1 (TX4 2).2.2.1 ∈ tb := tb_at 588 (by decide +kernel)
theorem flX11_251 : Cond.fieldLink RX11 251 (TX4 3).1 (TX4 3).2.1 (TX4 3).2.2.1 ∈ tb := tb_at 590 (by decide +kernel)
theorem flX11_254 : Cond.fieldLink RX11 254 (TX4 4).1 (TX4 4).2.1 (TX4 4).2.2.1 ∈ tb := tb_at 592 (by decide +kernel)
theorem mlX11_257 : Cond.methodLink RX11 257 yX4_total ∈ tb := tb_at 1138 (by decide +kernel)
theorem kmV_X4_total : KmV yX4_total cX4_total 5 (some .int) 0 := ⟨tb_at (w := Cond.code yX4_total cX4_total 5 (some .int)) 1141 (by decide +kernel), tb_at (w := Cond.initialized RX4) 160 (by decide +kernel), tb_at (w := Cond.instanceMethod yX4_total) 1139 (by decide +kernel), tb_at (w := Cond.selects yX4_total.cls yX4_total yX4_total) 1140 (by decide +kernel), ⟨by decide +kernel, by decide +kernel, by decide +kernel⟩⟩
theorem flX11_52 : Cond.fieldLink RX11 52 (TX11 5).1 (TX11 5).2.1 (TX11 5).2.2.1 ∈ tb := tb_at 666 (by decide +kernel)
theorem flX11_266 : Cond.fieldLink RX11 266 (TX9 1).1 (TX9 1).2.1 (TX9 1).2.2.1 ∈ tb := tb_at 615 (by decide +kernel)
theorem mlX11_278 : Cond.methodLink RX11 278 yX11_areTwo ∈ tb := tb_at 1245 (by decide +kernel)
theorem kmV_X11_areTwo : KmV yX11_areTwo cX11_areTwo 3 (some .boolean) 2 := ⟨tb_at (w := Cond.code yX11_areTwo cX11_areTwo 3 (some .boolean)) 1248 (by decide +kernel), tb_at (w := Cond.initialized RX11) 148 (by decide +kernel), tb_at (w := Cond.instanceMethod yX11_areTwo) 1247 (by decide +kernel), tb_at (w := Cond.selects yX11_areTwo.cls yX11_areTwo yX11_areTwo) 49 (by decide +kernel), ⟨by decide +kernel, by decide +kernel, by decide +kernel⟩⟩
theorem cnX11_281 : Cond.constant RX11 281 (-1000000000) ∈ tb := tb_at 1249 (by decide +kernel)
theorem mlX11_288 : Cond.methodLink RX11 288 yX4_greatestUnmet ∈ tb := tb_at 1270 (by decide +kernel)
theorem kmV_X4_greatestUnmet : KmV yX4_greatestUnmet cX4_greatestUnmet 3 (some .int) 0 := ⟨tb_at (w := Cond.code yX4_greatestUnmet cX4_greatestUnmet 3 (some .int)) 1273 (by decide +kernel), tb_at (w := Cond.initialized RX4) 160 (by decide +kernel), tb_at (w := Cond.instanceMethod yX4_greatestUnmet) 1271 (by decide +kernel), tb_at (w := Cond.selects yX4_greatestUnmet.cls yX4_greatestUnmet yX4_greatestUnmet) 1272 (by decide +kernel), ⟨by decide +kernel, by decide +kernel, by decide +kernel⟩⟩
theorem mlX11_291 : Cond.methodLink RX11 291 yX4_unmetTies ∈ tb := tb_at 1274 (by decide +kernel)
theorem kmV_X4_unmetTies : KmV yX4_unmetTies cX4_unmetTies 3 (some .int) 0 := ⟨tb_at (w := Cond.code yX4_unmetTies cX4_unmetTies 3 (some .int)) 1277 (by decide +kernel), tb_at (w := Cond.initialized RX4) 160 (by decide +kernel), tb_at (w := Cond.instanceMethod yX4_unmetTies) 1275 (by decide +kernel), tb_at (w := Cond.selects yX4_unmetTies.cls yX4_unmetTies yX4_unmetTies) 1276 (by decide +kernel), ⟨by decide +kernel, by decide +kernel, by decide +kernel⟩⟩
theorem mlX11_294 : Cond.methodLink RX11 294 yX4_lonelyPersons ∈ tb := tb_at 1278 (by decide +kernel)
theorem kmV_X4_lonelyPersons : KmV yX4_lonelyPersons cX4_lonelyPersons 3 (some .int) 0 := ⟨tb_at (w := Cond.code yX4_lonelyPersons cX4_lonelyPersons 3 (some .int)) 1281 (by decide +kernel), tb_at (w := Cond.initialized RX4) 160 (by decide +kernel), tb_at (w := Cond.instanceMethod yX4_lonelyPersons) 1279 (by decide +kernel), tb_at (w := Cond.selects yX4_lonelyPersons.cls yX4_lonelyPersons yX4_lonelyPersons) 1280 (by decide +kernel), ⟨by decide +kernel, by decide +kernel, by decide +kernel⟩⟩
theorem mlX11_297 : Cond.methodLink RX11 297 yX2_tieBound ∈ tb := tb_at 1290 (by decide +kernel)
theorem kmV_X2_tieBound : KmV yX2_tieBound cX2_tieBound 7 (some .int) 0 := ⟨tb_at (w := Cond.code yX2_tieBound cX2_tieBound 7 (some .int)) 1293 (by decide +kernel), tb_at (w := Cond.initialized RX2) 149 (by decide +kernel), tb_at (w := Cond.instanceMethod yX2_tieBound) 1291 (by decide +kernel), tb_at (w := Cond.selects yX2_tieBound.cls yX2_tieBound yX2_tieBound) 1292 (by decide +kernel), ⟨by decide +kernel, by decide +kernel, by decide +kernel⟩⟩
theorem mlX11_300 : Cond.methodLink RX11 300 yX4_tieWorth ∈ tb := tb_at 1296 (by decide +kernel)
theorem flX11_59 : Cond.fieldLink RX11 59 (TX11 6).1 (TX11 6).2.1 (TX11 6).2.2.1 ∈ tb := tb_at 667 (by decide +kernel)
theorem mlX11_361 : Cond.methodLink RX11 361 yX8_dearestToShut ∈ tb := tb_at 1441 (by decide +kernel)
theorem kmV_X8_dearestToShut : KmV yX8_dearestToShut cX8_dearestToShut 8 (some .int) 1 := ⟨tb_at (w := Cond.code yX8_dearestToShut cX8_dearestToShut 8 (some .int)) 1444 (by decide +kernel), tb_at (w := Cond.initialized RX8) 163 (by decide +kernel), tb_at (w := Cond.instanceMethod yX8_dearestToShut) 1442 (by decide +kernel), tb_at (w := Cond.selects yX8_dearestToShut.cls yX8_dearestToShut yX8_dearestToShut) 1443 (by decide +kernel), ⟨by decide +kernel, by decide +kernel, by decide +kernel⟩⟩
theorem flX11_83 : Cond.fieldLink RX11 83 (TX11 12).1 (TX11 12).2.1 (TX11 12).2.2.1 ∈ tb := tb_at 673 (by decide +kernel)
theorem flX11_76 : Cond.fieldLink RX11 76 (TX11 10).1 (TX11 10).2.1 (TX11 10).2.2.1 ∈ tb := tb_at 671 (by decide +kernel)
theorem mlX11_364 : Cond.methodLink RX11 364 yX4_unmetWithin ∈ tb := tb_at 1454 (by decide +kernel)
theorem kmV_X4_unmetWithin : KmV yX4_unmetWithin cX4_unmetWithin 6 (some .int) 1 := ⟨tb_at (w := Cond.code yX4_unmetWithin cX4_unmetWithin 6 (some .int)) 1457 (by decide +kernel), tb_at (w := Cond.initialized RX4) 160 (by decide +kernel), tb_at (w := Cond.instanceMethod yX4_unmetWithin) 1455 (by decide +kernel), tb_at (w := Cond.selects yX4_unmetWithin.cls yX4_unmetWithin yX4_unmetWithin) 1456 (by decide +kernel), ⟨by decide +kernel, by decide +kernel, by decide +kernel⟩⟩
theorem mlX11_350 : Cond.methodLink RX11 350 yX8_settle ∈ tb := tb_at 1399 (by decide +kernel)
theorem kmV_X8_settle : KmV yX8_settle cX8_settle 4 none 1 := ⟨tb_at (w := Cond.code yX8_settle cX8_settle 4 none) 1402 (by decide +kernel), tb_at (w := Cond.initialized RX8) 163 (by decide +kernel), tb_at (w := Cond.instanceMethod yX8_settle) 1400 (by decide +kernel), tb_at (w := Cond.selects yX8_settle.cls yX8_settle yX8_settle) 1401 (by decide +kernel), ⟨by decide +kernel, by decide +kernel, by decide +kernel⟩⟩
theorem mlX11_353 : Cond.methodLink RX11 353 yX8_exchangeAll ∈ tb := tb_at 1412 (by decide +kernel)
theorem kmV_X8_exchangeAll : KmV yX8_exchangeAll cX8_exchangeAll 2 (some .int) 0 := ⟨tb_at (w := Cond.code yX8_exchangeAll cX8_exchangeAll 2 (some .int)) 1415 (by decide +kernel), tb_at (w := Cond.initialized RX8) 163 (by decide +kernel), tb_at (w := Cond.instanceMethod yX8_exchangeAll) 1413 (by decide +kernel), tb_at (w := Cond.selects yX8_exchangeAll.cls yX8_exchangeAll yX8_exchangeAll) 1414 (by decide +kernel), ⟨by decide +kernel, by decide +kernel, by decide +kernel⟩⟩
theorem mlX11_358 : Cond.methodLink RX11 358 yX8_fitNow ∈ tb := tb_at 1436 (by decide +kernel)
theorem dX11_fault_0 : decode cX11_fault 0 = .ok (.iload_n 1, 1) := by decide +kernel
theorem dX11_fault_1 : decode cX11_fault 1 = .ok (.lookupswitch 37 #[(0, 27), (1, 32)], 27) := by decide +kernel
theorem dX11_fault_28 : decode cX11_fault 28 = .ok (.aload_n 0, 1) := by decide +kernel
theorem dX11_fault_29 : decode cX11_fault 29 = .ok (.getfield 70, 3) := by decide +kernel
theorem dX11_fault_32 : decode cX11_fault 32 = .ok (.ireturn, 1) := by decide +kernel
theorem dX11_fault_33 : decode cX11_fault 33 = .ok (.aload_n 0, 1) := by decide +kernel
theorem dX11_fault_34 : decode cX11_fault 34 = .ok (.getfield 73, 3) := by decide +kernel
theorem dX11_fault_37 : decode cX11_fault 37 = .ok (.ireturn, 1) := by decide +kernel
theorem dX11_fault_38 : decode cX11_fault 38 = .ok (.iconst (-1), 1) := by decide +kernel
theorem dX11_fault_39 : decode cX11_fault 39 = .ok (.ireturn, 1) := by decide +kernel
theorem dX11_has_0 : decode cX11_has 0 = .ok (.aload_n 0, 1) := by decide +kernel
theorem dX11_has_1 : decode cX11_has 1 = .ok (.getfield 43, 3) := by decide +kernel
theorem dX11_has_101 : decode cX11_has 101 = .ok (.ireturn, 1) := by decide +kernel
theorem dX11_has_102 : decode cX11_has 102 = .ok (.aload_n 2, 1) := by decide +kernel
theorem dX11_has_103 : decode cX11_has 103 = .ok (.getfield 155, 3) := by decide +kernel
theorem dX11_has_106 : decode cX11_has 106 = .ok (.getfield 159, 3) := by decide +kernel
theorem dX11_has_109 : decode cX11_has 109 = .ok (.ireturn, 1) := by decide +kernel
theorem dX11_has_110 : decode cX11_has 110 = .ok (.aload_n 2, 1) := by decide +kernel
theorem dX11_has_111 : decode cX11_has 111 = .ok (.getfield 162, 3) := by decide +kernel
theorem dX11_has_114 : decode cX11_has 114 = .ok (.ireturn, 1) := by decide +kernel
theorem dX11_has_115 : decode cX11_has 115 = .ok (.aload_n 2, 1) := by decide +kernel
theorem dX11_has_116 : decode cX11_has 116 = .ok (.invokevirtual 165, 3) := by decide +kernel
theorem dX11_has_119 : decode cX11_has 119 = .ok (.ireturn, 1) := by decide +kernel
theorem dX11_has_120 : decode cX11_has 120 = .ok (.iconst (-1), 1) := by decide +kernel
theorem dX11_has_121 : decode cX11_has 121 = .ok (.ireturn, 1) := by decide +kernel
theorem dX11_has_4 : decode cX11_has 4 = .ok (.getfield 121, 3) := by decide +kernel
theorem dX11_has_60 : decode cX11_has 60 = .ok (.aload_n 2, 1) := by decide +kernel
theorem dX11_has_61 : decode cX11_has 61 = .ok (.getfield 129, 3) := by decide +kernel
theorem dX11_has_64 : decode cX11_has 64 = .ok (.getfield 133, 3) := by decide +kernel
theorem dX11_has_67 : decode cX11_has 67 = .ok (.ireturn, 1) := by decide +kernel
theorem dX11_has_68 : decode cX11_has 68 = .ok (.aload_n 2, 1) := by decide +kernel
theorem dX11_has_69 : decode cX11_has 69 = .ok (.getfield 136, 3) := by decide +kernel
theorem dX11_has_7 : decode cX11_has 7 = .ok (.astore_n 2, 1) := by decide +kernel
theorem dX11_has_72 : decode cX11_has 72 = .ok (.ireturn, 1) := by decide +kernel
theorem dX11_has_73 : decode cX11_has 73 = .ok (.aload_n 2, 1) := by decide +kernel
theorem dX11_has_74 : decode cX11_has 74 = .ok (.getfield 139, 3) := by decide +kernel
theorem dX11_has_77 : decode cX11_has 77 = .ok (.getfield 143, 3) := by decide +kernel
theorem dX11_has_8 : decode cX11_has 8 = .ok (.iload_n 1, 1) := by decide +kernel
theorem dX11_has_80 : decode cX11_has 80 = .ok (.ireturn, 1) := by decide +kernel
theorem dX11_has_81 : decode cX11_has 81 = .ok (.aload_n 2, 1) := by decide +kernel
theorem dX11_has_82 : decode cX11_has 82 = .ok (.getfield 146, 3) := by decide +kernel
theorem dX11_has_85 : decode cX11_has 85 = .ok (.ireturn, 1) := by decide +kernel
theorem dX11_has_86 : decode cX11_has 86 = .ok (.aload_n 2, 1) := by decide +kernel
theorem dX11_has_87 : decode cX11_has 87 = .ok (.getfield 129, 3) := by decide +kernel
theorem dX11_has_9 : decode cX11_has 9 = .ok (.tableswitch 111 0 8 #[51, 59, 64, 72, 77, 85, 93, 101, 106], 51) := by decide +kernel
theorem dX11_has_90 : decode cX11_has 90 = .ok (.getfield 149, 3) := by decide +kernel
theorem dX11_has_93 : decode cX11_has 93 = .ok (.ireturn, 1) := by decide +kernel
theorem dX11_has_94 : decode cX11_has 94 = .ok (.aload_n 2, 1) := by decide +kernel
theorem dX11_has_95 : decode cX11_has 95 = .ok (.getfield 129, 3) := by decide +kernel
theorem dX11_has_98 : decode cX11_has 98 = .ok (.getfield 152, 3) := by decide +kernel
theorem dX11_letter_0 : decode cX11_letter 0 = .ok (.aload_n 0, 1) := by decide +kernel
theorem dX11_letter_1 : decode cX11_letter 1 = .ok (.getfield 43, 3) := by decide +kernel
theorem dX11_letter_10 : decode cX11_letter 10 = .ok (.tableswitch 122 0 2 #[26, 60, 88], 26) := by decide +kernel
theorem dX11_letter_101 : decode cX11_letter 101 = .ok (.getfield 139, 3) := by decide +kernel
theorem dX11_letter_104 : decode cX11_letter 104 = .ok (.getfield 143, 3) := by decide +kernel
theorem dX11_letter_107 : decode cX11_letter 107 = .ok (.invokestatic 169, 3) := by decide +kernel
theorem dX11_letter_110 : decode cX11_letter 110 = .ok (.ifCond .eq 20, 3) := by decide +kernel
theorem dX11_letter_130 : decode cX11_letter 130 = .ok (.iconst (-1), 1) := by decide +kernel
theorem dX11_letter_131 : decode cX11_letter 131 = .ok (.ireturn, 1) := by decide +kernel
theorem dX11_letter_132 : decode cX11_letter 132 = .ok (.iconst (-1), 1) := by decide +kernel
theorem dX11_letter_133 : decode cX11_letter 133 = .ok (.ireturn, 1) := by decide +kernel
theorem dX11_letter_36 : decode cX11_letter 36 = .ok (.iload_n 2, 1) := by decide +kernel
theorem dX11_letter_37 : decode cX11_letter 37 = .ok (.aload 4, 2) := by decide +kernel
theorem dX11_letter_39 : decode cX11_letter 39 = .ok (.getfield 129, 3) := by decide +kernel
theorem dX11_letter_4 : decode cX11_letter 4 = .ok (.getfield 121, 3) := by decide +kernel
theorem dX11_letter_42 : decode cX11_letter 42 = .ok (.getfield 133, 3) := by decide +kernel
theorem dX11_letter_45 : decode cX11_letter 45 = .ok (.invokestatic 169, 3) := by decide +kernel
theorem dX11_letter_48 : decode cX11_letter 48 = .ok (.ifCond .eq 20, 3) := by decide +kernel
theorem dX11_letter_68 : decode cX11_letter 68 = .ok (.iconst (-1), 1) := by decide +kernel
theorem dX11_letter_69 : decode cX11_letter 69 = .ok (.ireturn, 1) := by decide +kernel
theorem dX11_letter_7 : decode cX11_letter 7 = .ok (.astore 4, 2) := by decide +kernel
theorem dX11_letter_70 : decode cX11_letter 70 = .ok (.iload_n 2, 1) := by decide +kernel
theorem dX11_letter_71 : decode cX11_letter 71 = .ok (.aload 4, 2) := by decide +kernel
theorem dX11_letter_73 : decode cX11_letter 73 = .ok (.getfield 136, 3) := by decide +kernel
theorem dX11_letter_76 : decode cX11_letter 76 = .ok (.invokestatic 169, 3) := by decide +kernel
theorem dX11_letter_79 : decode cX11_letter 79 = .ok (.ifCond .eq 17, 3) := by decide +kernel
theorem dX11_letter_9 : decode cX11_letter 9 = .ok (.iload_n 1, 1) := by decide +kernel
theorem dX11_letter_96 : decode cX11_letter 96 = .ok (.iconst (-1), 1) := by decide +kernel
theorem dX11_letter_97 : decode cX11_letter 97 = .ok (.ireturn, 1) := by decide +kernel
theorem dX11_letter_98 : decode cX11_letter 98 = .ok (.iload_n 2, 1) := by decide +kernel
theorem dX11_letter_99 : decode cX11_letter 99 = .ok (.aload 4, 2) := by decide +kernel
theorem dX11_person_0 : decode cX11_person 0 = .ok (.aload_n 0, 1) := by decide +kernel
theorem dX11_person_1 : decode cX11_person 1 = .ok (.getfield 43, 3) := by decide +kernel
theorem dX11_person_10 : decode cX11_person 10 = .ok (.astore_n 3, 1) := by decide +kernel
theorem dX11_person_11 : decode cX11_person 11 = .ok (.aload_n 0, 1) := by decide +kernel
theorem dX11_person_12 : decode cX11_person 12 = .ok (.iload_n 1, 1) := by decide +kernel
theorem dX11_person_13 : decode cX11_person 13 = .ok (.invokevirtual 184, 3) := by decide +kernel
theorem dX11_person_16 : decode cX11_person 16 = .ok (.ifCond .ne 5, 3) := by decide +kernel
theorem dX11_person_19 : decode cX11_person 19 = .ok (.iconst (-1), 1) := by decide +kernel
theorem dX11_person_20 : decode cX11_person 20 = .ok (.ireturn, 1) := by decide +kernel
theorem dX11_person_4 : decode cX11_person 4 = .ok (.getfield 121, 3) := by decide +kernel
theorem dX11_person_7 : decode cX11_person 7 = .ok (.getfield 139, 3) := by decide +kernel
theorem dX11_floor_0 : decode cX11_floor 0 = .ok (.aload_n 0, 1) := by decide +kernel
theorem dX11_floor_1 : decode cX11_floor 1 = .ok (.getfield 43, 3) := by decide +kernel
theorem dX11_floor_10 : decode cX11_floor 10 = .ok (.astore_n 3, 1) := by decide +kernel
theorem dX11_floor_11 : decode cX11_floor 11 = .ok (.iload_n 1, 1) := by decide +kernel
theorem dX11_floor_12 : decode cX11_floor 12 = .ok (.aload_n 3, 1) := by decide +kernel
theorem dX11_floor_13 : decode cX11_floor 13 = .ok (.getfield 133, 3) := by decide +kernel
theorem dX11_floor_16 : decode cX11_floor 16 = .ok (.invokestatic 169, 3) := by decide +kernel
theorem dX11_floor_19 : decode cX11_floor 19 = .ok (.ifCond .ne 5, 3) := by decide +kernel
theorem dX11_floor_22 : decode cX11_floor 22 = .ok (.iconst (-1), 1) := by decide +kernel
theorem dX11_floor_23 : decode cX11_floor 23 = .ok (.ireturn, 1) := by decide +kernel
theorem dX11_floor_4 : decode cX11_floor 4 = .ok (.getfield 121, 3) := by decide +kernel
theorem dX11_floor_7 : decode cX11_floor 7 = .ok (.getfield 129, 3) := by decide +kernel
theorem dX11_put_0 : decode cX11_put 0 = .ok (.aload_n 0, 1) := by decide +kernel
theorem dX11_put_1 : decode cX11_put 1 = .ok (.iload_n 1, 1) := by decide +kernel
theorem dX11_put_18 : decode cX11_put 18 = .ok (.aload_n 0, 1) := by decide +kernel
theorem dX11_put_19 : decode cX11_put 19 = .ok (.iconst 2, 1) := by decide +kernel
theorem dX11_put_2 : decode cX11_put 2 = .ok (.invokevirtual 184, 3) := by decide +kernel
theorem dX11_put_20 : decode cX11_put 20 = .ok (.invokevirtual 89, 3) := by decide +kernel
theorem dX11_put_23 : decode cX11_put 23 = .ok (.pop, 1) := by decide +kernel
theorem dX11_put_24 : decode cX11_put 24 = .ok (.iconst 0, 1) := by decide +kernel
theorem dX11_put_25 : decode cX11_put 25 = .ok (.ireturn, 1) := by decide +kernel
theorem dX11_put_5 : decode cX11_put 5 = .ok (.ifCond .eq 13, 3) := by decide +kernel
theorem dX11_row_0 : decode cX11_row 0 = .ok (.aload_n 0, 1) := by decide +kernel
theorem dX11_row_1 : decode cX11_row 1 = .ok (.getfield 43, 3) := by decide +kernel
theorem dX11_row_10 : decode cX11_row 10 = .ok (.getfield 143, 3) := by decide +kernel
theorem dX11_row_13 : decode cX11_row 13 = .ok (.istore_n 1, 1) := by decide +kernel
theorem dX11_row_14 : decode cX11_row 14 = .ok (.aload_n 0, 1) := by decide +kernel
theorem dX11_row_15 : decode cX11_row 15 = .ok (.getfield 13, 3) := by decide +kernel
theorem dX11_row_18 : decode cX11_row 18 = .ok (.iload_n 1, 1) := by decide +kernel
theorem dX11_row_19 : decode cX11_row 19 = .ok (.if_icmp .ne 11, 3) := by decide +kernel
theorem dX11_row_22 : decode cX11_row 22 = .ok (.aload_n 0, 1) := by decide +kernel
theorem dX11_row_23 : decode cX11_row 23 = .ok (.iconst 0, 1) := by decide +kernel
theorem dX11_row_24 : decode cX11_row 24 = .ok (.invokevirtual 224, 3) := by decide +kernel
theorem dX11_row_27 : decode cX11_row 27 = .ok (.ifCond .ne 11, 3) := by decide +kernel
theorem dX11_row_38 : decode cX11_row 38 = .ok (.aload_n 0, 1) := by decide +kernel
theorem dX11_row_39 : decode cX11_row 39 = .ok (.iconst 0, 1) := by decide +kernel
theorem dX11_row_4 : decode cX11_row 4 = .ok (.getfield 121, 3) := by decide +kernel
theorem dX11_row_40 : decode cX11_row 40 = .ok (.invokevirtual 227, 3) := by decide +kernel
theorem dX11_row_43 : decode cX11_row 43 = .ok (.aload_n 0, 1) := by decide +kernel
theorem dX11_row_44 : decode cX11_row 44 = .ok (.iconst 0, 1) := by decide +kernel
theorem dX11_row_45 : decode cX11_row 45 = .ok (.putfield 13, 3) := by decide +kernel
theorem dX11_row_48 : decode cX11_row 48 = .ok (.iconst 1, 1) := by decide +kernel
theorem dX11_row_49 : decode cX11_row 49 = .ok (.ireturn, 1) := by decide +kernel
theorem dX11_row_7 : decode cX11_row 7 = .ok (.getfield 139, 3) := by decide +kernel
theorem dX11_day_0 : decode cX11_day 0 = .ok (.iload_n 1, 1) := by decide +kernel
theorem dX11_day_1 : decode cX11_day 1 = .ok (.invokestatic 230, 3) := by decide +kernel
theorem dX11_day_10 : decode cX11_day 10 = .ok (.tableswitch 57 0 2 #[26, 35, 44], 26) := by decide +kernel
theorem dX11_day_36 : decode cX11_day 36 = .ok (.aload_n 0, 1) := by decide +kernel
theorem dX11_day_37 : decode cX11_day 37 = .ok (.getfield 43, 3) := by decide +kernel
theorem dX11_day_4 : decode cX11_day 4 = .ok (.ifCond .ne 5, 3) := by decide +kernel
theorem dX11_day_40 : decode cX11_day 40 = .ok (.iload_n 1, 1) := by decide +kernel
theorem dX11_day_41 : decode cX11_day 41 = .ok (.invokevirtual 233, 3) := by decide +kernel
theorem dX11_day_44 : decode cX11_day 44 = .ok (.ireturn, 1) := by decide +kernel
theorem dX11_day_45 : decode cX11_day 45 = .ok (.aload_n 0, 1) := by decide +kernel
theorem dX11_day_46 : decode cX11_day 46 = .ok (.getfield 43, 3) := by decide +kernel
theorem dX11_day_49 : decode cX11_day 49 = .ok (.iload_n 1, 1) := by decide +kernel
theorem dX11_day_50 : decode cX11_day 50 = .ok (.invokevirtual 236, 3) := by decide +kernel
theorem dX11_day_53 : decode cX11_day 53 = .ok (.ireturn, 1) := by decide +kernel
theorem dX11_day_54 : decode cX11_day 54 = .ok (.aload_n 0, 1) := by decide +kernel
theorem dX11_day_55 : decode cX11_day 55 = .ok (.getfield 43, 3) := by decide +kernel
theorem dX11_day_58 : decode cX11_day 58 = .ok (.getfield 121, 3) := by decide +kernel
theorem dX11_day_61 : decode cX11_day 61 = .ok (.getfield 239, 3) := by decide +kernel
theorem dX11_day_64 : decode cX11_day 64 = .ok (.iload_n 1, 1) := by decide +kernel
theorem dX11_day_65 : decode cX11_day 65 = .ok (.iaload, 1) := by decide +kernel
theorem dX11_day_66 : decode cX11_day 66 = .ok (.ireturn, 1) := by decide +kernel
theorem dX11_day_67 : decode cX11_day 67 = .ok (.iconst (-1), 1) := by decide +kernel
theorem dX11_day_68 : decode cX11_day 68 = .ok (.ireturn, 1) := by decide +kernel
theorem dX11_day_7 : decode cX11_day 7 = .ok (.iconst (-1), 1) := by decide +kernel
theorem dX11_day_8 : decode cX11_day 8 = .ok (.ireturn, 1) := by decide +kernel
theorem dX11_day_9 : decode cX11_day 9 = .ok (.iload_n 2, 1) := by decide +kernel
theorem dX11_met_0 : decode cX11_met 0 = .ok (.iload_n 1, 1) := by decide +kernel
theorem dX11_met_1 : decode cX11_met 1 = .ok (.aload_n 0, 1) := by decide +kernel
theorem dX11_met_11 : decode cX11_met 11 = .ok (.invokestatic 169, 3) := by decide +kernel
theorem dX11_met_14 : decode cX11_met 14 = .ok (.ifCond .eq 14, 3) := by decide +kernel
theorem dX11_met_2 : decode cX11_met 2 = .ok (.getfield 43, 3) := by decide +kernel
theorem dX11_met_28 : decode cX11_met 28 = .ok (.iconst (-1), 1) := by decide +kernel
theorem dX11_met_29 : decode cX11_met 29 = .ok (.ireturn, 1) := by decide +kernel
theorem dX11_met_5 : decode cX11_met 5 = .ok (.getfield 121, 3) := by decide +kernel
theorem dX11_met_8 : decode cX11_met 8 = .ok (.getfield 146, 3) := by decide +kernel
theorem dX11_judge_0 : decode cX11_judge 0 = .ok (.aload_n 0, 1) := by decide +kernel
theorem dX11_judge_1 : decode cX11_judge 1 = .ok (.getfield 43, 3) := by decide +kernel
theorem dX11_judge_36 : decode cX11_judge 36 = .ok (.aload_n 0, 1) := by decide +kernel
theorem dX11_judge_37 : decode cX11_judge 37 = .ok (.getfield 43, 3) := by decide +kernel
theorem dX11_judge_4 : decode cX11_judge 4 = .ok (.invokevirtual 245, 3) := by decide +kernel
theorem dX11_judge_40 : decode cX11_judge 40 = .ok (.getfield 248, 3) := by decide +kernel
theorem dX11_judge_43 : decode cX11_judge 43 = .ok (.ireturn, 1) := by decide +kernel
theorem dX11_judge_44 : decode cX11_judge 44 = .ok (.aload_n 0, 1) := by decide +kernel
theorem dX11_judge_45 : decode cX11_judge 45 = .ok (.getfield 43, 3) := by decide +kernel
theorem dX11_judge_48 : decode cX11_judge 48 = .ok (.getfield 251, 3) := by decide +kernel
theorem dX11_judge_51 : decode cX11_judge 51 = .ok (.ireturn, 1) := by decide +kernel
theorem dX11_judge_52 : decode cX11_judge 52 = .ok (.aload_n 0, 1) := by decide +kernel
theorem dX11_judge_53 : decode cX11_judge 53 = .ok (.getfield 43, 3) := by decide +kernel
theorem dX11_judge_56 : decode cX11_judge 56 = .ok (.getfield 254, 3) := by decide +kernel
theorem dX11_judge_59 : decode cX11_judge 59 = .ok (.ireturn, 1) := by decide +kernel
theorem dX11_judge_60 : decode cX11_judge 60 = .ok (.iconst (-1), 1) := by decide +kernel
theorem dX11_judge_61 : decode cX11_judge 61 = .ok (.ireturn, 1) := by decide +kernel
theorem dX11_judge_7 : decode cX11_judge 7 = .ok (.iload_n 1, 1) := by decide +kernel
theorem dX11_judge_8 : decode cX11_judge 8 = .ok (.tableswitch 52 0 2 #[28, 36, 44], 28) := by decide +kernel
theorem dX11_worth_0 : decode cX11_worth 0 = .ok (.aload_n 0, 1) := by decide +kernel
theorem dX11_worth_1 : decode cX11_worth 1 = .ok (.getfield 43, 3) := by decide +kernel
theorem dX11_worth_4 : decode cX11_worth 4 = .ok (.invokevirtual 257, 3) := by decide +kernel
theorem dX11_worth_7 : decode cX11_worth 7 = .ok (.ireturn, 1) := by decide +kernel
theorem dX11_spent_0 : decode cX11_spent 0 = .ok (.aload_n 0, 1) := by decide +kernel
theorem dX11_spent_1 : decode cX11_spent 1 = .ok (.getfield 52, 3) := by decide +kernel
theorem dX11_spent_4 : decode cX11_spent 4 = .ok (.getfield 266, 3) := by decide +kernel
theorem dX11_spent_7 : decode cX11_spent 7 = .ok (.ireturn, 1) := by decide +kernel
theorem dX11_both_0 : decode cX11_both 0 = .ok (.aload_n 0, 1) := by decide +kernel
theorem dX11_both_1 : decode cX11_both 1 = .ok (.iload_n 1, 1) := by decide +kernel
theorem dX11_both_10 : decode cX11_both 10 = .ok (.iconst 3, 1) := by decide +kernel
theorem dX11_both_11 : decode cX11_both 11 = .ok (.invokevirtual 89, 3) := by decide +kernel
theorem dX11_both_14 : decode cX11_both 14 = .ok (.pop, 1) := by decide +kernel
theorem dX11_both_15 : decode cX11_both 15 = .ok (.ldc_w 281, 3) := by decide +kernel
theorem dX11_both_18 : decode cX11_both 18 = .ok (.ireturn, 1) := by decide +kernel
theorem dX11_both_2 : decode cX11_both 2 = .ok (.iload_n 2, 1) := by decide +kernel
theorem dX11_both_3 : decode cX11_both 3 = .ok (.invokevirtual 278, 3) := by decide +kernel
theorem dX11_both_6 : decode cX11_both 6 = .ok (.ifCond .ne 13, 3) := by decide +kernel
theorem dX11_both_9 : decode cX11_both 9 = .ok (.aload_n 0, 1) := by decide +kernel
theorem dX11_trade_0 : decode cX11_trade 0 = .ok (.aload_n 0, 1) := by decide +kernel
theorem dX11_trade_1 : decode cX11_trade 1 = .ok (.iload_n 1, 1) := by decide +kernel
theorem dX11_trade_2 : decode cX11_trade 2 = .ok (.iload_n 2, 1) := by decide +kernel
theorem dX11_trade_21 : decode cX11_trade 21 = .ok (.ldc_w 281, 3) := by decide +kernel
theorem dX11_trade_24 : decode cX11_trade 24 = .ok (.ireturn, 1) := by decide +kernel
theorem dX11_trade_3 : decode cX11_trade 3 = .ok (.invokevirtual 278, 3) := by decide +kernel
theorem dX11_trade_6 : decode cX11_trade 6 = .ok (.ifCond .eq 15, 3) := by decide +kernel
theorem dX11_should_0 : decode cX11_should 0 = .ok (.iload_n 1, 1) := by decide +kernel
theorem dX11_should_1 : decode cX11_should 1 = .ok (.tableswitch 51 0 2 #[27, 35, 43], 27) := by decide +kernel
theorem dX11_should_28 : decode cX11_should 28 = .ok (.aload_n 0, 1) := by decide +kernel
theorem dX11_should_29 : decode cX11_should 29 = .ok (.getfield 43, 3) := by decide +kernel
theorem dX11_should_32 : decode cX11_should 32 = .ok (.invokevirtual 288, 3) := by decide +kernel
theorem dX11_should_35 : decode cX11_should 35 = .ok (.ireturn, 1) := by decide +kernel
theorem dX11_should_36 : decode cX11_should 36 = .ok (.aload_n 0, 1) := by decide +kernel
theorem dX11_should_37 : decode cX11_should 37 = .ok (.getfield 43, 3) := by decide +kernel
theorem dX11_should_40 : decode cX11_should 40 = .ok (.invokevirtual 291, 3) := by decide +kernel
theorem dX11_should_43 : decode cX11_should 43 = .ok (.ireturn, 1) := by decide +kernel
theorem dX11_should_44 : decode cX11_should 44 = .ok (.aload_n 0, 1) := by decide +kernel
theorem dX11_should_45 : decode cX11_should 45 = .ok (.getfield 43, 3) := by decide +kernel
theorem dX11_should_48 : decode cX11_should 48 = .ok (.invokevirtual 294, 3) := by decide +kernel
theorem dX11_should_51 : decode cX11_should 51 = .ok (.ireturn, 1) := by decide +kernel
theorem dX11_should_52 : decode cX11_should 52 = .ok (.iconst (-1), 1) := by decide +kernel
theorem dX11_should_53 : decode cX11_should 53 = .ok (.ireturn, 1) := by decide +kernel
theorem dX11_bound_0 : decode cX11_bound 0 = .ok (.aload_n 0, 1) := by decide +kernel
theorem dX11_bound_1 : decode cX11_bound 1 = .ok (.getfield 43, 3) := by decide +kernel
theorem dX11_bound_10 : decode cX11_bound 10 = .ok (.istore_n 2, 1) := by decide +kernel
theorem dX11_bound_11 : decode cX11_bound 11 = .ok (.iload_n 1, 1) := by decide +kernel
theorem dX11_bound_12 : decode cX11_bound 12 = .ok (.ifCond .eq 15, 3) := by decide +kernel
theorem dX11_bound_15 : decode cX11_bound 15 = .ok (.iload_n 2, 1) := by decide +kernel
theorem dX11_bound_16 : decode cX11_bound 16 = .ok (.aload_n 0, 1) := by decide +kernel
theorem dX11_bound_17 : decode cX11_bound 17 = .ok (.getfield 43, 3) := by decide +kernel
theorem dX11_bound_20 : decode cX11_bound 20 = .ok (.invokevirtual 300, 3) := by decide +kernel
theorem dX11_bound_23 : decode cX11_bound 23 = .ok (.isub, 1) := by decide +kernel
theorem dX11_bound_24 : decode cX11_bound 24 = .ok (.goto 4, 3) := by decide +kernel
theorem dX11_bound_27 : decode cX11_bound 27 = .ok (.iload_n 2, 1) := by decide +kernel
theorem dX11_bound_28 : decode cX11_bound 28 = .ok (.ireturn, 1) := by decide +kernel
theorem dX11_bound_4 : decode cX11_bound 4 = .ok (.getfield 121, 3) := by decide +kernel
theorem dX11_bound_7 : decode cX11_bound 7 = .ok (.invokevirtual 297, 3) := by decide +kernel
theorem dX11_alone_0 : decode cX11_alone 0 = .ok (.aload_n 0, 1) := by decide +kernel
theorem dX11_alone_1 : decode cX11_alone 1 = .ok (.iload_n 1, 1) := by decide +kernel
theorem dX11_alone_2 : decode cX11_alone 2 = .ok (.invokevirtual 184, 3) := by decide +kernel
theorem dX11_alone_28 : decode cX11_alone 28 = .ok (.ldc_w 281, 3) := by decide +kernel
theorem dX11_alone_31 : decode cX11_alone 31 = .ok (.ireturn, 1) := by decide +kernel
theorem dX11_alone_5 : decode cX11_alone 5 = .ok (.ifCond .eq 23, 3) := by decide +kernel
theorem dX11_seat_0 : decode cX11_seat 0 = .ok (.iload_n 1, 1) := by decide +kernel
theorem dX11_seat_1 : decode cX11_seat 1 = .ok (.invokestatic 230, 3) := by decide +kernel
theorem dX11_seat_12 : decode cX11_seat 12 = .ok (.ifCond .ne 5, 3) := by decide +kernel
theorem dX11_seat_15 : decode cX11_seat 15 = .ok (.iconst (-1), 1) := by decide +kernel
theorem dX11_seat_16 : decode cX11_seat 16 = .ok (.ireturn, 1) := by decide +kernel
theorem dX11_seat_4 : decode cX11_seat 4 = .ok (.ifCond .eq 11, 3) := by decide +kernel
theorem dX11_seat_7 : decode cX11_seat 7 = .ok (.aload_n 0, 1) := by decide +kernel
theorem dX11_seat_8 : decode cX11_seat 8 = .ok (.iload_n 2, 1) := by decide +kernel
theorem dX11_seat_9 : decode cX11_seat 9 = .ok (.invokevirtual 184, 3) := by decide +kernel
theorem dX11_shut_0 : decode cX11_shut 0 = .ok (.iload_n 1, 1) := by decide +kernel
theorem dX11_shut_1 : decode cX11_shut 1 = .ok (.invokestatic 230, 3) := by decide +kernel
theorem dX11_shut_11 : decode cX11_shut 11 = .ok (.iload_n 1, 1) := by decide +kernel
theorem dX11_shut_12 : decode cX11_shut 12 = .ok (.invokevirtual 361, 3) := by decide +kernel
theorem dX11_shut_15 : decode cX11_shut 15 = .ok (.goto 4, 3) := by decide +kernel
theorem dX11_shut_18 : decode cX11_shut 18 = .ok (.iconst (-1), 1) := by decide +kernel
theorem dX11_shut_19 : decode cX11_shut 19 = .ok (.ireturn, 1) := by decide +kernel
theorem dX11_shut_4 : decode cX11_shut 4 = .ok (.ifCond .eq 14, 3) := by decide +kernel
theorem dX11_shut_7 : decode cX11_shut 7 = .ok (.aload_n 0, 1) := by decide +kernel
theorem dX11_shut_8 : decode cX11_shut 8 = .ok (.getfield 59, 3) := by decide +kernel
theorem dX11_move_0 : decode cX11_move 0 = .ok (.aload_n 0, 1) := by decide +kernel
theorem dX11_move_1 : decode cX11_move 1 = .ok (.iload_n 1, 1) := by decide +kernel
theorem dX11_move_19 : decode cX11_move 19 = .ok (.iconst (-1), 1) := by decide +kernel
theorem dX11_move_2 : decode cX11_move 2 = .ok (.invokevirtual 184, 3) := by decide +kernel
theorem dX11_move_20 : decode cX11_move 20 = .ok (.ireturn, 1) := by decide +kernel
theorem dX11_move_5 : decode cX11_move 5 = .ok (.ifCond .eq 14, 3) := by decide +kernel
theorem dX11_octet_0 : decode cX11_octet 0 = .ok (.iload_n 1, 1) := by decide +kernel
theorem dX11_octet_1 : decode cX11_octet 1 = .ok (.aload_n 0, 1) := by decide +kernel
theorem dX11_octet_2 : decode cX11_octet 2 = .ok (.getfield 83, 3) := by decide +kernel
theorem dX11_octet_20 : decode cX11_octet 20 = .ok (.iconst (-1), 1) := by decide +kernel
theorem dX11_octet_21 : decode cX11_octet 21 = .ok (.ireturn, 1) := by decide +kernel
theorem dX11_octet_5 : decode cX11_octet 5 = .ok (.invokestatic 169, 3) := by decide +kernel
theorem dX11_octet_8 : decode cX11_octet 8 = .ok (.ifCond .eq 12, 3) := by decide +kernel
theorem dX11_status_0 : decode cX11_status 0 = .ok (.iload_n 1, 1) := by decide +kernel
theorem dX11_status_1 : decode cX11_status 1 = .ok (.bipush 6, 2) := by decide +kernel
theorem dX11_status_10 : decode cX11_status 10 = .ok (.getfield 86, 3) := by decide +kernel
theorem dX11_status_13 : decode cX11_status 13 = .ok (.iload_n 1, 1) := by decide +kernel
theorem dX11_status_14 : decode cX11_status 14 = .ok (.iaload, 1) := by decide +kernel
theorem dX11_status_15 : decode cX11_status 15 = .ok (.goto 4, 3) := by decide +kernel
theorem dX11_status_18 : decode cX11_status 18 = .ok (.iconst (-1), 1) := by decide +kernel
theorem dX11_status_19 : decode cX11_status 19 = .ok (.ireturn, 1) := by decide +kernel
theorem dX11_status_3 : decode cX11_status 3 = .ok (.invokestatic 169, 3) := by decide +kernel
theorem dX11_status_6 : decode cX11_status 6 = .ok (.ifCond .eq 12, 3) := by decide +kernel
theorem dX11_status_9 : decode cX11_status 9 = .ok (.aload_n 0, 1) := by decide +kernel
theorem dX11_end_0 : decode cX11_end 0 = .ok (.iload_n 1, 1) := by decide +kernel
theorem dX11_end_1 : decode cX11_end 1 = .ok (.ifCond .lt 11, 3) := by decide +kernel
theorem dX11_end_12 : decode cX11_end 12 = .ok (.aload_n 0, 1) := by decide +kernel
theorem dX11_end_13 : decode cX11_end 13 = .ok (.iconst 0, 1) := by decide +kernel
theorem dX11_end_14 : decode cX11_end 14 = .ok (.invokevirtual 89, 3) := by decide +kernel
theorem dX11_end_17 : decode cX11_end 17 = .ok (.pop, 1) := by decide +kernel
theorem dX11_end_18 : decode cX11_end 18 = .ok (.iconst 0, 1) := by decide +kernel
theorem dX11_end_19 : decode cX11_end 19 = .ok (.ireturn, 1) := by decide +kernel
theorem dX11_end_20 : decode cX11_end 20 = .ok (.aload_n 0, 1) := by decide +kernel
theorem dX11_end_21 : decode cX11_end 21 = .ok (.iload_n 1, 1) := by decide +kernel
theorem dX11_end_22 : decode cX11_end 22 = .ok (.putfield 13, 3) := by decide +kernel
theorem dX11_end_25 : decode cX11_end 25 = .ok (.iconst 1, 1) := by decide +kernel
theorem dX11_end_26 : decode cX11_end 26 = .ok (.ireturn, 1) := by decide +kernel
theorem dX11_end_4 : decode cX11_end 4 = .ok (.iload_n 1, 1) := by decide +kernel
theorem dX11_end_5 : decode cX11_end 5 = .ok (.aload_n 0, 1) := by decide +kernel
theorem dX11_end_6 : decode cX11_end 6 = .ok (.getfield 13, 3) := by decide +kernel
theorem dX11_end_9 : decode cX11_end 9 = .ok (.if_icmp .le 11, 3) := by decide +kernel
theorem dX11_seed_0 : decode cX11_seed 0 = .ok (.iload_n 1, 1) := by decide +kernel
theorem dX11_seed_1 : decode cX11_seed 1 = .ok (.ifCond .ge 11, 3) := by decide +kernel
theorem dX11_seed_10 : decode cX11_seed 10 = .ok (.iconst 0, 1) := by decide +kernel
theorem dX11_seed_11 : decode cX11_seed 11 = .ok (.ireturn, 1) := by decide +kernel
theorem dX11_seed_12 : decode cX11_seed 12 = .ok (.aload_n 0, 1) := by decide +kernel
theorem dX11_seed_13 : decode cX11_seed 13 = .ok (.iload_n 1, 1) := by decide +kernel
theorem dX11_seed_14 : decode cX11_seed 14 = .ok (.i2l, 1) := by decide +kernel
theorem dX11_seed_15 : decode cX11_seed 15 = .ok (.putfield 76, 3) := by decide +kernel
theorem dX11_seed_18 : decode cX11_seed 18 = .ok (.iconst 1, 1) := by decide +kernel
theorem dX11_seed_19 : decode cX11_seed 19 = .ok (.ireturn, 1) := by decide +kernel
theorem dX11_seed_4 : decode cX11_seed 4 = .ok (.aload_n 0, 1) := by decide +kernel
theorem dX11_seed_5 : decode cX11_seed 5 = .ok (.iconst 4, 1) := by decide +kernel
theorem dX11_seed_6 : decode cX11_seed 6 = .ok (.invokevirtual 89, 3) := by decide +kernel
theorem dX11_seed_9 : decode cX11_seed 9 = .ok (.pop, 1) := by decide +kernel
theorem dX11_never_0 : decode cX11_never 0 = .ok (.iload_n 1, 1) := by decide +kernel
theorem dX11_never_1 : decode cX11_never 1 = .ok (.iconst 1, 1) := by decide +kernel
theorem dX11_never_11 : decode cX11_never 11 = .ok (.aload_n 0, 1) := by decide +kernel
theorem dX11_never_12 : decode cX11_never 12 = .ok (.getfield 43, 3) := by decide +kernel
theorem dX11_never_15 : decode cX11_never 15 = .ok (.iload_n 1, 1) := by decide +kernel
theorem dX11_never_16 : decode cX11_never 16 = .ok (.invokevirtual 364, 3) := by decide +kernel
theorem dX11_never_19 : decode cX11_never 19 = .ok (.goto 4, 3) := by decide +kernel
theorem dX11_never_2 : decode cX11_never 2 = .ok (.if_icmp .lt 20, 3) := by decide +kernel
theorem dX11_never_22 : decode cX11_never 22 = .ok (.iconst (-1), 1) := by decide +kernel
theorem dX11_never_23 : decode cX11_never 23 = .ok (.ireturn, 1) := by decide +kernel
theorem dX11_never_5 : decode cX11_never 5 = .ok (.iload_n 1, 1) := by decide +kernel
theorem dX11_never_6 : decode cX11_never 6 = .ok (.bipush 9, 2) := by decide +kernel
theorem dX11_never_8 : decode cX11_never 8 = .ok (.if_icmp .gt 14, 3) := by decide +kernel
theorem dX11_weeks_0 : decode cX11_weeks 0 = .ok (.iconst 1, 1) := by decide +kernel
theorem dX11_weeks_1 : decode cX11_weeks 1 = .ok (.istore_n 1, 1) := by decide +kernel
theorem dX11_weeks_12 : decode cX11_weeks 12 = .ok (.iload_n 1, 1) := by decide +kernel
theorem dX11_weeks_13 : decode cX11_weeks 13 = .ok (.invokevirtual 364, 3) := by decide +kernel
theorem dX11_weeks_16 : decode cX11_weeks 16 = .ok (.ifCond .ne 5, 3) := by decide +kernel
theorem dX11_weeks_19 : decode cX11_weeks 19 = .ok (.iload_n 1, 1) := by decide +kernel
theorem dX11_weeks_2 : decode cX11_weeks 2 = .ok (.iload_n 1, 1) := by decide +kernel
theorem dX11_weeks_20 : decode cX11_weeks 20 = .ok (.ireturn, 1) := by decide +kernel
theorem dX11_weeks_3 : decode cX11_weeks 3 = .ok (.bipush 9, 2) := by decide +kernel
theorem dX11_weeks_5 : decode cX11_weeks 5 = .ok (.if_icmp .gt 22, 3) := by decide +kernel
theorem dX11_weeks_8 : decode cX11_weeks 8 = .ok (.aload_n 0, 1) := by decide +kernel
theorem dX11_weeks_9 : decode cX11_weeks 9 = .ok (.getfield 43, 3) := by decide +kernel
theorem dX11_fit_0 : decode cX11_fit 0 = .ok (.iload_n 1, 1) := by decide +kernel
theorem dX11_fit_1 : decode cX11_fit 1 = .ok (.invokestatic 230, 3) := by decide +kernel
theorem dX11_fit_11 : decode cX11_fit 11 = .ok (.iload_n 2, 1) := by decide +kernel
theorem dX11_fit_12 : decode cX11_fit 12 = .ok (.iconst 2, 1) := by decide +kernel
theorem dX11_fit_13 : decode cX11_fit 13 = .ok (.if_icmp .le 7, 3) := by decide +kernel
theorem dX11_fit_16 : decode cX11_fit 16 = .ok (.ldc_w 281, 3) := by decide +kernel
theorem dX11_fit_19 : decode cX11_fit 19 = .ok (.ireturn, 1) := by decide +kernel
theorem dX11_fit_20 : decode cX11_fit 20 = .ok (.aload_n 0, 1) := by decide +kernel
theorem dX11_fit_21 : decode cX11_fit 21 = .ok (.getfield 59, 3) := by decide +kernel
theorem dX11_fit_24 : decode cX11_fit 24 = .ok (.iload_n 1, 1) := by decide +kernel
theorem dX11_fit_25 : decode cX11_fit 25 = .ok (.invokevirtual 350, 3) := by decide +kernel
theorem dX11_fit_28 : decode cX11_fit 28 = .ok (.iload_n 2, 1) := by decide +kernel
theorem dX11_fit_29 : decode cX11_fit 29 = .ok (.ifCond .ne 11, 3) := by decide +kernel
theorem dX11_fit_32 : decode cX11_fit 32 = .ok (.aload_n 0, 1) := by decide +kernel
theorem dX11_fit_33 : decode cX11_fit 33 = .ok (.getfield 59, 3) := by decide +kernel
theorem dX11_fit_36 : decode cX11_fit 36 = .ok (.invokevirtual 358, 3) := by decide +kernel
theorem dX11_fit_39 : decode cX11_fit 39 = .ok (.ireturn, 1) := by decide +kernel
theorem dX11_fit_4 : decode cX11_fit 4 = .ok (.ifCond .eq 12, 3) := by decide +kernel
theorem dX11_fit_40 : decode cX11_fit 40 = .ok (.aload_n 0, 1) := by decide +kernel
theorem dX11_fit_41 : decode cX11_fit 41 = .ok (.getfield 59, 3) := by decide +kernel
theorem dX11_fit_44 : decode cX11_fit 44 = .ok (.invokevirtual 353, 3) := by decide +kernel
theorem dX11_fit_47 : decode cX11_fit 47 = .ok (.istore_n 3, 1) := by decide +kernel
theorem dX11_fit_48 : decode cX11_fit 48 = .ok (.iload_n 2, 1) := by decide +kernel
theorem dX11_fit_49 : decode cX11_fit 49 = .ok (.iconst 1, 1) := by decide +kernel
theorem dX11_fit_50 : decode cX11_fit 50 = .ok (.if_icmp .ne 13, 3) := by decide +kernel
theorem dX11_fit_53 : decode cX11_fit 53 = .ok (.aload_n 0, 1) := by decide +kernel
theorem dX11_fit_54 : decode cX11_fit 54 = .ok (.getfield 59, 3) := by decide +kernel
theorem dX11_fit_57 : decode cX11_fit 57 = .ok (.invokevirtual 358, 3) := by decide +kernel
theorem dX11_fit_60 : decode cX11_fit 60 = .ok (.goto 4, 3) := by decide +kernel
theorem dX11_fit_63 : decode cX11_fit 63 = .ok (.iload_n 3, 1) := by decide +kernel
theorem dX11_fit_64 : decode cX11_fit 64 = .ok (.ireturn, 1) := by decide +kernel
theorem dX11_fit_7 : decode cX11_fit 7 = .ok (.iload_n 2, 1) := by decide +kernel
theorem dX11_fit_8 : decode cX11_fit 8 = .ok (.ifCond .lt 8, 3) := by decide +kernel
theorem dX11_draw_0 : decode cX11_draw 0 = .ok (.iload_n 1, 1) := by decide +kernel
theorem dX11_draw_1 : decode cX11_draw 1 = .ok (.invokestatic 230, 3) := by decide +kernel
theorem dX11_draw_10 : decode cX11_draw 10 = .ok (.getfield 43, 3) := by decide +kernel
theorem dX11_draw_103 : decode cX11_draw 103 = .ok (.iload_n 3, 1) := by decide +kernel
theorem dX11_draw_104 : decode cX11_draw 104 = .ok (.ireturn, 1) := by decide +kernel
theorem dX11_draw_13 : decode cX11_draw 13 = .ok (.getfield 121, 3) := by decide +kernel
theorem dX11_draw_16 : decode cX11_draw 16 = .ok (.astore_n 2, 1) := by decide +kernel
theorem dX11_draw_17 : decode cX11_draw 17 = .ok (.iconst 0, 1) := by decide +kernel
theorem dX11_draw_18 : decode cX11_draw 18 = .ok (.istore_n 3, 1) := by decide +kernel
theorem dX11_draw_19 : decode cX11_draw 19 = .ok (.iconst 0, 1) := by decide +kernel
theorem dX11_draw_20 : decode cX11_draw 20 = .ok (.istore 4, 2) := by decide +kernel
theorem dX11_draw_22 : decode cX11_draw 22 = .ok (.iload 4, 2) := by decide +kernel
theorem dX11_draw_24 : decode cX11_draw 24 = .ok (.aload_n 2, 1) := by decide +kernel
theorem dX11_draw_25 : decode cX11_draw 25 = .ok (.getfield 139, 3) := by decide +kernel
theorem dX11_draw_28 : decode cX11_draw 28 = .ok (.getfield 143, 3) := by decide +kernel
theorem dX11_draw_31 : decode cX11_draw 31 = .ok (.if_icmp .ge 39, 3) := by decide +kernel
theorem dX11_draw_4 : decode cX11_draw 4 = .ok (.ifCond .ne 5, 3) := by decide +kernel
theorem dX11_draw_7 : decode cX11_draw 7 = .ok (.iconst (-1), 1) := by decide +kernel
theorem dX11_draw_70 : decode cX11_draw 70 = .ok (.iconst 0, 1) := by decide +kernel
theorem dX11_draw_71 : decode cX11_draw 71 = .ok (.istore 4, 2) := by decide +kernel
theorem dX11_draw_73 : decode cX11_draw 73 = .ok (.iload 4, 2) := by decide +kernel
theorem dX11_draw_75 : decode cX11_draw 75 = .ok (.aload_n 2, 1) := by decide +kernel
theorem dX11_draw_76 : decode cX11_draw 76 = .ok (.getfield 239, 3) := by decide +kernel
theorem dX11_draw_79 : decode cX11_draw 79 = .ok (.iload_n 1, 1) := by decide +kernel
theorem dX11_draw_8 : decode cX11_draw 8 = .ok (.ireturn, 1) := by decide +kernel
theorem dX11_draw_80 : decode cX11_draw 80 = .ok (.iaload, 1) := by decide +kernel
theorem dX11_draw_81 : decode cX11_draw 81 = .ok (.if_icmp .ge 22, 3) := by decide +kernel
theorem dX11_draw_9 : decode cX11_draw 9 = .ok (.aload_n 0, 1) := by decide +kernel
