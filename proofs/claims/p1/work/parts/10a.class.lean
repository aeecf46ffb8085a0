set_option maxRecDepth 100000 in
theorem inX11 : ∀ w ∈ u_ws RX11 TX11 14, w ∈ tb := fun w h => List.mem_filter.mpr ⟨(by decide +kernel : ∀ w ∈ u_ws RX11 TX11 14, w ∈ lw_tbl) w h, (by decide +kernel : ∀ w ∈ u_ws RX11 TX11 14, goodWord w = true) w h⟩
theorem clX11 : ClF 11 RX11 TX11 14 tyX11 := ⟨rfl, inX11, tyX11_ok, nmX11⟩
set_option maxRecDepth 100000 in
theorem inX4 : ∀ w ∈ u_ws RX4 TX4 6, w ∈ tb := fun w h => List.mem_filter.mpr ⟨(by decide +kernel : ∀ w ∈ u_ws RX4 TX4 6, w ∈ lw_tbl) w h, (by decide +kernel : ∀ w ∈ u_ws RX4 TX4 6, goodWord w = true) w h⟩
theorem clX4 : ClF 4 RX4 TX4 6 tyX4 := ⟨rfl, inX4, tyX4_ok, nmX4⟩
set_option maxRecDepth 100000 in
theorem inX2 : ∀ w ∈ u_ws RX2 TX2 14, w ∈ tb := fun w h => List.mem_filter.mpr ⟨(by decide +kernel : ∀ w ∈ u_ws RX2 TX2 14, w ∈ lw_tbl) w h, (by decide +kernel : ∀ w ∈ u_ws RX2 TX2 14, goodWord w = true) w h⟩
theorem clX2 : ClF 2 RX2 TX2 14 tyX2 := ⟨rfl, inX2, tyX2_ok, nmX2⟩
set_option maxRecDepth 100000 in
theorem inX3 : ∀ w ∈ u_ws RX3 TX3 11, w ∈ tb := fun w h => List.mem_filter.mpr ⟨(by decide +kernel : ∀ w ∈ u_ws RX3 TX3 11, w ∈ lw_tbl) w h, (by decide +kernel : ∀ w ∈ u_ws RX3 TX3 11, goodWord w = true) w h⟩
theorem clX3 : ClF 3 RX3 TX3 11 tyX3 := ⟨rfl, inX3, tyX3_ok, nmX3⟩
set_option maxRecDepth 100000 in
theorem inX1 : ∀ w ∈ u_ws RX1 TX1 8, w ∈ tb := fun w h => List.mem_filter.mpr ⟨(by decide +kernel : ∀ w ∈ u_ws RX1 TX1 8, w ∈ lw_tbl) w h, (by decide +kernel : ∀ w ∈ u_ws RX1 TX1 8, goodWord w = true) w h⟩
theorem clX1 : ClF 1 RX1 TX1 8 tyX1 := ⟨rfl, inX1, tyX1_ok, nmX1⟩
set_option maxRecDepth 100000 in
theorem inX8 : ∀ w ∈ u_ws RX8 TX8 3, w ∈ tb := fun w h => List.mem_filter.mpr ⟨(by decide +kernel : ∀ w ∈ u_ws RX8 TX8 3, w ∈ lw_tbl) w h, (by decide +kernel : ∀ w ∈ u_ws RX8 TX8 3, goodWord w = true) w h⟩
theorem clX8 : ClF 8 RX8 TX8 3 tyX8 := ⟨rfl, inX8, tyX8_ok, nmX8⟩
theorem mlX11_169 : Cond.methodLink RX11 169 yX11_isBelow ∈ tb := tb_at 890 (by decide +kernel)
theorem kmS_X11_isBelow : KmS yX11_isBelow cX11_isBelow 2 (some .boolean) 2 := ⟨tb_at (w := Cond.code yX11_isBelow cX11_isBelow 2 (some .boolean)) 892 (by decide +kernel), tb_at (w := Cond.initialized RX11) 148 (by decide +kernel), tb_at (w := Cond.static yX11_isBelow) 891 (by decide +kernel), ⟨by decide +kernel, by decide +kernel, by decide +kernel⟩⟩
theorem flX11_43 : Cond.fieldLink RX11 43 (TX11 4).1 (TX11 4).2.1 (TX11 4).2.2.1 ∈ tb := tb_at 665 (by decide +kernel)
theorem flX11_121 : Cond.fieldLink RX11 121 (TX4 0).1 (TX4 0).2.1 (TX4 0).2.2.1 ∈ tb := tb_at 583 (by decide +kernel)
theorem flX11_139 : Cond.fieldLink RX11 139 (TX2 1).1 (TX2 1).2.1 (TX2 1).2.2.1 ∈ tb := tb_at 361 (by decide +kernel)
theorem flX11_143 : Cond.fieldLink RX11 143 (TX3 0).1 (TX3 0).2.1 (TX3 0).2.2.1 ∈ tb := tb_at 251 (by decide +kernel)
theorem mlX11_184 : Cond.methodLink RX11 184 yX11_isPerson ∈ tb := tb_at 1054 (by decide +kernel)
theorem kmV_X11_isPerson : KmV yX11_isPerson cX11_isPerson 2 (some .boolean) 1 := ⟨tb_at (w := Cond.code yX11_isPerson cX11_isPerson 2 (some .boolean)) 1057 (by decide +kernel), tb_at (w := Cond.initialized RX11) 148 (by decide +kernel), tb_at (w := Cond.instanceMethod yX11_isPerson) 1056 (by decide +kernel), tb_at (w := Cond.selects yX11_isPerson.cls yX11_isPerson yX11_isPerson) 37 (by decide +kernel), ⟨by decide +kernel, by decide +kernel, by decide +kernel⟩⟩
theorem flX11_86 : Cond.fieldLink RX11 86 (TX11 13).1 (TX11 13).2.1 (TX11 13).2.2.1 ∈ tb := tb_at 674 (by decide +kernel)
theorem flX2_32 : Cond.fieldLink RX2 32 (TX2 3).1 (TX2 3).2.1 (TX2 3).2.2.1 ∈ tb := tb_at 366 (by decide +kernel)
theorem flX2_47 : Cond.fieldLink RX2 47 (TX2 7).1 (TX2 7).2.1 (TX2 7).2.2.1 ∈ tb := tb_at 379 (by decide +kernel)
theorem flX4_28 : Cond.fieldLink RX4 28 (TX4 0).1 (TX4 0).2.1 (TX4 0).2.2.1 ∈ tb := tb_at 579 (by decide +kernel)
theorem flX4_39 : Cond.fieldLink RX4 39 (TX2 1).1 (TX2 1).2.1 (TX2 1).2.2.1 ∈ tb := tb_at 358 (by decide +kernel)
theorem flX4_45 : Cond.fieldLink RX4 45 (TX3 0).1 (TX3 0).2.1 (TX3 0).2.2.1 ∈ tb := tb_at 248 (by decide +kernel)
theorem mlX4_53 : Cond.methodLink RX4 53 yX4_inWithoutOwn ∈ tb := tb_at 1091 (by decide +kernel)
theorem kmV_X4_inWithoutOwn : KmV yX4_inWithoutOwn cX4_inWithoutOwn 4 (some .int) 1 := ⟨tb_at (w := Cond.code yX4_inWithoutOwn cX4_inWithoutOwn 4 (some .int)) 1094 (by decide +kernel), tb_at (w := Cond.initialized RX4) 160 (by decide +kernel), tb_at (w := Cond.instanceMethod yX4_inWithoutOwn) 1092 (by decide +kernel), tb_at (w := Cond.selects yX4_inWithoutOwn.cls yX4_inWithoutOwn yX4_inWithoutOwn) 1093 (by decide +kernel), ⟨by decide +kernel, by decide +kernel, by decide +kernel⟩⟩
theorem flX4_57 : Cond.fieldLink RX4 57 (TX2 0).1 (TX2 0).2.1 (TX2 0).2.2.1 ∈ tb := tb_at 353 (by decide +kernel)
theorem flX4_61 : Cond.fieldLink RX4 61 (TX1 1).1 (TX1 1).2.1 (TX1 1).2.2.1 ∈ tb := tb_at 195 (by decide +kernel)
theorem flX4_66 : Cond.fieldLink RX4 66 (TX1 2).1 (TX1 2).2.1 (TX1 2).2.2.1 ∈ tb := tb_at 199 (by decide +kernel)
theorem mlX4_69 : Cond.methodLink RX4 69 yJ9_max_7cf53 ∈ tb := tb_at 1095 (by decide +kernel)
theorem mmX4_max : Cond.methodLink RX4 69 Lib.Math.max.name ∈ tb := tb_at 1095 (by decide +kernel)
theorem mms_max : Cond.static Lib.Math.max.name ∈ tb := tb_at 748 (by decide +kernel)
theorem ini_J9 : Cond.initialized RJ9 ∈ tb := tb_at 166 (by decide +kernel)
theorem mmc_max : Cond.code Lib.Math.max.name Lib.Math.max.code 2 (some .int) ∈ tb := tb_at 749 (by decide +kernel)
theorem mlX4_101 : Cond.methodLink RX4 101 yX4_standing ∈ tb := tb_at 1125 (by decide +kernel)
theorem kmV_X4_standing : KmV yX4_standing cX4_standing 2 (some .int) 1 := ⟨tb_at (w := Cond.code yX4_standing cX4_standing 2 (some .int)) 1090 (by decide +kernel), tb_at (w := Cond.initialized RX4) 160 (by decide +kernel), tb_at (w := Cond.instanceMethod yX4_standing) 1088 (by decide +kernel), tb_at (w := Cond.selects yX4_standing.cls yX4_standing yX4_standing) 1089 (by decide +kernel), ⟨by decide +kernel, by decide +kernel, by decide +kernel⟩⟩
theorem flX4_104 : Cond.fieldLink RX4 104 (TX2 3).1 (TX2 3).2.1 (TX2 3).2.2.1 ∈ tb := tb_at 369 (by decide +kernel)
theorem flX4_15 : Cond.fieldLink RX4 15 (TX4 2).1 (TX4 2).2.1 (TX4 2).2.2.1 ∈ tb := tb_at 587 (by decide +kernel)
theorem flX4_19 : Cond.fieldLink RX4 19 (TX4 3).1 (TX4 3).2.1 (TX4 3).2.2.1 ∈ tb := tb_at 589 (by decide +kernel)
theorem flX4_22 : Cond.fieldLink RX4 22 (TX4 4).1 (TX4 4).2.1 (TX4 4).2.2.1 ∈ tb := tb_at 591 (by decide +kernel)
theorem mlX4_78 : Cond.methodLink RX4 78 yX4_findForbiddenDay ∈ tb := tb_at 1113 (by decide +kernel)
theorem kmV_X4_findForbiddenDay : KmV yX4_findForbiddenDay cX4_findForbiddenDay 4 none 0 := ⟨tb_at (w := Cond.code yX4_findForbiddenDay cX4_findForbiddenDay 4 none) 1116 (by decide +kernel), tb_at (w := Cond.initialized RX4) 160 (by decide +kernel), tb_at (w := Cond.instanceMethod yX4_findForbiddenDay) 1115 (by decide +kernel), tb_at (w := Cond.selects yX4_findForbiddenDay.cls yX4_findForbiddenDay yX4_findForbiddenDay) 40 (by decide +kernel), ⟨by decide +kernel, by decide +kernel, by decide +kernel⟩⟩
theorem mlX4_81 : Cond.methodLink RX4 81 yX4_findOtherNumber ∈ tb := tb_at 1117 (by decide +kernel)
theorem kmV_X4_findOtherNumber : KmV yX4_findOtherNumber cX4_findOtherNumber 2 none 0 := ⟨tb_at (w := Cond.code yX4_findOtherNumber cX4_findOtherNumber 2 none) 1120 (by decide +kernel), tb_at (w := Cond.initialized RX4) 160 (by decide +kernel), tb_at (w := Cond.instanceMethod yX4_findOtherNumber) 1119 (by decide +kernel), tb_at (w := Cond.selects yX4_findOtherNumber.cls yX4_findOtherNumber yX4_findOtherNumber) 41 (by decide +kernel), ⟨by decide +kernel, by decide +kernel, by decide +kernel⟩⟩
theorem mlX4_84 : Cond.methodLink RX4 84 yX4_findStanding ∈ tb := tb_at 1121 (by decide +kernel)
theorem kmV_X4_findStanding : KmV yX4_findStanding cX4_findStanding 2 none 0 := ⟨tb_at (w := Cond.code yX4_findStanding cX4_findStanding 2 none) 1124 (by decide +kernel), tb_at (w := Cond.initialized RX4) 160 (by decide +kernel), tb_at (w := Cond.instanceMethod yX4_findStanding) 1123 (by decide +kernel), tb_at (w := Cond.selects yX4_findStanding.cls yX4_findStanding yX4_findStanding) 42 (by decide +kernel), ⟨by decide +kernel, by decide +kernel, by decide +kernel⟩⟩
theorem mlX4_87 : Cond.methodLink RX4 87 yX4_findTeamApart ∈ tb := tb_at 1126 (by decide +kernel)
theorem kmV_X4_findTeamApart : KmV yX4_findTeamApart cX4_findTeamApart 2 none 0 := ⟨tb_at (w := Cond.code yX4_findTeamApart cX4_findTeamApart 2 none) 1129 (by decide +kernel), tb_at (w := Cond.initialized RX4) 160 (by decide +kernel), tb_at (w := Cond.instanceMethod yX4_findTeamApart) 1128 (by decide +kernel), tb_at (w := Cond.selects yX4_findTeamApart.cls yX4_findTeamApart yX4_findTeamApart) 43 (by decide +kernel), ⟨by decide +kernel, by decide +kernel, by decide +kernel⟩⟩
theorem mlX4_75 : Cond.methodLink RX4 75 yX4_examine ∈ tb := tb_at 1233 (by decide +kernel)
theorem kmV_X4_examine : KmV yX4_examine cX4_examine 1 none 0 := ⟨tb_at (w := Cond.code yX4_examine cX4_examine 1 none) 1112 (by decide +kernel), tb_at (w := Cond.initialized RX4) 160 (by decide +kernel), tb_at (w := Cond.instanceMethod yX4_examine) 1110 (by decide +kernel), tb_at (w := Cond.selects yX4_examine.cls yX4_examine yX4_examine) 1111 (by decide +kernel), ⟨by decide +kernel, by decide +kernel, by decide +kernel⟩⟩
theorem flX4_127 : Cond.fieldLink RX4 127 (TX2 7).1 (TX2 7).2.1 (TX2 7).2.2.1 ∈ tb := tb_at 383 (by decide +kernel)
theorem mlX4_136 : Cond.methodLink RX4 136 yX4_tieWorth ∈ tb := tb_at 1142 (by decide +kernel)
theorem kmV_X4_tieWorth : KmV yX4_tieWorth cX4_tieWorth 3 (some .int) 0 := ⟨tb_at (w := Cond.code yX4_tieWorth cX4_tieWorth 3 (some .int)) 1145 (by decide +kernel), tb_at (w := Cond.initialized RX4) 160 (by decide +kernel), tb_at (w := Cond.instanceMethod yX4_tieWorth) 1143 (by decide +kernel), tb_at (w := Cond.selects yX4_tieWorth.cls yX4_tieWorth yX4_tieWorth) 1144 (by decide +kernel), ⟨by decide +kernel, by decide +kernel, by decide +kernel⟩⟩
theorem mlX4_140 : Cond.methodLink RX4 140 yX4_inCount ∈ tb := tb_at 1147 (by decide +kernel)
theorem kmV_X4_inCount : KmV yX4_inCount cX4_inCount 4 (some .int) 1 := ⟨tb_at (w := Cond.code yX4_inCount cX4_inCount 4 (some .int)) 1086 (by decide +kernel), tb_at (w := Cond.initialized RX4) 160 (by decide +kernel), tb_at (w := Cond.instanceMethod yX4_inCount) 1084 (by decide +kernel), tb_at (w := Cond.selects yX4_inCount.cls yX4_inCount yX4_inCount) 1085 (by decide +kernel), ⟨by decide +kernel, by decide +kernel, by decide +kernel⟩⟩
theorem flX8_18 : Cond.fieldLink RX8 18 (TX8 0).1 (TX8 0).2.1 (TX8 0).2.2.1 ∈ tb := tb_at 636 (by decide +kernel)
theorem flX8_22 : Cond.fieldLink RX8 22 (TX4 0).1 (TX4 0).2.1 (TX4 0).2.2.1 ∈ tb := tb_at 581 (by decide +kernel)
theorem flX8_28 : Cond.fieldLink RX8 28 (TX2 0).1 (TX2 0).2.1 (TX2 0).2.2.1 ∈ tb := tb_at 351 (by decide +kernel)
theorem flX8_34 : Cond.fieldLink RX8 34 (TX1 0).1 (TX1 0).2.1 (TX1 0).2.2.1 ∈ tb := tb_at 190 (by decide +kernel)
theorem flX8_46 : Cond.fieldLink RX8 46 (TX2 1).1 (TX2 1).2.1 (TX2 1).2.2.1 ∈ tb := tb_at 357 (by decide +kernel)
theorem flX8_50 : Cond.fieldLink RX8 50 (TX3 0).1 (TX3 0).2.1 (TX3 0).2.2.1 ∈ tb := tb_at 247 (by decide +kernel)
theorem flX8_71 : Cond.fieldLink RX8 71 (TX2 7).1 (TX2 7).2.1 (TX2 7).2.2.1 ∈ tb := tb_at 380 (by decide +kernel)
theorem mlX8_87 : Cond.methodLink RX8 87 yX8_fitNow ∈ tb := tb_at 1420 (by decide +kernel)
theorem kmV_X8_fitNow : KmV yX8_fitNow cX8_fitNow 5 (some .int) 0 := ⟨tb_at (w := Cond.code yX8_fitNow cX8_fitNow 5 (some .int)) 1423 (by decide +kernel), tb_at (w := Cond.initialized RX8) 163 (by decide +kernel), tb_at (w := Cond.instanceMethod yX8_fitNow) 1421 (by decide +kernel), tb_at (w := Cond.selects yX8_fitNow.cls yX8_fitNow yX8_fitNow) 1422 (by decide +kernel), ⟨by decide +kernel, by decide +kernel, by decide +kernel⟩⟩
theorem mlX8_83 : Cond.methodLink RX8 83 yX8_exchangeFirst ∈ tb := tb_at 1416 (by decide +kernel)
theorem kmV_X8_exchangeFirst : KmV yX8_exchangeFirst cX8_exchangeFirst 4 (some .boolean) 0 := ⟨tb_at (w := Cond.code yX8_exchangeFirst cX8_exchangeFirst 4 (some .boolean)) 1419 (by decide +kernel), tb_at (w := Cond.initialized RX8) 163 (by decide +kernel), tb_at (w := Cond.instanceMethod yX8_exchangeFirst) 1418 (by decide +kernel), tb_at (w := Cond.selects yX8_exchangeFirst.cls yX8_exchangeFirst yX8_exchangeFirst) 59 (by decide +kernel), ⟨by decide +kernel, by decide +kernel, by decide +kernel⟩⟩
theorem flX8_99 : Cond.fieldLink RX8 99 (TX1 1).1 (TX1 1).2.1 (TX1 1).2.2.1 ∈ tb := tb_at 197 (by decide +kernel)
theorem flX8_102 : Cond.fieldLink RX8 102 (TX1 2).1 (TX1 2).2.1 (TX1 2).2.2.1 ∈ tb := tb_at 201 (by decide +kernel)
theorem mlX8_105 : Cond.methodLink RX8 105 yX4_inWithoutOwn ∈ tb := tb_at 1445 (by decide +kernel)
theorem dX11_isBelow_0 : decode cX11_isBelow 0 = .ok (.iload_n 0, 1) := by decide +kernel
theorem dX11_isBelow_1 : decode cX11_isBelow 1 = .ok (.ifCond .lt 12, 3) := by decide +kernel
theorem dX11_isBelow_10 : decode cX11_isBelow 10 = .ok (.goto 4, 3) := by decide +kernel
theorem dX11_isBelow_13 : decode cX11_isBelow 13 = .ok (.iconst 0, 1) := by decide +kernel
theorem dX11_isBelow_14 : decode cX11_isBelow 14 = .ok (.ireturn, 1) := by decide +kernel
theorem dX11_isBelow_4 : decode cX11_isBelow 4 = .ok (.iload_n 0, 1) := by decide +kernel
theorem dX11_isBelow_5 : decode cX11_isBelow 5 = .ok (.iload_n 1, 1) := by decide +kernel
theorem dX11_isBelow_6 : decode cX11_isBelow 6 = .ok (.if_icmp .ge 7, 3) := by decide +kernel
theorem dX11_isBelow_9 : decode cX11_isBelow 9 = .ok (.iconst 1, 1) := by decide +kernel
theorem dX11_isDay_0 : decode cX11_isDay 0 = .ok (.iload_n 0, 1) := by decide +kernel
theorem dX11_isDay_1 : decode cX11_isDay 1 = .ok (.iconst 5, 1) := by decide +kernel
theorem dX11_isDay_2 : decode cX11_isDay 2 = .ok (.invokestatic 169, 3) := by decide +kernel
theorem dX11_isDay_5 : decode cX11_isDay 5 = .ok (.ireturn, 1) := by decide +kernel
theorem dX11_isPart_0 : decode cX11_isPart 0 = .ok (.iload_n 0, 1) := by decide +kernel
theorem dX11_isPart_1 : decode cX11_isPart 1 = .ok (.ifCond .lt 13, 3) := by decide +kernel
theorem dX11_isPart_10 : decode cX11_isPart 10 = .ok (.iconst 1, 1) := by decide +kernel
theorem dX11_isPart_11 : decode cX11_isPart 11 = .ok (.goto 4, 3) := by decide +kernel
theorem dX11_isPart_14 : decode cX11_isPart 14 = .ok (.iconst 0, 1) := by decide +kernel
theorem dX11_isPart_15 : decode cX11_isPart 15 = .ok (.ireturn, 1) := by decide +kernel
theorem dX11_isPart_4 : decode cX11_isPart 4 = .ok (.iload_n 0, 1) := by decide +kernel
theorem dX11_isPart_5 : decode cX11_isPart 5 = .ok (.bipush 100, 2) := by decide +kernel
theorem dX11_isPart_7 : decode cX11_isPart 7 = .ok (.if_icmp .gt 7, 3) := by decide +kernel
theorem dX11_isPerson_0 : decode cX11_isPerson 0 = .ok (.iload_n 1, 1) := by decide +kernel
theorem dX11_isPerson_1 : decode cX11_isPerson 1 = .ok (.aload_n 0, 1) := by decide +kernel
theorem dX11_isPerson_11 : decode cX11_isPerson 11 = .ok (.getfield 143, 3) := by decide +kernel
theorem dX11_isPerson_14 : decode cX11_isPerson 14 = .ok (.invokestatic 169, 3) := by decide +kernel
theorem dX11_isPerson_17 : decode cX11_isPerson 17 = .ok (.ireturn, 1) := by decide +kernel
theorem dX11_isPerson_2 : decode cX11_isPerson 2 = .ok (.getfield 43, 3) := by decide +kernel
theorem dX11_isPerson_5 : decode cX11_isPerson 5 = .ok (.getfield 121, 3) := by decide +kernel
theorem dX11_isPerson_8 : decode cX11_isPerson 8 = .ok (.getfield 139, 3) := by decide +kernel
theorem dX11_areTwo_0 : decode cX11_areTwo 0 = .ok (.aload_n 0, 1) := by decide +kernel
theorem dX11_areTwo_1 : decode cX11_areTwo 1 = .ok (.iload_n 1, 1) := by decide +kernel
theorem dX11_areTwo_2 : decode cX11_areTwo 2 = .ok (.invokevirtual 184, 3) := by decide +kernel
theorem dX11_areTwo_25 : decode cX11_areTwo 25 = .ok (.iconst 0, 1) := by decide +kernel
theorem dX11_areTwo_26 : decode cX11_areTwo 26 = .ok (.ireturn, 1) := by decide +kernel
theorem dX11_areTwo_5 : decode cX11_areTwo 5 = .ok (.ifCond .eq 20, 3) := by decide +kernel
theorem dX11_refuse_0 : decode cX11_refuse 0 = .ok (.aload_n 0, 1) := by decide +kernel
theorem dX11_refuse_1 : decode cX11_refuse 1 = .ok (.getfield 86, 3) := by decide +kernel
theorem dX11_refuse_10 : decode cX11_refuse 10 = .ok (.iconst (-1), 1) := by decide +kernel
theorem dX11_refuse_11 : decode cX11_refuse 11 = .ok (.ireturn, 1) := by decide +kernel
theorem dX11_refuse_4 : decode cX11_refuse 4 = .ok (.iload_n 1, 1) := by decide +kernel
theorem dX11_refuse_5 : decode cX11_refuse 5 = .ok (.dup2, 1) := by decide +kernel
theorem dX11_refuse_6 : decode cX11_refuse 6 = .ok (.iaload, 1) := by decide +kernel
theorem dX11_refuse_7 : decode cX11_refuse 7 = .ok (.iconst 1, 1) := by decide +kernel
theorem dX11_refuse_8 : decode cX11_refuse 8 = .ok (.iadd, 1) := by decide +kernel
theorem dX11_refuse_9 : decode cX11_refuse 9 = .ok (.iastore, 1) := by decide +kernel
theorem dX2_meetingTeams_0 : decode cX2_meetingTeams 0 = .ok (.iconst 0, 1) := by decide +kernel
theorem dX2_meetingTeams_1 : decode cX2_meetingTeams 1 = .ok (.istore_n 1, 1) := by decide +kernel
theorem dX2_meetingTeams_2 : decode cX2_meetingTeams 2 = .ok (.iconst 0, 1) := by decide +kernel
theorem dX2_meetingTeams_3 : decode cX2_meetingTeams 3 = .ok (.istore_n 2, 1) := by decide +kernel
theorem dX2_meetingTeams_30 : decode cX2_meetingTeams 30 = .ok (.iload_n 1, 1) := by decide +kernel
theorem dX2_meetingTeams_31 : decode cX2_meetingTeams 31 = .ok (.ireturn, 1) := by decide +kernel
theorem dX2_meetingTeams_4 : decode cX2_meetingTeams 4 = .ok (.iload_n 2, 1) := by decide +kernel
theorem dX2_meetingTeams_5 : decode cX2_meetingTeams 5 = .ok (.aload_n 0, 1) := by decide +kernel
theorem dX2_meetingTeams_6 : decode cX2_meetingTeams 6 = .ok (.getfield 32, 3) := by decide +kernel
theorem dX2_meetingTeams_9 : decode cX2_meetingTeams 9 = .ok (.if_icmp .ge 21, 3) := by decide +kernel
theorem dX2_tieBound_0 : decode cX2_tieBound 0 = .ok (.iconst 0, 1) := by decide +kernel
theorem dX2_tieBound_1 : decode cX2_tieBound 1 = .ok (.istore_n 1, 1) := by decide +kernel
theorem dX2_tieBound_104 : decode cX2_tieBound 104 = .ok (.iload_n 1, 1) := by decide +kernel
theorem dX2_tieBound_105 : decode cX2_tieBound 105 = .ok (.ireturn, 1) := by decide +kernel
theorem dX2_tieBound_2 : decode cX2_tieBound 2 = .ok (.iconst 0, 1) := by decide +kernel
theorem dX2_tieBound_3 : decode cX2_tieBound 3 = .ok (.istore_n 2, 1) := by decide +kernel
theorem dX2_tieBound_4 : decode cX2_tieBound 4 = .ok (.iload_n 2, 1) := by decide +kernel
theorem dX2_tieBound_5 : decode cX2_tieBound 5 = .ok (.aload_n 0, 1) := by decide +kernel
theorem dX2_tieBound_6 : decode cX2_tieBound 6 = .ok (.getfield 47, 3) := by decide +kernel
theorem dX2_tieBound_9 : decode cX2_tieBound 9 = .ok (.if_icmp .ge 95, 3) := by decide +kernel
theorem dX4_inCount_0 : decode cX4_inCount 0 = .ok (.iconst 0, 1) := by decide +kernel
theorem dX4_inCount_1 : decode cX4_inCount 1 = .ok (.istore_n 2, 1) := by decide +kernel
theorem dX4_inCount_12 : decode cX4_inCount 12 = .ok (.getfield 45, 3) := by decide +kernel
theorem dX4_inCount_15 : decode cX4_inCount 15 = .ok (.if_icmp .ge 22, 3) := by decide +kernel
theorem dX4_inCount_2 : decode cX4_inCount 2 = .ok (.iconst 0, 1) := by decide +kernel
theorem dX4_inCount_3 : decode cX4_inCount 3 = .ok (.istore_n 3, 1) := by decide +kernel
theorem dX4_inCount_37 : decode cX4_inCount 37 = .ok (.iload_n 2, 1) := by decide +kernel
theorem dX4_inCount_38 : decode cX4_inCount 38 = .ok (.ireturn, 1) := by decide +kernel
theorem dX4_inCount_4 : decode cX4_inCount 4 = .ok (.iload_n 3, 1) := by decide +kernel
theorem dX4_inCount_5 : decode cX4_inCount 5 = .ok (.aload_n 0, 1) := by decide +kernel
theorem dX4_inCount_6 : decode cX4_inCount 6 = .ok (.getfield 28, 3) := by decide +kernel
theorem dX4_inCount_9 : decode cX4_inCount 9 = .ok (.getfield 39, 3) := by decide +kernel
theorem dX4_inWithoutOwn_0 : decode cX4_inWithoutOwn 0 = .ok (.iconst 0, 1) := by decide +kernel
theorem dX4_inWithoutOwn_1 : decode cX4_inWithoutOwn 1 = .ok (.istore_n 2, 1) := by decide +kernel
theorem dX4_inWithoutOwn_12 : decode cX4_inWithoutOwn 12 = .ok (.getfield 45, 3) := by decide +kernel
theorem dX4_inWithoutOwn_15 : decode cX4_inWithoutOwn 15 = .ok (.if_icmp .ge 38, 3) := by decide +kernel
theorem dX4_inWithoutOwn_2 : decode cX4_inWithoutOwn 2 = .ok (.iconst 0, 1) := by decide +kernel
theorem dX4_inWithoutOwn_3 : decode cX4_inWithoutOwn 3 = .ok (.istore_n 3, 1) := by decide +kernel
theorem dX4_inWithoutOwn_4 : decode cX4_inWithoutOwn 4 = .ok (.iload_n 3, 1) := by decide +kernel
theorem dX4_inWithoutOwn_5 : decode cX4_inWithoutOwn 5 = .ok (.aload_n 0, 1) := by decide +kernel
theorem dX4_inWithoutOwn_53 : decode cX4_inWithoutOwn 53 = .ok (.iload_n 2, 1) := by decide +kernel
theorem dX4_inWithoutOwn_54 : decode cX4_inWithoutOwn 54 = .ok (.ireturn, 1) := by decide +kernel
theorem dX4_inWithoutOwn_6 : decode cX4_inWithoutOwn 6 = .ok (.getfield 28, 3) := by decide +kernel
theorem dX4_inWithoutOwn_9 : decode cX4_inWithoutOwn 9 = .ok (.getfield 39, 3) := by decide +kernel
theorem dX4_standing_0 : decode cX4_standing 0 = .ok (.iconst 0, 1) := by decide +kernel
theorem dX4_standing_1 : decode cX4_standing 1 = .ok (.aload_n 0, 1) := by decide +kernel
theorem dX4_standing_10 : decode cX4_standing 10 = .ok (.getfield 57, 3) := by decide +kernel
theorem dX4_standing_13 : decode cX4_standing 13 = .ok (.getfield 61, 3) := by decide +kernel
theorem dX4_standing_16 : decode cX4_standing 16 = .ok (.aload_n 0, 1) := by decide +kernel
theorem dX4_standing_17 : decode cX4_standing 17 = .ok (.getfield 28, 3) := by decide +kernel
theorem dX4_standing_2 : decode cX4_standing 2 = .ok (.iload_n 1, 1) := by decide +kernel
theorem dX4_standing_20 : decode cX4_standing 20 = .ok (.getfield 57, 3) := by decide +kernel
theorem dX4_standing_23 : decode cX4_standing 23 = .ok (.getfield 66, 3) := by decide +kernel
theorem dX4_standing_26 : decode cX4_standing 26 = .ok (.isub, 1) := by decide +kernel
theorem dX4_standing_27 : decode cX4_standing 27 = .ok (.isub, 1) := by decide +kernel
theorem dX4_standing_28 : decode cX4_standing 28 = .ok (.invokestatic 69, 3) := by decide +kernel
theorem dX4_standing_3 : decode cX4_standing 3 = .ok (.invokevirtual 53, 3) := by decide +kernel
theorem dX4_standing_31 : decode cX4_standing 31 = .ok (.ireturn, 1) := by decide +kernel
theorem dX4_standing_6 : decode cX4_standing 6 = .ok (.aload_n 0, 1) := by decide +kernel
theorem dX4_standing_7 : decode cX4_standing 7 = .ok (.getfield 28, 3) := by decide +kernel
theorem dX4_findForbiddenDay_0 : decode cX4_findForbiddenDay 0 = .ok (.iconst 0, 1) := by decide +kernel
theorem dX4_findForbiddenDay_1 : decode cX4_findForbiddenDay 1 = .ok (.istore_n 1, 1) := by decide +kernel
theorem dX4_findForbiddenDay_10 : decode cX4_findForbiddenDay 10 = .ok (.getfield 45, 3) := by decide +kernel
theorem dX4_findForbiddenDay_13 : decode cX4_findForbiddenDay 13 = .ok (.if_icmp .ge 71, 3) := by decide +kernel
theorem dX4_findForbiddenDay_2 : decode cX4_findForbiddenDay 2 = .ok (.iload_n 1, 1) := by decide +kernel
theorem dX4_findForbiddenDay_3 : decode cX4_findForbiddenDay 3 = .ok (.aload_n 0, 1) := by decide +kernel
theorem dX4_findForbiddenDay_4 : decode cX4_findForbiddenDay 4 = .ok (.getfield 28, 3) := by decide +kernel
theorem dX4_findForbiddenDay_7 : decode cX4_findForbiddenDay 7 = .ok (.getfield 39, 3) := by decide +kernel
theorem dX4_findForbiddenDay_84 : decode cX4_findForbiddenDay 84 = .ok (.return_, 1) := by decide +kernel
theorem dX4_findOtherNumber_0 : decode cX4_findOtherNumber 0 = .ok (.iconst 0, 1) := by decide +kernel
theorem dX4_findOtherNumber_1 : decode cX4_findOtherNumber 1 = .ok (.istore_n 1, 1) := by decide +kernel
theorem dX4_findOtherNumber_10 : decode cX4_findOtherNumber 10 = .ok (.getfield 45, 3) := by decide +kernel
theorem dX4_findOtherNumber_13 : decode cX4_findOtherNumber 13 = .ok (.if_icmp .ge 44, 3) := by decide +kernel
theorem dX4_findOtherNumber_2 : decode cX4_findOtherNumber 2 = .ok (.iload_n 1, 1) := by decide +kernel
theorem dX4_findOtherNumber_3 : decode cX4_findOtherNumber 3 = .ok (.aload_n 0, 1) := by decide +kernel
theorem dX4_findOtherNumber_4 : decode cX4_findOtherNumber 4 = .ok (.getfield 28, 3) := by decide +kernel
theorem dX4_findOtherNumber_57 : decode cX4_findOtherNumber 57 = .ok (.return_, 1) := by decide +kernel
theorem dX4_findOtherNumber_7 : decode cX4_findOtherNumber 7 = .ok (.getfield 39, 3) := by decide +kernel
theorem dX4_findStanding_0 : decode cX4_findStanding 0 = .ok (.iconst 0, 1) := by decide +kernel
theorem dX4_findStanding_1 : decode cX4_findStanding 1 = .ok (.istore_n 1, 1) := by decide +kernel
theorem dX4_findStanding_12 : decode cX4_findStanding 12 = .ok (.ifCond .le 14, 3) := by decide +kernel
theorem dX4_findStanding_2 : decode cX4_findStanding 2 = .ok (.iload_n 1, 1) := by decide +kernel
theorem dX4_findStanding_26 : decode cX4_findStanding 26 = .ok (.iinc 1 1, 3) := by decide +kernel
theorem dX4_findStanding_29 : decode cX4_findStanding 29 = .ok (.goto (-27), 3) := by decide +kernel
theorem dX4_findStanding_3 : decode cX4_findStanding 3 = .ok (.iconst 5, 1) := by decide +kernel
theorem dX4_findStanding_32 : decode cX4_findStanding 32 = .ok (.return_, 1) := by decide +kernel
theorem dX4_findStanding_4 : decode cX4_findStanding 4 = .ok (.if_icmp .ge 28, 3) := by decide +kernel
theorem dX4_findStanding_7 : decode cX4_findStanding 7 = .ok (.aload_n 0, 1) := by decide +kernel
theorem dX4_findStanding_8 : decode cX4_findStanding 8 = .ok (.iload_n 1, 1) := by decide +kernel
theorem dX4_findStanding_9 : decode cX4_findStanding 9 = .ok (.invokevirtual 101, 3) := by decide +kernel
theorem dX4_findTeamApart_0 : decode cX4_findTeamApart 0 = .ok (.iconst 0, 1) := by decide +kernel
theorem dX4_findTeamApart_1 : decode cX4_findTeamApart 1 = .ok (.istore_n 1, 1) := by decide +kernel
theorem dX4_findTeamApart_10 : decode cX4_findTeamApart 10 = .ok (.if_icmp .ge 57, 3) := by decide +kernel
theorem dX4_findTeamApart_2 : decode cX4_findTeamApart 2 = .ok (.iload_n 1, 1) := by decide +kernel
theorem dX4_findTeamApart_3 : decode cX4_findTeamApart 3 = .ok (.aload_n 0, 1) := by decide +kernel
theorem dX4_findTeamApart_4 : decode cX4_findTeamApart 4 = .ok (.getfield 28, 3) := by decide +kernel
theorem dX4_findTeamApart_67 : decode cX4_findTeamApart 67 = .ok (.return_, 1) := by decide +kernel
theorem dX4_findTeamApart_7 : decode cX4_findTeamApart 7 = .ok (.getfield 104, 3) := by decide +kernel
theorem dX4_examine_0 : decode cX4_examine 0 = .ok (.aload_n 0, 1) := by decide +kernel
theorem dX4_examine_1 : decode cX4_examine 1 = .ok (.iconst 0, 1) := by decide +kernel
theorem dX4_examine_10 : decode cX4_examine 10 = .ok (.aload_n 0, 1) := by decide +kernel
theorem dX4_examine_11 : decode cX4_examine 11 = .ok (.iconst (-1), 1) := by decide +kernel
theorem dX4_examine_12 : decode cX4_examine 12 = .ok (.putfield 22, 3) := by decide +kernel
theorem dX4_examine_15 : decode cX4_examine 15 = .ok (.aload_n 0, 1) := by decide +kernel
theorem dX4_examine_16 : decode cX4_examine 16 = .ok (.invokevirtual 78, 3) := by decide +kernel
theorem dX4_examine_19 : decode cX4_examine 19 = .ok (.aload_n 0, 1) := by decide +kernel
theorem dX4_examine_2 : decode cX4_examine 2 = .ok (.putfield 15, 3) := by decide +kernel
theorem dX4_examine_20 : decode cX4_examine 20 = .ok (.getfield 15, 3) := by decide +kernel
theorem dX4_examine_23 : decode cX4_examine 23 = .ok (.ifCond .ne 7, 3) := by decide +kernel
theorem dX4_examine_26 : decode cX4_examine 26 = .ok (.aload_n 0, 1) := by decide +kernel
theorem dX4_examine_27 : decode cX4_examine 27 = .ok (.invokevirtual 81, 3) := by decide +kernel
theorem dX4_examine_30 : decode cX4_examine 30 = .ok (.aload_n 0, 1) := by decide +kernel
theorem dX4_examine_31 : decode cX4_examine 31 = .ok (.getfield 15, 3) := by decide +kernel
theorem dX4_examine_34 : decode cX4_examine 34 = .ok (.ifCond .ne 7, 3) := by decide +kernel
theorem dX4_examine_37 : decode cX4_examine 37 = .ok (.aload_n 0, 1) := by decide +kernel
theorem dX4_examine_38 : decode cX4_examine 38 = .ok (.invokevirtual 84, 3) := by decide +kernel
theorem dX4_examine_41 : decode cX4_examine 41 = .ok (.aload_n 0, 1) := by decide +kernel
theorem dX4_examine_42 : decode cX4_examine 42 = .ok (.getfield 15, 3) := by decide +kernel
theorem dX4_examine_45 : decode cX4_examine 45 = .ok (.ifCond .ne 7, 3) := by decide +kernel
theorem dX4_examine_48 : decode cX4_examine 48 = .ok (.aload_n 0, 1) := by decide +kernel
theorem dX4_examine_49 : decode cX4_examine 49 = .ok (.invokevirtual 87, 3) := by decide +kernel
theorem dX4_examine_5 : decode cX4_examine 5 = .ok (.aload_n 0, 1) := by decide +kernel
theorem dX4_examine_52 : decode cX4_examine 52 = .ok (.return_, 1) := by decide +kernel
theorem dX4_examine_6 : decode cX4_examine 6 = .ok (.iconst (-1), 1) := by decide +kernel
theorem dX4_examine_7 : decode cX4_examine 7 = .ok (.putfield 19, 3) := by decide +kernel
theorem dX4_holds_0 : decode cX4_holds 0 = .ok (.aload_n 0, 1) := by decide +kernel
theorem dX4_holds_1 : decode cX4_holds 1 = .ok (.invokevirtual 75, 3) := by decide +kernel
theorem dX4_holds_11 : decode cX4_holds 11 = .ok (.iconst 1, 1) := by decide +kernel
theorem dX4_holds_12 : decode cX4_holds 12 = .ok (.goto 4, 3) := by decide +kernel
theorem dX4_holds_16 : decode cX4_holds 16 = .ok (.ireturn, 1) := by decide +kernel
theorem dX4_holds_4 : decode cX4_holds 4 = .ok (.aload_n 0, 1) := by decide +kernel
theorem dX4_holds_5 : decode cX4_holds 5 = .ok (.getfield 15, 3) := by decide +kernel
theorem dX4_holds_8 : decode cX4_holds 8 = .ok (.ifCond .ne 7, 3) := by decide +kernel
theorem dX4_tieWorth_0 : decode cX4_tieWorth 0 = .ok (.iconst 0, 1) := by decide +kernel
theorem dX4_tieWorth_1 : decode cX4_tieWorth 1 = .ok (.istore_n 1, 1) := by decide +kernel
theorem dX4_tieWorth_12 : decode cX4_tieWorth 12 = .ok (.if_icmp .ge 27, 3) := by decide +kernel
theorem dX4_tieWorth_2 : decode cX4_tieWorth 2 = .ok (.iconst 0, 1) := by decide +kernel
theorem dX4_tieWorth_3 : decode cX4_tieWorth 3 = .ok (.istore_n 2, 1) := by decide +kernel
theorem dX4_tieWorth_39 : decode cX4_tieWorth 39 = .ok (.iload_n 1, 1) := by decide +kernel
theorem dX4_tieWorth_4 : decode cX4_tieWorth 4 = .ok (.iload_n 2, 1) := by decide +kernel
theorem dX4_tieWorth_40 : decode cX4_tieWorth 40 = .ok (.ireturn, 1) := by decide +kernel
theorem dX4_tieWorth_5 : decode cX4_tieWorth 5 = .ok (.aload_n 0, 1) := by decide +kernel
theorem dX4_tieWorth_6 : decode cX4_tieWorth 6 = .ok (.getfield 28, 3) := by decide +kernel
theorem dX4_tieWorth_9 : decode cX4_tieWorth 9 = .ok (.getfield 127, 3) := by decide +kernel
theorem dX4_total_0 : decode cX4_total 0 = .ok (.aload_n 0, 1) := by decide +kernel
theorem dX4_total_1 : decode cX4_total 1 = .ok (.invokevirtual 136, 3) := by decide +kernel
theorem dX4_total_12 : decode cX4_total 12 = .ok (.aload_n 0, 1) := by decide +kernel
theorem dX4_total_13 : decode cX4_total 13 = .ok (.iload_n 2, 1) := by decide +kernel
theorem dX4_total_14 : decode cX4_total 14 = .ok (.invokevirtual 140, 3) := by decide +kernel
theorem dX4_total_17 : decode cX4_total 17 = .ok (.istore_n 3, 1) := by decide +kernel
theorem dX4_total_18 : decode cX4_total 18 = .ok (.iconst 0, 1) := by decide +kernel
theorem dX4_total_19 : decode cX4_total 19 = .ok (.istore 4, 2) := by decide +kernel
theorem dX4_total_21 : decode cX4_total 21 = .ok (.iload 4, 2) := by decide +kernel
theorem dX4_total_23 : decode cX4_total 23 = .ok (.aload_n 0, 1) := by decide +kernel
theorem dX4_total_24 : decode cX4_total 24 = .ok (.getfield 28, 3) := by decide +kernel
theorem dX4_total_27 : decode cX4_total 27 = .ok (.getfield 39, 3) := by decide +kernel
theorem dX4_total_30 : decode cX4_total 30 = .ok (.getfield 45, 3) := by decide +kernel
theorem dX4_total_33 : decode cX4_total 33 = .ok (.if_icmp .ge 48, 3) := by decide +kernel
theorem dX4_total_4 : decode cX4_total 4 = .ok (.istore_n 1, 1) := by decide +kernel
theorem dX4_total_5 : decode cX4_total 5 = .ok (.iconst 0, 1) := by decide +kernel
theorem dX4_total_6 : decode cX4_total 6 = .ok (.istore_n 2, 1) := by decide +kernel
theorem dX4_total_7 : decode cX4_total 7 = .ok (.iload_n 2, 1) := by decide +kernel
theorem dX4_total_8 : decode cX4_total 8 = .ok (.iconst 5, 1) := by decide +kernel
theorem dX4_total_81 : decode cX4_total 81 = .ok (.iinc 2 1, 3) := by decide +kernel
theorem dX4_total_84 : decode cX4_total 84 = .ok (.goto (-77), 3) := by decide +kernel
theorem dX4_total_87 : decode cX4_total 87 = .ok (.iload_n 1, 1) := by decide +kernel
theorem dX4_total_88 : decode cX4_total 88 = .ok (.ireturn, 1) := by decide +kernel
theorem dX4_total_9 : decode cX4_total 9 = .ok (.if_icmp .ge 78, 3) := by decide +kernel
theorem dX4_greatestUnmet_0 : decode cX4_greatestUnmet 0 = .ok (.iconst (-1), 1) := by decide +kernel
theorem dX4_greatestUnmet_1 : decode cX4_greatestUnmet 1 = .ok (.istore_n 1, 1) := by decide +kernel
theorem dX4_greatestUnmet_12 : decode cX4_greatestUnmet 12 = .ok (.if_icmp .ge 45, 3) := by decide +kernel
theorem dX4_greatestUnmet_2 : decode cX4_greatestUnmet 2 = .ok (.iconst 0, 1) := by decide +kernel
theorem dX4_greatestUnmet_3 : decode cX4_greatestUnmet 3 = .ok (.istore_n 2, 1) := by decide +kernel
theorem dX4_greatestUnmet_4 : decode cX4_greatestUnmet 4 = .ok (.iload_n 2, 1) := by decide +kernel
theorem dX4_greatestUnmet_5 : decode cX4_greatestUnmet 5 = .ok (.aload_n 0, 1) := by decide +kernel
theorem dX4_greatestUnmet_57 : decode cX4_greatestUnmet 57 = .ok (.iload_n 1, 1) := by decide +kernel
theorem dX4_greatestUnmet_58 : decode cX4_greatestUnmet 58 = .ok (.ireturn, 1) := by decide +kernel
theorem dX4_greatestUnmet_6 : decode cX4_greatestUnmet 6 = .ok (.getfield 28, 3) := by decide +kernel
theorem dX4_greatestUnmet_9 : decode cX4_greatestUnmet 9 = .ok (.getfield 127, 3) := by decide +kernel
theorem dX4_unmetTies_0 : decode cX4_unmetTies 0 = .ok (.iconst 0, 1) := by decide +kernel
theorem dX4_unmetTies_1 : decode cX4_unmetTies 1 = .ok (.istore_n 1, 1) := by decide +kernel
theorem dX4_unmetTies_12 : decode cX4_unmetTies 12 = .ok (.if_icmp .ge 20, 3) := by decide +kernel
theorem dX4_unmetTies_2 : decode cX4_unmetTies 2 = .ok (.iconst 0, 1) := by decide +kernel
theorem dX4_unmetTies_3 : decode cX4_unmetTies 3 = .ok (.istore_n 2, 1) := by decide +kernel
theorem dX4_unmetTies_32 : decode cX4_unmetTies 32 = .ok (.iload_n 1, 1) := by decide +kernel
theorem dX4_unmetTies_33 : decode cX4_unmetTies 33 = .ok (.ireturn, 1) := by decide +kernel
theorem dX4_unmetTies_4 : decode cX4_unmetTies 4 = .ok (.iload_n 2, 1) := by decide +kernel
theorem dX4_unmetTies_5 : decode cX4_unmetTies 5 = .ok (.aload_n 0, 1) := by decide +kernel
theorem dX4_unmetTies_6 : decode cX4_unmetTies 6 = .ok (.getfield 28, 3) := by decide +kernel
theorem dX4_unmetTies_9 : decode cX4_unmetTies 9 = .ok (.getfield 127, 3) := by decide +kernel
theorem dX4_lonelyPersons_0 : decode cX4_lonelyPersons 0 = .ok (.iconst 0, 1) := by decide +kernel
theorem dX4_lonelyPersons_1 : decode cX4_lonelyPersons 1 = .ok (.istore_n 1, 1) := by decide +kernel
theorem dX4_lonelyPersons_12 : decode cX4_lonelyPersons 12 = .ok (.getfield 45, 3) := by decide +kernel
theorem dX4_lonelyPersons_15 : decode cX4_lonelyPersons 15 = .ok (.if_icmp .ge 20, 3) := by decide +kernel
theorem dX4_lonelyPersons_2 : decode cX4_lonelyPersons 2 = .ok (.iconst 0, 1) := by decide +kernel
theorem dX4_lonelyPersons_3 : decode cX4_lonelyPersons 3 = .ok (.istore_n 2, 1) := by decide +kernel
theorem dX4_lonelyPersons_35 : decode cX4_lonelyPersons 35 = .ok (.iload_n 1, 1) := by decide +kernel
theorem dX4_lonelyPersons_36 : decode cX4_lonelyPersons 36 = .ok (.ireturn, 1) := by decide +kernel
theorem dX4_lonelyPersons_4 : decode cX4_lonelyPersons 4 = .ok (.iload_n 2, 1) := by decide +kernel
theorem dX4_lonelyPersons_5 : decode cX4_lonelyPersons 5 = .ok (.aload_n 0, 1) := by decide +kernel
theorem dX4_lonelyPersons_6 : decode cX4_lonelyPersons 6 = .ok (.getfield 28, 3) := by decide +kernel
theorem dX4_lonelyPersons_9 : decode cX4_lonelyPersons 9 = .ok (.getfield 39, 3) := by decide +kernel
theorem dX4_goRound_0 : decode cX4_goRound 0 = .ok (.iconst 0, 1) := by decide +kernel
theorem dX4_goRound_1 : decode cX4_goRound 1 = .ok (.istore_n 1, 1) := by decide +kernel
theorem dX4_goRound_12 : decode cX4_goRound 12 = .ok (.getfield 45, 3) := by decide +kernel
theorem dX4_goRound_15 : decode cX4_goRound 15 = .ok (.if_icmp .ge 34, 3) := by decide +kernel
theorem dX4_goRound_2 : decode cX4_goRound 2 = .ok (.iconst 0, 1) := by decide +kernel
theorem dX4_goRound_3 : decode cX4_goRound 3 = .ok (.istore_n 2, 1) := by decide +kernel
theorem dX4_goRound_4 : decode cX4_goRound 4 = .ok (.iload_n 2, 1) := by decide +kernel
theorem dX4_goRound_49 : decode cX4_goRound 49 = .ok (.iload_n 1, 1) := by decide +kernel
theorem dX4_goRound_5 : decode cX4_goRound 5 = .ok (.aload_n 0, 1) := by decide +kernel
theorem dX4_goRound_50 : decode cX4_goRound 50 = .ok (.ireturn, 1) := by decide +kernel
theorem dX4_goRound_6 : decode cX4_goRound 6 = .ok (.getfield 28, 3) := by decide +kernel
theorem dX4_goRound_9 : decode cX4_goRound 9 = .ok (.getfield 39, 3) := by decide +kernel
theorem dX4_unmetWithin_0 : decode cX4_unmetWithin 0 = .ok (.iconst 0, 1) := by decide +kernel
theorem dX4_unmetWithin_1 : decode cX4_unmetWithin 1 = .ok (.istore_n 2, 1) := by decide +kernel
theorem dX4_unmetWithin_12 : decode cX4_unmetWithin 12 = .ok (.if_icmp .ge 81, 3) := by decide +kernel
theorem dX4_unmetWithin_2 : decode cX4_unmetWithin 2 = .ok (.iconst 0, 1) := by decide +kernel
theorem dX4_unmetWithin_3 : decode cX4_unmetWithin 3 = .ok (.istore_n 3, 1) := by decide +kernel
theorem dX4_unmetWithin_4 : decode cX4_unmetWithin 4 = .ok (.iload_n 3, 1) := by decide +kernel
theorem dX4_unmetWithin_5 : decode cX4_unmetWithin 5 = .ok (.aload_n 0, 1) := by decide +kernel
theorem dX4_unmetWithin_6 : decode cX4_unmetWithin 6 = .ok (.getfield 28, 3) := by decide +kernel
theorem dX4_unmetWithin_9 : decode cX4_unmetWithin 9 = .ok (.getfield 127, 3) := by decide +kernel
theorem dX4_unmetWithin_93 : decode cX4_unmetWithin 93 = .ok (.iload_n 2, 1) := by decide +kernel
theorem dX4_unmetWithin_94 : decode cX4_unmetWithin 94 = .ok (.ireturn, 1) := by decide +kernel
theorem dX8_settle_0 : decode cX8_settle 0 = .ok (.aload_n 0, 1) := by decide +kernel
theorem dX8_settle_1 : decode cX8_settle 1 = .ok (.getfield 18, 3) := by decide +kernel
theorem dX8_settle_10 : decode cX8_settle 10 = .ok (.iload_n 3, 1) := by decide +kernel
theorem dX8_settle_102 : decode cX8_settle 102 = .ok (.iconst 0, 1) := by decide +kernel
theorem dX8_settle_103 : decode cX8_settle 103 = .ok (.istore_n 3, 1) := by decide +kernel
theorem dX8_settle_104 : decode cX8_settle 104 = .ok (.iload_n 3, 1) := by decide +kernel
theorem dX8_settle_105 : decode cX8_settle 105 = .ok (.aload_n 2, 1) := by decide +kernel
theorem dX8_settle_106 : decode cX8_settle 106 = .ok (.getfield 46, 3) := by decide +kernel
theorem dX8_settle_109 : decode cX8_settle 109 = .ok (.getfield 50, 3) := by decide +kernel
theorem dX8_settle_11 : decode cX8_settle 11 = .ok (.aload_n 2, 1) := by decide +kernel
theorem dX8_settle_112 : decode cX8_settle 112 = .ok (.if_icmp .ge 39, 3) := by decide +kernel
theorem dX8_settle_12 : decode cX8_settle 12 = .ok (.getfield 28, 3) := by decide +kernel
theorem dX8_settle_15 : decode cX8_settle 15 = .ok (.getfield 34, 3) := by decide +kernel
theorem dX8_settle_151 : decode cX8_settle 151 = .ok (.return_, 1) := by decide +kernel
theorem dX8_settle_18 : decode cX8_settle 18 = .ok (.if_icmp .ge 34, 3) := by decide +kernel
theorem dX8_settle_4 : decode cX8_settle 4 = .ok (.getfield 22, 3) := by decide +kernel
theorem dX8_settle_52 : decode cX8_settle 52 = .ok (.iconst 0, 1) := by decide +kernel
theorem dX8_settle_53 : decode cX8_settle 53 = .ok (.istore_n 3, 1) := by decide +kernel
theorem dX8_settle_54 : decode cX8_settle 54 = .ok (.iload_n 3, 1) := by decide +kernel
theorem dX8_settle_55 : decode cX8_settle 55 = .ok (.aload_n 2, 1) := by decide +kernel
theorem dX8_settle_56 : decode cX8_settle 56 = .ok (.getfield 46, 3) := by decide +kernel
theorem dX8_settle_59 : decode cX8_settle 59 = .ok (.getfield 50, 3) := by decide +kernel
theorem dX8_settle_62 : decode cX8_settle 62 = .ok (.if_icmp .ge 40, 3) := by decide +kernel
theorem dX8_settle_7 : decode cX8_settle 7 = .ok (.astore_n 2, 1) := by decide +kernel
theorem dX8_settle_8 : decode cX8_settle 8 = .ok (.iconst 0, 1) := by decide +kernel
theorem dX8_settle_9 : decode cX8_settle 9 = .ok (.istore_n 3, 1) := by decide +kernel
theorem dX8_fitNow_0 : decode cX8_fitNow 0 = .ok (.aload_n 0, 1) := by decide +kernel
theorem dX8_fitNow_1 : decode cX8_fitNow 1 = .ok (.getfield 18, 3) := by decide +kernel
theorem dX8_fitNow_10 : decode cX8_fitNow 10 = .ok (.iconst 0, 1) := by decide +kernel
theorem dX8_fitNow_11 : decode cX8_fitNow 11 = .ok (.istore_n 3, 1) := by decide +kernel
theorem dX8_fitNow_116 : decode cX8_fitNow 116 = .ok (.iload_n 2, 1) := by decide +kernel
theorem dX8_fitNow_117 : decode cX8_fitNow 117 = .ok (.ireturn, 1) := by decide +kernel
theorem dX8_fitNow_12 : decode cX8_fitNow 12 = .ok (.iload_n 3, 1) := by decide +kernel
theorem dX8_fitNow_13 : decode cX8_fitNow 13 = .ok (.aload_n 1, 1) := by decide +kernel
theorem dX8_fitNow_14 : decode cX8_fitNow 14 = .ok (.getfield 71, 3) := by decide +kernel
theorem dX8_fitNow_17 : decode cX8_fitNow 17 = .ok (.if_icmp .ge 53, 3) := by decide +kernel
theorem dX8_fitNow_4 : decode cX8_fitNow 4 = .ok (.getfield 22, 3) := by decide +kernel
theorem dX8_fitNow_7 : decode cX8_fitNow 7 = .ok (.astore_n 1, 1) := by decide +kernel
theorem dX8_fitNow_70 : decode cX8_fitNow 70 = .ok (.iconst 0, 1) := by decide +kernel
theorem dX8_fitNow_71 : decode cX8_fitNow 71 = .ok (.istore_n 3, 1) := by decide +kernel
theorem dX8_fitNow_72 : decode cX8_fitNow 72 = .ok (.iload_n 3, 1) := by decide +kernel
theorem dX8_fitNow_73 : decode cX8_fitNow 73 = .ok (.aload_n 1, 1) := by decide +kernel
theorem dX8_fitNow_74 : decode cX8_fitNow 74 = .ok (.getfield 46, 3) := by decide +kernel
theorem dX8_fitNow_77 : decode cX8_fitNow 77 = .ok (.getfield 50, 3) := by decide +kernel
theorem dX8_fitNow_8 : decode cX8_fitNow 8 = .ok (.iconst 0, 1) := by decide +kernel
theorem dX8_fitNow_80 : decode cX8_fitNow 80 = .ok (.if_icmp .ge 36, 3) := by decide +kernel
theorem dX8_fitNow_9 : decode cX8_fitNow 9 = .ok (.istore_n 2, 1) := by decide +kernel
theorem dX8_exchangeFirst_0 : decode cX8_exchangeFirst 0 = .ok (.aload_n 0, 1) := by decide +kernel
theorem dX8_exchangeFirst_1 : decode cX8_exchangeFirst 1 = .ok (.invokevirtual 87, 3) := by decide +kernel
theorem dX8_exchangeFirst_110 : decode cX8_exchangeFirst 110 = .ok (.iconst 0, 1) := by decide +kernel
theorem dX8_exchangeFirst_111 : decode cX8_exchangeFirst 111 = .ok (.ireturn, 1) := by decide +kernel
theorem dX8_exchangeFirst_12 : decode cX8_exchangeFirst 12 = .ok (.getfield 22, 3) := by decide +kernel
theorem dX8_exchangeFirst_15 : decode cX8_exchangeFirst 15 = .ok (.getfield 46, 3) := by decide +kernel
theorem dX8_exchangeFirst_18 : decode cX8_exchangeFirst 18 = .ok (.getfield 50, 3) := by decide +kernel
theorem dX8_exchangeFirst_21 : decode cX8_exchangeFirst 21 = .ok (.if_icmp .ge 89, 3) := by decide +kernel
theorem dX8_exchangeFirst_4 : decode cX8_exchangeFirst 4 = .ok (.istore_n 1, 1) := by decide +kernel
theorem dX8_exchangeFirst_5 : decode cX8_exchangeFirst 5 = .ok (.iconst 0, 1) := by decide +kernel
theorem dX8_exchangeFirst_6 : decode cX8_exchangeFirst 6 = .ok (.istore_n 2, 1) := by decide +kernel
theorem dX8_exchangeFirst_7 : decode cX8_exchangeFirst 7 = .ok (.iload_n 2, 1) := by decide +kernel
theorem dX8_exchangeFirst_8 : decode cX8_exchangeFirst 8 = .ok (.aload_n 0, 1) := by decide +kernel
theorem dX8_exchangeFirst_9 : decode cX8_exchangeFirst 9 = .ok (.getfield 18, 3) := by decide +kernel
theorem dX8_exchangeAll_0 : decode cX8_exchangeAll 0 = .ok (.iconst 0, 1) := by decide +kernel
theorem dX8_exchangeAll_1 : decode cX8_exchangeAll 1 = .ok (.istore_n 1, 1) := by decide +kernel
theorem dX8_exchangeAll_12 : decode cX8_exchangeAll 12 = .ok (.ifCond .ne 5, 3) := by decide +kernel
theorem dX8_exchangeAll_15 : decode cX8_exchangeAll 15 = .ok (.iload_n 1, 1) := by decide +kernel
theorem dX8_exchangeAll_16 : decode cX8_exchangeAll 16 = .ok (.ireturn, 1) := by decide +kernel
theorem dX8_exchangeAll_2 : decode cX8_exchangeAll 2 = .ok (.iload_n 1, 1) := by decide +kernel
theorem dX8_exchangeAll_3 : decode cX8_exchangeAll 3 = .ok (.bipush 50, 2) := by decide +kernel
theorem dX8_exchangeAll_5 : decode cX8_exchangeAll 5 = .ok (.if_icmp .ge 18, 3) := by decide +kernel
theorem dX8_exchangeAll_8 : decode cX8_exchangeAll 8 = .ok (.aload_n 0, 1) := by decide +kernel
theorem dX8_exchangeAll_9 : decode cX8_exchangeAll 9 = .ok (.invokevirtual 83, 3) := by decide +kernel
theorem dX8_dearestToShut_0 : decode cX8_dearestToShut 0 = .ok (.aload_n 0, 1) := by decide +kernel
theorem dX8_dearestToShut_1 : decode cX8_dearestToShut 1 = .ok (.getfield 18, 3) := by decide +kernel
theorem dX8_dearestToShut_12 : decode cX8_dearestToShut 12 = .ok (.getfield 99, 3) := by decide +kernel
theorem dX8_dearestToShut_133 : decode cX8_dearestToShut 133 = .ok (.iload 5, 2) := by decide +kernel
theorem dX8_dearestToShut_135 : decode cX8_dearestToShut 135 = .ok (.ireturn, 1) := by decide +kernel
theorem dX8_dearestToShut_15 : decode cX8_dearestToShut 15 = .ok (.aload_n 2, 1) := by decide +kernel
theorem dX8_dearestToShut_16 : decode cX8_dearestToShut 16 = .ok (.getfield 28, 3) := by decide +kernel
theorem dX8_dearestToShut_19 : decode cX8_dearestToShut 19 = .ok (.getfield 102, 3) := by decide +kernel
theorem dX8_dearestToShut_22 : decode cX8_dearestToShut 22 = .ok (.isub, 1) := by decide +kernel
theorem dX8_dearestToShut_23 : decode cX8_dearestToShut 23 = .ok (.istore_n 3, 1) := by decide +kernel
theorem dX8_dearestToShut_24 : decode cX8_dearestToShut 24 = .ok (.aload_n 0, 1) := by decide +kernel
theorem dX8_dearestToShut_25 : decode cX8_dearestToShut 25 = .ok (.getfield 18, 3) := by decide +kernel
theorem dX8_dearestToShut_28 : decode cX8_dearestToShut 28 = .ok (.iload_n 1, 1) := by decide +kernel
theorem dX8_dearestToShut_29 : decode cX8_dearestToShut 29 = .ok (.invokevirtual 105, 3) := by decide +kernel
theorem dX8_dearestToShut_32 : decode cX8_dearestToShut 32 = .ok (.istore 4, 2) := by decide +kernel
theorem dX8_dearestToShut_34 : decode cX8_dearestToShut 34 = .ok (.iconst (-1), 1) := by decide +kernel
theorem dX8_dearestToShut_35 : decode cX8_dearestToShut 35 = .ok (.istore 5, 2) := by decide +kernel
theorem dX8_dearestToShut_37 : decode cX8_dearestToShut 37 = .ok (.iconst 0, 1) := by decide +kernel
theorem dX8_dearestToShut_38 : decode cX8_dearestToShut 38 = .ok (.istore 6, 2) := by decide +kernel
theorem dX8_dearestToShut_4 : decode cX8_dearestToShut 4 = .ok (.getfield 22, 3) := by decide +kernel
theorem dX8_dearestToShut_40 : decode cX8_dearestToShut 40 = .ok (.iload 6, 2) := by decide +kernel
theorem dX8_dearestToShut_42 : decode cX8_dearestToShut 42 = .ok (.aload_n 2, 1) := by decide +kernel
theorem dX8_dearestToShut_43 : decode cX8_dearestToShut 43 = .ok (.getfield 28, 3) := by decide +kernel
theorem dX8_dearestToShut_46 : decode cX8_dearestToShut 46 = .ok (.getfield 34, 3) := by decide +kernel
theorem dX8_dearestToShut_49 : decode cX8_dearestToShut 49 = .ok (.if_icmp .ge 84, 3) := by decide +kernel
theorem dX8_dearestToShut_7 : decode cX8_dearestToShut 7 = .ok (.astore_n 2, 1) := by decide +kernel
theorem dX8_dearestToShut_8 : decode cX8_dearestToShut 8 = .ok (.aload_n 2, 1) := by decide +kernel
theorem dX8_dearestToShut_9 : decode cX8_dearestToShut 9 = .ok (.getfield 28, 3) := by decide +kernel
theorem dX11_areSets_0 : decode cX11_areSets 0 = .ok (.aload_n 0, 1) := by decide +kernel
theorem dX11_areSets_1 : decode cX11_areSets 1 = .ok (.getfield 43, 3) := by decide +kernel
theorem dX11_areSets_10 : decode cX11_areSets 10 = .ok (.getfield 143, 3) := by decide +kernel
theorem dX11_areSets_13 : decode cX11_areSets 13 = .ok (.istore_n 2, 1) := by decide +kernel
theorem dX11_areSets_14 : decode cX11_areSets 14 = .ok (.iconst 0, 1) := by decide +kernel
theorem dX11_areSets_15 : decode cX11_areSets 15 = .ok (.istore_n 3, 1) := by decide +kernel
theorem dX11_areSets_16 : decode cX11_areSets 16 = .ok (.iload_n 3, 1) := by decide +kernel
theorem dX11_areSets_17 : decode cX11_areSets 17 = .ok (.iload_n 2, 1) := by decide +kernel
theorem dX11_areSets_18 : decode cX11_areSets 18 = .ok (.if_icmp .ge 37, 3) := by decide +kernel
theorem dX11_areSets_4 : decode cX11_areSets 4 = .ok (.getfield 121, 3) := by decide +kernel
theorem dX11_areSets_55 : decode cX11_areSets 55 = .ok (.iconst 1, 1) := by decide +kernel
theorem dX11_areSets_56 : decode cX11_areSets 56 = .ok (.ireturn, 1) := by decide +kernel
theorem dX11_areSets_7 : decode cX11_areSets 7 = .ok (.getfield 139, 3) := by decide +kernel
theorem dX11_takeSets_0 : decode cX11_takeSets 0 = .ok (.aload_n 0, 1) := by decide +kernel
theorem dX11_takeSets_1 : decode cX11_takeSets 1 = .ok (.getfield 43, 3) := by decide +kernel
theorem dX11_takeSets_10 : decode cX11_takeSets 10 = .ok (.getfield 143, 3) := by decide +kernel
theorem dX11_takeSets_13 : decode cX11_takeSets 13 = .ok (.istore_n 2, 1) := by decide +kernel
theorem dX11_takeSets_14 : decode cX11_takeSets 14 = .ok (.iconst 0, 1) := by decide +kernel
theorem dX11_takeSets_15 : decode cX11_takeSets 15 = .ok (.istore_n 3, 1) := by decide +kernel
theorem dX11_takeSets_16 : decode cX11_takeSets 16 = .ok (.iload_n 3, 1) := by decide +kernel
theorem dX11_takeSets_17 : decode cX11_takeSets 17 = .ok (.iload_n 2, 1) := by decide +kernel
theorem dX11_takeSets_18 : decode cX11_takeSets 18 = .ok (.if_icmp .ge 37, 3) := by decide +kernel
theorem dX11_takeSets_4 : decode cX11_takeSets 4 = .ok (.getfield 121, 3) := by decide +kernel
theorem dX11_takeSets_55 : decode cX11_takeSets 55 = .ok (.return_, 1) := by decide +kernel
theorem dX11_takeSets_7 : decode cX11_takeSets 7 = .ok (.getfield 139, 3) := by decide +kernel
