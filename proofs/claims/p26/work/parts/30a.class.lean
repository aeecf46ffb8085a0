theorem mlX11_169 : Cond.methodLink RX11 169 yX11_isBelow ∈ tb := tb_at 890 (by decide +kernel)
theorem kmS_X11_isBelow : KmS yX11_isBelow cX11_isBelow 2 (some .boolean) 2 := ⟨tb_at (w := Cond.code yX11_isBelow cX11_isBelow 2 (some .boolean)) 892 (by decide +kernel), tb_at (w := Cond.initialized RX11) 148 (by decide +kernel), tb_at (w := Cond.static yX11_isBelow) 891 (by decide +kernel), ⟨by decide +kernel, by decide +kernel, by decide +kernel⟩⟩
theorem flX11_43 : Cond.fieldLink RX11 43 (TX11 4).1 (TX11 4).2.1 (TX11 4).2.2.1 ∈ tb := tb_at 665 (by decide +kernel)
theorem flX11_121 : Cond.fieldLink RX11 121 (TX4 0).1 (TX4 0).2.1 (TX4 0).2.2.1 ∈ tb := tb_at 583 (by decide +kernel)
theorem flX11_139 : Cond.fieldLink RX11 139 (TX2 1).1 (TX2 1).2.1 (TX2 1).2.2.1 ∈ tb := tb_at 361 (by decide +kernel)
theorem flX11_143 : Cond.fieldLink RX11 143 (TX3 0).1 (TX3 0).2.1 (TX3 0).2.2.1 ∈ tb := tb_at 251 (by decide +kernel)
theorem mlX11_184 : Cond.methodLink RX11 184 yX11_isPerson ∈ tb := tb_at 1054 (by decide +kernel)
theorem kmV_X11_isPerson : KmV yX11_isPerson cX11_isPerson 2 (some .boolean) 1 := ⟨tb_at (w := Cond.code yX11_isPerson cX11_isPerson 2 (some .boolean)) 1057 (by decide +kernel), tb_at (w := Cond.initialized RX11) 148 (by decide +kernel), tb_at (w := Cond.instanceMethod yX11_isPerson) 1056 (by decide +kernel), tb_at (w := Cond.selects yX11_isPerson.cls yX11_isPerson yX11_isPerson) 37 (by decide +kernel), ⟨by decide +kernel, by decide +kernel, by decide +kernel⟩⟩
theorem flX11_86 : Cond.fieldLink RX11 86 (TX11 13).1 (TX11 13).2.1 (TX11 13).2.2.1 ∈ tb := tb_at 674 (by decide +kernel)
theorem flX2_32 : Cond.fieldLink RX2 32 (TX2 3).1 (TX2 3).2.1 (TX2 3).2.2.1 ∈ tb := tb_at 366 (by decide +kernel)
theorem flX2_47 : Cond.fieldLink RX2 47 (TX2 7).1 (TX2 7).2.1 (TX2 7).2.2.1 ∈ tb := tb_at 379 (by decide +kernel)
theorem flX4_28 : Cond.fieldLink RX4 28 (TX4 0).1 (TX4 0).2.1 (TX4 0).2.2.1 ∈ tb := tb_at 579 (by decide +kernel)
theorem flX4_39 : Cond.fieldLink RX4 39 (TX2 1).1 (TX2 1).2.1 (TX2 1).2.2.1 ∈ tb := tb_at 358 (by decide +kernel)
theorem flX4_45 : Cond.fieldLink RX4 45 (TX3 0).1 (TX3 0).2.1 (TX3 0).2.2.1 ∈ tb := tb_at 248 (by decide +kernel)
theorem mlX4_53 : Cond.methodLink RX4 53 yX4_inWithoutOwn ∈ tb := tb_at 1091 (by decide +kernel)
theorem kmV_X4_inWithoutOwn : KmV yX4_inWithoutOwn cX4_inWithoutOwn 4 (some .int) 1 := ⟨tb_at (w := Cond.code yX4_inWithoutOwn cX4_inWithoutOwn 4 (some .int)) 1094 (by decide +kernel), tb_at (w := Cond.initialized RX4) 160 (by decide +kernel), tb_at (w := Cond.instanceMethod yX4_inWithoutOwn) 1092 (by decide +kernel), tb_at (w := Cond.selects yX4_inWithoutOwn.cls yX4_inWithoutOwn yX4_inWithoutOwn) 1093 (by decide +kernel), ⟨by decide +kernel, by decide +kernel, by decide +kernel⟩⟩
theorem flX4_57 : Cond.fieldLink RX4 57 (TX2 0).1 (TX2 0).2.1 (TX2 0).2.2.1 ∈ tb := tb_at 353 (by decide +kernel)
theorem flX4_61 : Cond.fieldLink RX4 61 (TX1 1).1 (TX1 1).2.1 (TX1 1).2.2.1 ∈ tb := tb_at 195 (by decide +kernel)
theorem flX4_66 : Cond.fieldLink RX4 66 (TX1 2).1 (TX1 2).2.1 (TX1 2).2.2.1 ∈ tb := tb_at 199 (by decide +kernel)
theorem mmX4_max : Cond.methodLink RX4 69 Lib.Math.max.name ∈ tb := tb_at 1095 (by decide +kernel)
theorem mms_max : Cond.static Lib.Math.max.name ∈ tb := tb_at 748 (by decide +kernel)
theorem ini_J9 : Cond.initialized RJ9 ∈ tb := tb_at 166 (by decide +kernel)
theorem mmc_max : Cond.code Lib.Math.max.name Lib.Math.max.code 2 (some .int) ∈ tb := tb_at 749 (by decide +kernel)
theorem kmV_X4_standing : KmV yX4_standing cX4_standing 2 (some .int) 1 := ⟨tb_at (w := Cond.code yX4_standing cX4_standing 2 (some .int)) 1090 (by decide +kernel), tb_at (w := Cond.initialized RX4) 160 (by decide +kernel), tb_at (w := Cond.instanceMethod yX4_standing) 1088 (by decide +kernel), tb_at (w := Cond.selects yX4_standing.cls yX4_standing yX4_standing) 1089 (by decide +kernel), ⟨by decide +kernel, by decide +kernel, by decide +kernel⟩⟩
theorem flX4_127 : Cond.fieldLink RX4 127 (TX2 7).1 (TX2 7).2.1 (TX2 7).2.2.1 ∈ tb := tb_at 383 (by decide +kernel)
theorem kmV_X4_tieWorth : KmV yX4_tieWorth cX4_tieWorth 3 (some .int) 0 := ⟨tb_at (w := Cond.code yX4_tieWorth cX4_tieWorth 3 (some .int)) 1145 (by decide +kernel), tb_at (w := Cond.initialized RX4) 160 (by decide +kernel), tb_at (w := Cond.instanceMethod yX4_tieWorth) 1143 (by decide +kernel), tb_at (w := Cond.selects yX4_tieWorth.cls yX4_tieWorth yX4_tieWorth) 1144 (by decide +kernel), ⟨by decide +kernel, by decide +kernel, by decide +kernel⟩⟩
theorem kmV_X4_inCount : KmV yX4_inCount cX4_inCount 4 (some .int) 1 := ⟨tb_at (w := Cond.code yX4_inCount cX4_inCount 4 (some .int)) 1086 (by decide +kernel), tb_at (w := Cond.initialized RX4) 160 (by decide +kernel), tb_at (w := Cond.instanceMethod yX4_inCount) 1084 (by decide +kernel), tb_at (w := Cond.selects yX4_inCount.cls yX4_inCount yX4_inCount) 1085 (by decide +kernel), ⟨by decide +kernel, by decide +kernel, by decide +kernel⟩⟩
theorem flX8_18 : Cond.fieldLink RX8 18 (TX8 0).1 (TX8 0).2.1 (TX8 0).2.2.1 ∈ tb := tb_at 636 (by decide +kernel)
theorem flX8_22 : Cond.fieldLink RX8 22 (TX4 0).1 (TX4 0).2.1 (TX4 0).2.2.1 ∈ tb := tb_at 581 (by decide +kernel)
theorem flX8_28 : Cond.fieldLink RX8 28 (TX2 0).1 (TX2 0).2.1 (TX2 0).2.2.1 ∈ tb := tb_at 351 (by decide +kernel)
theorem flX8_34 : Cond.fieldLink RX8 34 (TX1 0).1 (TX1 0).2.1 (TX1 0).2.2.1 ∈ tb := tb_at 190 (by decide +kernel)
theorem flX8_46 : Cond.fieldLink RX8 46 (TX2 1).1 (TX2 1).2.1 (TX2 1).2.2.1 ∈ tb := tb_at 357 (by decide +kernel)
theorem flX8_50 : Cond.fieldLink RX8 50 (TX3 0).1 (TX3 0).2.1 (TX3 0).2.2.1 ∈ tb := tb_at 247 (by decide +kernel)
theorem flX8_71 : Cond.fieldLink RX8 71 (TX2 7).1 (TX2 7).2.1 (TX2 7).2.2.1 ∈ tb := tb_at 380 (by decide +kernel)
theorem flX8_99 : Cond.fieldLink RX8 99 (TX1 1).1 (TX1 1).2.1 (TX1 1).2.2.1 ∈ tb := tb_at 197 (by decide +kernel)
theorem flX8_102 : Cond.fieldLink RX8 102 (TX1 2).1 (TX1 2).2.1 (TX1 2).2.2.1 ∈ tb := tb_at 201 (by decide +kernel)
theorem mlX8_105 : Cond.methodLink RX8 105 yX4_inWithoutOwn ∈ tb := tb_at 1445 (by decide +kernel)
theorem flX11_70 : Cond.fieldLink RX11 70 (TX11 8).1 (TX11 8).2.1 (TX11 8).2.2.1 ∈ tb := tb_at 669 (by decide +kernel)
theorem flX11_73 : Cond.fieldLink RX11 73 (TX11 9).1 (TX11 9).2.1 (TX11 9).2.2.1 ∈ tb := tb_at 670 (by decide +kernel)
theorem flX11_129 : Cond.fieldLink RX11 129 (TX2 0).1 (TX2 0).2.1 (TX2 0).2.2.1 ∈ tb := tb_at 354 (by decide +kernel)
theorem flX11_133 : Cond.fieldLink RX11 133 (TX1 0).1 (TX1 0).2.1 (TX1 0).2.2.1 ∈ tb := tb_at 193 (by decide +kernel)
theorem flX11_136 : Cond.fieldLink RX11 136 (TX2 3).1 (TX2 3).2.1 (TX2 3).2.2.1 ∈ tb := tb_at 368 (by decide +kernel)
theorem flX11_146 : Cond.fieldLink RX11 146 (TX2 7).1 (TX2 7).2.1 (TX2 7).2.2.1 ∈ tb := tb_at 381 (by decide +kernel)
theorem flX11_149 : Cond.fieldLink RX11 149 (TX1 1).1 (TX1 1).2.1 (TX1 1).2.2.1 ∈ tb := tb_at 196 (by decide +kernel)
theorem flX11_152 : Cond.fieldLink RX11 152 (TX1 2).1 (TX1 2).2.1 (TX1 2).2.2.1 ∈ tb := tb_at 200 (by decide +kernel)
theorem flX11_155 : Cond.fieldLink RX11 155 (TX2 2).1 (TX2 2).2.1 (TX2 2).2.2.1 ∈ tb := tb_at 364 (by decide +kernel)
theorem flX11_159 : Cond.fieldLink RX11 159 (TX7 0).1 (TX7 0).2.1 (TX7 0).2.2.1 ∈ tb := tb_at 324 (by decide +kernel)
theorem flX11_162 : Cond.fieldLink RX11 162 (TX2 13).1 (TX2 13).2.1 (TX2 13).2.2.1 ∈ tb := tb_at 402 (by decide +kernel)
theorem mlX11_165 : Cond.methodLink RX11 165 yX2_meetingTeams ∈ tb := tb_at 1039 (by decide +kernel)
theorem kmV_X2_meetingTeams : KmV yX2_meetingTeams cX2_meetingTeams 3 (some .int) 0 := ⟨tb_at (w := Cond.code yX2_meetingTeams cX2_meetingTeams 3 (some .int)) 1042 (by decide +kernel), tb_at (w := Cond.initialized RX2) 149 (by decide +kernel), tb_at (w := Cond.instanceMethod yX2_meetingTeams) 1040 (by decide +kernel), tb_at (w := Cond.selects yX2_meetingTeams.cls yX2_meetingTeams yX2_meetingTeams) 1041 (by decide +kernel), ⟨by decide +kernel, by decide +kernel, by decide +kernel⟩⟩
theorem flX11_13 : Cond.fieldLink RX11 13 (TX11 1).1 (TX11 1).2.1 (TX11 1).2.2.1 ∈ tb := tb_at 662 (by decide +kernel)
theorem mlX11_224 : Cond.methodLink RX11 224 yX11_areSets ∈ tb := tb_at 1070 (by decide +kernel)
theorem kmV_X11_areSets : KmV yX11_areSets cX11_areSets 5 (some .boolean) 1 := ⟨tb_at (w := Cond.code yX11_areSets cX11_areSets 5 (some .boolean)) 1073 (by decide +kernel), tb_at (w := Cond.initialized RX11) 148 (by decide +kernel), tb_at (w := Cond.instanceMethod yX11_areSets) 1072 (by decide +kernel), tb_at (w := Cond.selects yX11_areSets.cls yX11_areSets yX11_areSets) 38 (by decide +kernel), ⟨by decide +kernel, by decide +kernel, by decide +kernel⟩⟩
theorem mlX11_230 : Cond.methodLink RX11 230 yX11_isDay ∈ tb := tb_at 1082 (by decide +kernel)
theorem kmS_X11_isDay : KmS yX11_isDay cX11_isDay 1 (some .boolean) 1 := ⟨tb_at (w := Cond.code yX11_isDay cX11_isDay 1 (some .boolean)) 889 (by decide +kernel), tb_at (w := Cond.initialized RX11) 148 (by decide +kernel), tb_at (w := Cond.static yX11_isDay) 888 (by decide +kernel), ⟨by decide +kernel, by decide +kernel, by decide +kernel⟩⟩
theorem mlX11_233 : Cond.methodLink RX11 233 yX4_inCount ∈ tb := tb_at 1083 (by decide +kernel)
theorem mlX11_236 : Cond.methodLink RX11 236 yX4_standing ∈ tb := tb_at 1087 (by decide +kernel)
theorem flX11_239 : Cond.fieldLink RX11 239 (TX2 11).1 (TX2 11).2.1 (TX2 11).2.2.1 ∈ tb := tb_at 396 (by decide +kernel)
theorem flX11_52 : Cond.fieldLink RX11 52 (TX11 5).1 (TX11 5).2.1 (TX11 5).2.2.1 ∈ tb := tb_at 666 (by decide +kernel)
theorem flX11_266 : Cond.fieldLink RX11 266 (TX9 1).1 (TX9 1).2.1 (TX9 1).2.2.1 ∈ tb := tb_at 615 (by decide +kernel)
theorem mlX11_288 : Cond.methodLink RX11 288 yX4_greatestUnmet ∈ tb := tb_at 1270 (by decide +kernel)
theorem kmV_X4_greatestUnmet : KmV yX4_greatestUnmet cX4_greatestUnmet 3 (some .int) 0 := ⟨tb_at (w := Cond.code yX4_greatestUnmet cX4_greatestUnmet 3 (some .int)) 1273 (by decide +kernel), tb_at (w := Cond.initialized RX4) 160 (by decide +kernel), tb_at (w := Cond.instanceMethod yX4_greatestUnmet) 1271 (by decide +kernel), tb_at (w := Cond.selects yX4_greatestUnmet.cls yX4_greatestUnmet yX4_greatestUnmet) 1272 (by decide +kernel), ⟨by decide +kernel, by decide +kernel, by decide +kernel⟩⟩
theorem mlX11_291 : Cond.methodLink RX11 291 yX4_unmetTies ∈ tb := tb_at 1274 (by decide +kernel)
theorem kmV_X4_unmetTies : KmV yX4_unmetTies cX4_unmetTies 3 (some .int) 0 := ⟨tb_at (w := Cond.code yX4_unmetTies cX4_unmetTies 3 (some .int)) 1277 (by decide +kernel), tb_at (w := Cond.initialized RX4) 160 (by decide +kernel), tb_at (w := Cond.instanceMethod yX4_unmetTies) 1275 (by decide +kernel), tb_at (w := Cond.selects yX4_unmetTies.cls yX4_unmetTies yX4_unmetTies) 1276 (by decide +kernel), ⟨by decide +kernel, by decide +kernel, by decide +kernel⟩⟩
theorem mlX11_294 : Cond.methodLink RX11 294 yX4_lonelyPersons ∈ tb := tb_at 1278 (by decide +kernel)
theorem kmV_X4_lonelyPersons : KmV yX4_lonelyPersons cX4_lonelyPersons 3 (some .int) 0 := ⟨tb_at (w := Cond.code yX4_lonelyPersons cX4_lonelyPersons 3 (some .int)) 1281 (by decide +kernel), tb_at (w := Cond.initialized RX4) 160 (by decide +kernel), tb_at (w := Cond.instanceMethod yX4_lonelyPersons) 1279 (by decide +kernel), tb_at (w := Cond.selects yX4_lonelyPersons.cls yX4_lonelyPersons yX4_lonelyPersons) 1280 (by decide +kernel), ⟨by decide +kernel, by decide +kernel, by decide +kernel⟩⟩
theorem mlX11_297 : Cond.methodLink RX11 297 yX2_tieBound ∈ tb := tb_at 1290 (by decide +kernel)
theorem kmV_X2_tieBound : KmV yX2_tieBound cX2_tieBound 7 (some .int) 0 := ⟨tb_at (w := Cond.code yX2_tieBound cX2_tieBound 7 (some .int)) 1293 (by decide +kernel), tb_at (w := Cond.initialized RX2) 149 (by decide +kernel), tb_at (w := Cond.instanceMethod yX2_tieBound) 1291 (by decide +kernel), tb_at (w := Cond.selects yX2_tieBound.cls yX2_tieBound yX2_tieBound) 1292 (by decide +kernel), ⟨by decide +kernel, by decide +kernel, by decide +kernel⟩⟩
theorem mlX11_300 : Cond.methodLink RX11 300 yX4_tieWorth ∈ tb := tb_at 1296 (by decide +kernel)
theorem flX11_59 : Cond.fieldLink RX11 59 (TX11 6).1 (TX11 6).2.1 (TX11 6).2.2.1 ∈ tb := tb_at 667 (by decide +kernel)
theorem mlX11_361 : Cond.methodLink RX11 361 yX8_dearestToShut ∈ tb := tb_at 1441 (by decide +kernel)
theorem kmV_X8_dearestToShut : KmV yX8_dearestToShut cX8_dearestToShut 8 (some .int) 1 := ⟨tb_at (w := Cond.code yX8_dearestToShut cX8_dearestToShut 8 (some .int)) 1444 (by decide +kernel), tb_at (w := Cond.initialized RX8) 163 (by decide +kernel), tb_at (w := Cond.instanceMethod yX8_dearestToShut) 1442 (by decide +kernel), tb_at (w := Cond.selects yX8_dearestToShut.cls yX8_dearestToShut yX8_dearestToShut) 1443 (by decide +kernel), ⟨by decide +kernel, by decide +kernel, by decide +kernel⟩⟩
theorem flX11_83 : Cond.fieldLink RX11 83 (TX11 12).1 (TX11 12).2.1 (TX11 12).2.2.1 ∈ tb := tb_at 673 (by decide +kernel)
theorem mlX11_364 : Cond.methodLink RX11 364 yX4_unmetWithin ∈ tb := tb_at 1454 (by decide +kernel)
theorem kmV_X4_unmetWithin : KmV yX4_unmetWithin cX4_unmetWithin 6 (some .int) 1 := ⟨tb_at (w := Cond.code yX4_unmetWithin cX4_unmetWithin 6 (some .int)) 1457 (by decide +kernel), tb_at (w := Cond.initialized RX4) 160 (by decide +kernel), tb_at (w := Cond.instanceMethod yX4_unmetWithin) 1455 (by decide +kernel), tb_at (w := Cond.selects yX4_unmetWithin.cls yX4_unmetWithin yX4_unmetWithin) 1456 (by decide +kernel), ⟨by decide +kernel, by decide +kernel, by decide +kernel⟩⟩
theorem flX0_13 : Cond.fieldLink RX0 13 (TX0 1).1 (TX0 1).2.1 (TX0 1).2.2.1 ∈ tb := tb_at 654 (by decide +kernel)
theorem flX0_9 : Cond.fieldLink RX0 9 (TX0 0).1 (TX0 0).2.1 (TX0 0).2.2.1 ∈ tb := tb_at 653 (by decide +kernel)
theorem mmX0_max : Cond.methodLink RX0 65 Lib.Math.max.name ∈ tb := tb_at 1324 (by decide +kernel)
theorem flX4_9 : Cond.fieldLink RX4 9 (TX4 1).1 (TX4 1).2.1 (TX4 1).2.2.1 ∈ tb := tb_at 584 (by decide +kernel)
theorem kmV_X4_isIn : KmV yX4_isIn cX4_isIn 3 (some .boolean) 2 := ⟨tb_at (w := Cond.code yX4_isIn cX4_isIn 3 (some .boolean)) 1151 (by decide +kernel), tb_at (w := Cond.initialized RX4) 160 (by decide +kernel), tb_at (w := Cond.instanceMethod yX4_isIn) 1149 (by decide +kernel), tb_at (w := Cond.selects yX4_isIn.cls yX4_isIn yX4_isIn) 1150 (by decide +kernel), ⟨by decide +kernel, by decide +kernel, by decide +kernel⟩⟩
theorem clX0_71 : Cond.constantLong RX0 71 1000000 ∈ tb := tb_at 1351 (by decide +kernel)
theorem flX5_21 : Cond.fieldLink RX5 21 (TX5 4).1 (TX5 4).2.1 (TX5 4).2.2.1 ∈ tb := tb_at 503 (by decide +kernel)
theorem flX5_27 : Cond.fieldLink RX5 27 (TX5 6).1 (TX5 6).2.1 (TX5 6).2.2.1 ∈ tb := tb_at 507 (by decide +kernel)
theorem flX5_30 : Cond.fieldLink RX5 30 (TX5 7).1 (TX5 7).2.1 (TX5 7).2.2.1 ∈ tb := tb_at 510 (by decide +kernel)
theorem flX2_21 : Cond.fieldLink RX2 21 (TX2 1).1 (TX2 1).2.1 (TX2 1).2.2.1 ∈ tb := tb_at 355 (by decide +kernel)
theorem flX2_89 : Cond.fieldLink RX2 89 (TX3 1).1 (TX3 1).2.1 (TX3 1).2.2.1 ∈ tb := tb_at 253 (by decide +kernel)
theorem flX2_71 : Cond.fieldLink RX2 71 (TX3 0).1 (TX3 0).2.1 (TX3 0).2.2.1 ∈ tb := tb_at 245 (by decide +kernel)
theorem mlX2_85 : Cond.methodLink RX2 85 yX2_find ∈ tb := tb_at 817 (by decide +kernel)
theorem kmS_X2_find : KmS yX2_find cX2_find 4 (some .int) 3 := ⟨tb_at (w := Cond.code yX2_find cX2_find 4 (some .int)) 819 (by decide +kernel), tb_at (w := Cond.initialized RX2) 149 (by decide +kernel), tb_at (w := Cond.static yX2_find) 818 (by decide +kernel), ⟨by decide +kernel, by decide +kernel, by decide +kernel⟩⟩
theorem kmV_X2_findPerson : KmV yX2_findPerson cX2_findPerson 2 (some .int) 1 := ⟨tb_at (w := Cond.code yX2_findPerson cX2_findPerson 2 (some .int)) 827 (by decide +kernel), tb_at (w := Cond.initialized RX2) 149 (by decide +kernel), tb_at (w := Cond.instanceMethod yX2_findPerson) 825 (by decide +kernel), tb_at (w := Cond.selects yX2_findPerson.cls yX2_findPerson yX2_findPerson) 826 (by decide +kernel), ⟨by decide +kernel, by decide +kernel, by decide +kernel⟩⟩
theorem flX2_12 : Cond.fieldLink RX2 12 (TX2 0).1 (TX2 0).2.1 (TX2 0).2.2.1 ∈ tb := tb_at 350 (by decide +kernel)
theorem flX5_24 : Cond.fieldLink RX5 24 (TX5 5).1 (TX5 5).2.1 (TX5 5).2.2.1 ∈ tb := tb_at 504 (by decide +kernel)
theorem mms_min : Cond.static Lib.Math.min.name ∈ tb := tb_at 745 (by decide +kernel)
theorem mmc_min : Cond.code Lib.Math.min.name Lib.Math.min.code 2 (some .int) ∈ tb := tb_at 746 (by decide +kernel)
theorem flX2_81 : Cond.fieldLink RX2 81 (TX1 3).1 (TX1 3).2.1 (TX1 3).2.2.1 ∈ tb := tb_at 204 (by decide +kernel)
theorem flX2_84 : Cond.fieldLink RX2 84 (TX1 0).1 (TX1 0).2.1 (TX1 0).2.2.1 ∈ tb := tb_at 192 (by decide +kernel)
theorem flX2_36 : Cond.fieldLink RX2 36 (TX2 4).1 (TX2 4).2.1 (TX2 4).2.2.1 ∈ tb := tb_at 370 (by decide +kernel)
theorem mlX2_90 : Cond.methodLink RX2 90 yX2_findFloor ∈ tb := tb_at 813 (by decide +kernel)
theorem kmV_X2_findFloor : KmV yX2_findFloor cX2_findFloor 2 (some .int) 1 := ⟨tb_at (w := Cond.code yX2_findFloor cX2_findFloor 2 (some .int)) 816 (by decide +kernel), tb_at (w := Cond.initialized RX2) 149 (by decide +kernel), tb_at (w := Cond.instanceMethod yX2_findFloor) 814 (by decide +kernel), tb_at (w := Cond.selects yX2_findFloor.cls yX2_findFloor yX2_findFloor) 815 (by decide +kernel), ⟨by decide +kernel, by decide +kernel, by decide +kernel⟩⟩
theorem mlX2_94 : Cond.methodLink RX2 94 yX2_findTeam ∈ tb := tb_at 820 (by decide +kernel)
theorem kmV_X2_findTeam : KmV yX2_findTeam cX2_findTeam 2 (some .int) 1 := ⟨tb_at (w := Cond.code yX2_findTeam cX2_findTeam 2 (some .int)) 823 (by decide +kernel), tb_at (w := Cond.initialized RX2) 149 (by decide +kernel), tb_at (w := Cond.instanceMethod yX2_findTeam) 821 (by decide +kernel), tb_at (w := Cond.selects yX2_findTeam.cls yX2_findTeam yX2_findTeam) 822 (by decide +kernel), ⟨by decide +kernel, by decide +kernel, by decide +kernel⟩⟩
theorem mlX2_97 : Cond.methodLink RX2 97 yX2_findPerson ∈ tb := tb_at 824 (by decide +kernel)
theorem flX3_22 : Cond.fieldLink RX3 22 (TX3 3).1 (TX3 3).2.1 (TX3 3).2.2.1 ∈ tb := tb_at 260 (by decide +kernel)
theorem flX3_25 : Cond.fieldLink RX3 25 (TX3 4).1 (TX3 4).2.1 (TX3 4).2.2.1 ∈ tb := tb_at 264 (by decide +kernel)
theorem flX2_40 : Cond.fieldLink RX2 40 (TX2 5).1 (TX2 5).2.1 (TX2 5).2.2.1 ∈ tb := tb_at 372 (by decide +kernel)
theorem flX2_50 : Cond.fieldLink RX2 50 (TX2 8).1 (TX2 8).2.1 (TX2 8).2.2.1 ∈ tb := tb_at 384 (by decide +kernel)
theorem flX2_53 : Cond.fieldLink RX2 53 (TX2 9).1 (TX2 9).2.1 (TX2 9).2.2.1 ∈ tb := tb_at 387 (by decide +kernel)
theorem flX2_56 : Cond.fieldLink RX2 56 (TX2 10).1 (TX2 10).2.1 (TX2 10).2.2.1 ∈ tb := tb_at 390 (by decide +kernel)
theorem kmV_X5_isSign : KmV yX5_isSign cX5_isSign 2 (some .boolean) 1 := ⟨tb_at (w := Cond.code yX5_isSign cX5_isSign 2 (some .boolean)) 971 (by decide +kernel), tb_at (w := Cond.initialized RX5) 154 (by decide +kernel), tb_at (w := Cond.instanceMethod yX5_isSign) 969 (by decide +kernel), tb_at (w := Cond.selects yX5_isSign.cls yX5_isSign yX5_isSign) 970 (by decide +kernel), ⟨by decide +kernel, by decide +kernel, by decide +kernel⟩⟩
theorem flX6_9 : Cond.fieldLink RX6 9 (TX6 0).1 (TX6 0).2.1 (TX6 0).2.2.1 ∈ tb := tb_at 547 (by decide +kernel)
theorem mlX6_59 : Cond.methodLink RX6 59 yX5_isSign ∈ tb := tb_at 968 (by decide +kernel)
theorem flX11_9 : Cond.fieldLink RX11 9 (TX11 0).1 (TX11 0).2.1 (TX11 0).2.2.1 ∈ tb := tb_at 661 (by decide +kernel)
theorem flX4_121 : Cond.fieldLink RX4 121 (TX2 8).1 (TX2 8).2.1 (TX2 8).2.2.1 ∈ tb := tb_at 386 (by decide +kernel)
theorem flX4_124 : Cond.fieldLink RX4 124 (TX2 9).1 (TX2 9).2.1 (TX2 9).2.2.1 ∈ tb := tb_at 389 (by decide +kernel)
theorem mlX4_93 : Cond.methodLink RX4 93 yJ6_bitCount_0f7a4 ∈ tb := tb_at 1104 (by decide +kernel)
theorem kmS_J6_bitCount_0f7a4 : KmS yJ6_bitCount_0f7a4 cJ6_bitCount_0f7a4 1 (some .int) 1 := ⟨tb_at (w := Cond.code yJ6_bitCount_0f7a4 cJ6_bitCount_0f7a4 1 (some .int)) 1023 (by decide +kernel), tb_at (w := Cond.initialized RJ6) 167 (by decide +kernel), tb_at (w := Cond.static yJ6_bitCount_0f7a4) 1022 (by decide +kernel), ⟨by decide +kernel, by decide +kernel, by decide +kernel⟩⟩
theorem flX4_50 : Cond.fieldLink RX4 50 (TX3 6).1 (TX3 6).2.1 (TX3 6).2.2.1 ∈ tb := tb_at 276 (by decide +kernel)
theorem flX4_130 : Cond.fieldLink RX4 130 (TX2 10).1 (TX2 10).2.1 (TX2 10).2.2.1 ∈ tb := tb_at 392 (by decide +kernel)
theorem mlX4_133 : Cond.methodLink RX4 133 yX4_metDays ∈ tb := tb_at 1146 (by decide +kernel)
theorem kmV_X4_metDays : KmV yX4_metDays cX4_metDays 2 (some .int) 1 := ⟨tb_at (w := Cond.code yX4_metDays cX4_metDays 2 (some .int)) 1103 (by decide +kernel), tb_at (w := Cond.initialized RX4) 160 (by decide +kernel), tb_at (w := Cond.instanceMethod yX4_metDays) 1101 (by decide +kernel), tb_at (w := Cond.selects yX4_metDays.cls yX4_metDays yX4_metDays) 1102 (by decide +kernel), ⟨by decide +kernel, by decide +kernel, by decide +kernel⟩⟩
theorem flX11_206 : Cond.fieldLink RX11 206 (TX4 1).1 (TX4 1).2.1 (TX4 1).2.2.1 ∈ tb := tb_at 586 (by decide +kernel)
theorem flX4_118 : Cond.fieldLink RX4 118 (TX3 2).1 (TX3 2).2.1 (TX3 2).2.2.1 ∈ tb := tb_at 259 (by decide +kernel)
theorem kmV_X4_commonDays : KmV yX4_commonDays cX4_commonDays 5 (some .int) 2 := ⟨tb_at (w := Cond.code yX4_commonDays cX4_commonDays 5 (some .int)) 1133 (by decide +kernel), tb_at (w := Cond.initialized RX4) 160 (by decide +kernel), tb_at (w := Cond.instanceMethod yX4_commonDays) 1131 (by decide +kernel), tb_at (w := Cond.selects yX4_commonDays.cls yX4_commonDays yX4_commonDays) 1132 (by decide +kernel), ⟨by decide +kernel, by decide +kernel, by decide +kernel⟩⟩
theorem flX7_31 : Cond.fieldLink RX7 31 (TX7 6).1 (TX7 6).2.1 (TX7 6).2.2.1 ∈ tb := tb_at 331 (by decide +kernel)
theorem clX7_66 : Cond.constantLong RX7 66 1000000 ∈ tb := tb_at 1174 (by decide +kernel)
theorem clX7_69 : Cond.constantLong RX7 69 (-1000000) ∈ tb := tb_at 1176 (by decide +kernel)
theorem cnX7_71 : Cond.constant RX7 71 (-1000000) ∈ tb := tb_at 1177 (by decide +kernel)
theorem cnX7_68 : Cond.constant RX7 68 1000000 ∈ tb := tb_at 1175 (by decide +kernel)
theorem mlX7_48 : Cond.methodLink RX7 48 yX7_limited ∈ tb := tb_at 1171 (by decide +kernel)
theorem kmS_X7_limited : KmS yX7_limited cX7_limited 2 (some .int) 1 := ⟨tb_at (w := Cond.code yX7_limited cX7_limited 2 (some .int)) 1173 (by decide +kernel), tb_at (w := Cond.initialized RX7) 152 (by decide +kernel), tb_at (w := Cond.static yX7_limited) 1172 (by decide +kernel), ⟨by decide +kernel, by decide +kernel, by decide +kernel⟩⟩
theorem mlX7_52 : Cond.methodLink RX7 52 yJ9_floorDiv_7cf53 ∈ tb := tb_at 1178 (by decide +kernel)
theorem kmS_J9_floorDiv_7cf53 : KmS yJ9_floorDiv_7cf53 cJ9_floorDiv_7cf53 3 (some .int) 2 := ⟨tb_at (w := Cond.code yJ9_floorDiv_7cf53 cJ9_floorDiv_7cf53 3 (some .int)) 1180 (by decide +kernel), tb_at (w := Cond.initialized RJ9) 166 (by decide +kernel), tb_at (w := Cond.static yJ9_floorDiv_7cf53) 1179 (by decide +kernel), ⟨by decide +kernel, by decide +kernel, by decide +kernel⟩⟩
theorem mlX7_57 : Cond.methodLink RX7 57 yJ9_floorMod_7cf53 ∈ tb := tb_at 1181 (by decide +kernel)
theorem kmS_J9_floorMod_7cf53 : KmS yJ9_floorMod_7cf53 cJ9_floorMod_7cf53 3 (some .int) 2 := ⟨tb_at (w := Cond.code yJ9_floorMod_7cf53 cJ9_floorMod_7cf53 3 (some .int)) 1183 (by decide +kernel), tb_at (w := Cond.initialized RJ9) 166 (by decide +kernel), tb_at (w := Cond.static yJ9_floorMod_7cf53) 1182 (by decide +kernel), ⟨by decide +kernel, by decide +kernel, by decide +kernel⟩⟩
theorem mmX7_min : Cond.methodLink RX7 60 Lib.Math.min.name ∈ tb := tb_at 1184 (by decide +kernel)
theorem mmX7_max : Cond.methodLink RX7 63 Lib.Math.max.name ∈ tb := tb_at 1185 (by decide +kernel)
theorem flX9_25 : Cond.fieldLink RX9 25 (TX9 0).1 (TX9 0).2.1 (TX9 0).2.2.1 ∈ tb := tb_at 613 (by decide +kernel)
theorem flX9_29 : Cond.fieldLink RX9 29 (TX4 0).1 (TX4 0).2.1 (TX4 0).2.2.1 ∈ tb := tb_at 580 (by decide +kernel)
theorem flX9_35 : Cond.fieldLink RX9 35 (TX2 1).1 (TX2 1).2.1 (TX2 1).2.2.1 ∈ tb := tb_at 356 (by decide +kernel)
theorem flX2_100 : Cond.fieldLink RX2 100 (TX3 3).1 (TX3 3).2.1 (TX3 3).2.2.1 ∈ tb := tb_at 263 (by decide +kernel)
theorem mmX2_min : Cond.methodLink RX2 103 Lib.Math.min.name ∈ tb := tb_at 1294 (by decide +kernel)
theorem flX2_109 : Cond.fieldLink RX2 109 (TX3 4).1 (TX3 4).2.1 (TX3 4).2.2.1 ∈ tb := tb_at 268 (by decide +kernel)
theorem mlX2_112 : Cond.methodLink RX2 112 yJ6_bitCount_0f7a4 ∈ tb := tb_at 1295 (by decide +kernel)
theorem flX11_197 : Cond.fieldLink RX11 197 (TX3 5).1 (TX3 5).2.1 (TX3 5).2.2.1 ∈ tb := tb_at 272 (by decide +kernel)
theorem flX9_15 : Cond.fieldLink RX9 15 (TX9 2).1 (TX9 2).2.1 (TX9 2).2.2.1 ∈ tb := tb_at 616 (by decide +kernel)
theorem mlX9_80 : Cond.methodLink RX9 80 yX4_commonDays ∈ tb := tb_at 1204 (by decide +kernel)
theorem flX9_70 : Cond.fieldLink RX9 70 (TX3 2).1 (TX3 2).2.1 (TX3 2).2.2.1 ∈ tb := tb_at 256 (by decide +kernel)
theorem flX9_73 : Cond.fieldLink RX9 73 (TX2 5).1 (TX2 5).2.1 (TX2 5).2.2.1 ∈ tb := tb_at 373 (by decide +kernel)
theorem flX9_77 : Cond.fieldLink RX9 77 (TX2 6).1 (TX2 6).2.1 (TX2 6).2.2.1 ∈ tb := tb_at 377 (by decide +kernel)
theorem flX9_22 : Cond.fieldLink RX9 22 (TX9 4).1 (TX9 4).2.1 (TX9 4).2.2.1 ∈ tb := tb_at 618 (by decide +kernel)
theorem flX9_67 : Cond.fieldLink RX9 67 (TX3 6).1 (TX3 6).2.1 (TX3 6).2.2.1 ∈ tb := tb_at 275 (by decide +kernel)
theorem flX8_9 : Cond.fieldLink RX8 9 (TX8 1).1 (TX8 1).2.1 (TX8 1).2.2.1 ∈ tb := tb_at 637 (by decide +kernel)
theorem flX8_68 : Cond.fieldLink RX8 68 (TX1 5).1 (TX1 5).2.1 (TX1 5).2.2.1 ∈ tb := tb_at 211 (by decide +kernel)
theorem flX8_74 : Cond.fieldLink RX8 74 (TX2 8).1 (TX2 8).2.1 (TX2 8).2.2.1 ∈ tb := tb_at 385 (by decide +kernel)
theorem flX8_77 : Cond.fieldLink RX8 77 (TX2 9).1 (TX2 9).2.1 (TX2 9).2.2.1 ∈ tb := tb_at 388 (by decide +kernel)
theorem flX8_80 : Cond.fieldLink RX8 80 (TX2 10).1 (TX2 10).2.1 (TX2 10).2.2.1 ∈ tb := tb_at 391 (by decide +kernel)
theorem flX8_57 : Cond.fieldLink RX8 57 (TX3 6).1 (TX3 6).2.1 (TX3 6).2.2.1 ∈ tb := tb_at 274 (by decide +kernel)
theorem mlX8_53 : Cond.methodLink RX8 53 yX4_isIn ∈ tb := tb_at 1403 (by decide +kernel)
theorem flX8_40 : Cond.fieldLink RX8 40 (TX1 4).1 (TX1 4).2.1 (TX1 4).2.2.1 ∈ tb := tb_at 207 (by decide +kernel)
theorem flX8_43 : Cond.fieldLink RX8 43 (TX1 7).1 (TX1 7).2.1 (TX1 7).2.2.1 ∈ tb := tb_at 217 (by decide +kernel)
theorem flX11_212 : Cond.fieldLink RX11 212 (TX1 4).1 (TX1 4).2.1 (TX1 4).2.2.1 ∈ tb := tb_at 208 (by decide +kernel)
theorem flX11_215 : Cond.fieldLink RX11 215 (TX1 5).1 (TX1 5).2.1 (TX1 5).2.2.1 ∈ tb := tb_at 212 (by decide +kernel)
theorem flX11_218 : Cond.fieldLink RX11 218 (TX1 6).1 (TX1 6).2.1 (TX1 6).2.2.1 ∈ tb := tb_at 215 (by decide +kernel)
theorem flX11_221 : Cond.fieldLink RX11 221 (TX1 7).1 (TX1 7).2.1 (TX1 7).2.2.1 ∈ tb := tb_at 218 (by decide +kernel)
theorem mlX11_367 : Cond.methodLink RX11 367 yX4_setsForOneMore ∈ tb := tb_at 1470 (by decide +kernel)
theorem kmV_X4_setsForOneMore : KmV yX4_setsForOneMore cX4_setsForOneMore 5 (some .int) 1 := ⟨tb_at (w := Cond.code yX4_setsForOneMore cX4_setsForOneMore 5 (some .int)) 1473 (by decide +kernel), tb_at (w := Cond.initialized RX4) 160 (by decide +kernel), tb_at (w := Cond.instanceMethod yX4_setsForOneMore) 1471 (by decide +kernel), tb_at (w := Cond.selects yX4_setsForOneMore.cls yX4_setsForOneMore yX4_setsForOneMore) 1472 (by decide +kernel), ⟨by decide +kernel, by decide +kernel, by decide +kernel⟩⟩
theorem mlX3_46 : Cond.methodLink RX3 46 yJ6_bitCount_0f7a4 ∈ tb := tb_at 1021 (by decide +kernel)
theorem flX11_80 : Cond.fieldLink RX11 80 (TX11 11).1 (TX11 11).2.1 (TX11 11).2.2.1 ∈ tb := tb_at 672 (by decide +kernel)
theorem mlX11_373 : Cond.methodLink RX11 373 yX11_checkByte ∈ tb := tb_at 1486 (by decide +kernel)
theorem kmS_X11_checkByte : KmS yX11_checkByte cX11_checkByte 4 (some .int) 2 := ⟨tb_at (w := Cond.code yX11_checkByte cX11_checkByte 4 (some .int)) 1488 (by decide +kernel), tb_at (w := Cond.initialized RX11) 148 (by decide +kernel), tb_at (w := Cond.static yX11_checkByte) 1487 (by decide +kernel), ⟨by decide +kernel, by decide +kernel, by decide +kernel⟩⟩
theorem flX11_173 : Cond.fieldLink RX11 173 (TX1 3).1 (TX1 3).2.1 (TX1 3).2.2.1 ∈ tb := tb_at 205 (by decide +kernel)
theorem mlX11_176 : Cond.methodLink RX11 176 yX11_letterOf ∈ tb := tb_at 1047 (by decide +kernel)
theorem kmS_X11_letterOf : KmS yX11_letterOf cX11_letterOf 4 (some .int) 2 := ⟨tb_at (w := Cond.code yX11_letterOf cX11_letterOf 4 (some .int)) 1049 (by decide +kernel), tb_at (w := Cond.initialized RX11) 148 (by decide +kernel), tb_at (w := Cond.static yX11_letterOf) 1048 (by decide +kernel), ⟨by decide +kernel, by decide +kernel, by decide +kernel⟩⟩
theorem flX11_180 : Cond.fieldLink RX11 180 (TX2 4).1 (TX2 4).2.1 (TX2 4).2.2.1 ∈ tb := tb_at 371 (by decide +kernel)
theorem flX11_183 : Cond.fieldLink RX11 183 (TX3 1).1 (TX3 1).2.1 (TX3 1).2.2.1 ∈ tb := tb_at 254 (by decide +kernel)
theorem mlX11_242 : Cond.methodLink RX11 242 yX4_metDays ∈ tb := tb_at 1100 (by decide +kernel)
theorem flX4_191 : Cond.fieldLink RX4 191 (TX3 7).1 (TX3 7).2.1 (TX3 7).2.2.1 ∈ tb := tb_at 282 (by decide +kernel)
theorem mlX4_188 : Cond.methodLink RX4 188 yX4_turnedSet ∈ tb := tb_at 1458 (by decide +kernel)
theorem kmV_X4_turnedSet : KmV yX4_turnedSet cX4_turnedSet 4 (some .int) 2 := ⟨tb_at (w := Cond.code yX4_turnedSet cX4_turnedSet 4 (some .int)) 1461 (by decide +kernel), tb_at (w := Cond.initialized RX4) 160 (by decide +kernel), tb_at (w := Cond.instanceMethod yX4_turnedSet) 1460 (by decide +kernel), tb_at (w := Cond.selects yX4_turnedSet.cls yX4_turnedSet yX4_turnedSet) 63 (by decide +kernel), ⟨by decide +kernel, by decide +kernel, by decide +kernel⟩⟩
theorem flX11_188 : Cond.fieldLink RX11 188 (TX3 2).1 (TX3 2).2.1 (TX3 2).2.2.1 ∈ tb := tb_at 258 (by decide +kernel)
theorem flX11_191 : Cond.fieldLink RX11 191 (TX3 3).1 (TX3 3).2.1 (TX3 3).2.2.1 ∈ tb := tb_at 262 (by decide +kernel)
theorem flX11_194 : Cond.fieldLink RX11 194 (TX3 4).1 (TX3 4).2.1 (TX3 4).2.2.1 ∈ tb := tb_at 267 (by decide +kernel)
theorem flX11_200 : Cond.fieldLink RX11 200 (TX3 6).1 (TX3 6).2.1 (TX3 6).2.2.1 ∈ tb := tb_at 277 (by decide +kernel)
theorem flX11_203 : Cond.fieldLink RX11 203 (TX3 7).1 (TX3 7).2.1 (TX3 7).2.2.1 ∈ tb := tb_at 280 (by decide +kernel)
theorem flX11_209 : Cond.fieldLink RX11 209 (TX3 10).1 (TX3 10).2.1 (TX3 10).2.2.1 ∈ tb := tb_at 291 (by decide +kernel)
theorem mlX4_165 : Cond.methodLink RX4 165 yX4_isLonely ∈ tb := tb_at 1282 (by decide +kernel)
theorem kmV_X4_isLonely : KmV yX4_isLonely cX4_isLonely 4 (some .boolean) 1 := ⟨tb_at (w := Cond.code yX4_isLonely cX4_isLonely 4 (some .boolean)) 1285 (by decide +kernel), tb_at (w := Cond.initialized RX4) 160 (by decide +kernel), tb_at (w := Cond.instanceMethod yX4_isLonely) 1284 (by decide +kernel), tb_at (w := Cond.selects yX4_isLonely.cls yX4_isLonely yX4_isLonely) 51 (by decide +kernel), ⟨by decide +kernel, by decide +kernel, by decide +kernel⟩⟩
theorem mlX8_109 : Cond.methodLink RX8 109 yX8_isOwnerIn ∈ tb := tb_at 1446 (by decide +kernel)
theorem kmV_X8_isOwnerIn : KmV yX8_isOwnerIn cX8_isOwnerIn 5 (some .boolean) 2 := ⟨tb_at (w := Cond.code yX8_isOwnerIn cX8_isOwnerIn 5 (some .boolean)) 1449 (by decide +kernel), tb_at (w := Cond.initialized RX8) 163 (by decide +kernel), tb_at (w := Cond.instanceMethod yX8_isOwnerIn) 1448 (by decide +kernel), tb_at (w := Cond.selects yX8_isOwnerIn.cls yX8_isOwnerIn yX8_isOwnerIn) 62 (by decide +kernel), ⟨by decide +kernel, by decide +kernel, by decide +kernel⟩⟩
theorem flX8_112 : Cond.fieldLink RX8 112 (TX1 6).1 (TX1 6).2.1 (TX1 6).2.2.1 ∈ tb := tb_at 214 (by decide +kernel)
theorem dX0_above_0 : decode cX0_above 0 = .ok (.lconst 0, 1) := by decide +kernel
theorem dX0_above_1 : decode cX0_above 1 = .ok (.lstore_n 2, 1) := by decide +kernel
theorem dX0_above_11 : decode cX0_above 11 = .ok (.iload 4, 2) := by decide +kernel
theorem dX0_above_13 : decode cX0_above 13 = .ok (.aload_n 0, 1) := by decide +kernel
theorem dX0_above_14 : decode cX0_above 14 = .ok (.getfield 13, 3) := by decide +kernel
theorem dX0_above_17 : decode cX0_above 17 = .ok (.if_icmp .gt 19, 3) := by decide +kernel
theorem dX0_above_2 : decode cX0_above 2 = .ok (.iconst 0, 1) := by decide +kernel
theorem dX0_above_20 : decode cX0_above 20 = .ok (.lload_n 2, 1) := by decide +kernel
theorem dX0_above_21 : decode cX0_above 21 = .ok (.aload_n 0, 1) := by decide +kernel
theorem dX0_above_22 : decode cX0_above 22 = .ok (.getfield 9, 3) := by decide +kernel
theorem dX0_above_25 : decode cX0_above 25 = .ok (.iload 4, 2) := by decide +kernel
theorem dX0_above_27 : decode cX0_above 27 = .ok (.laload, 1) := by decide +kernel
theorem dX0_above_28 : decode cX0_above 28 = .ok (.ladd, 1) := by decide +kernel
theorem dX0_above_29 : decode cX0_above 29 = .ok (.lstore_n 2, 1) := by decide +kernel
theorem dX0_above_3 : decode cX0_above 3 = .ok (.iload_n 1, 1) := by decide +kernel
theorem dX0_above_30 : decode cX0_above 30 = .ok (.iinc 4 1, 3) := by decide +kernel
theorem dX0_above_33 : decode cX0_above 33 = .ok (.goto (-22), 3) := by decide +kernel
theorem dX0_above_36 : decode cX0_above 36 = .ok (.lload_n 2, 1) := by decide +kernel
theorem dX0_above_37 : decode cX0_above 37 = .ok (.lreturn, 1) := by decide +kernel
theorem dX0_above_4 : decode cX0_above 4 = .ok (.iconst 1, 1) := by decide +kernel
theorem dX0_above_5 : decode cX0_above 5 = .ok (.iadd, 1) := by decide +kernel
theorem dX0_above_6 : decode cX0_above 6 = .ok (.invokestatic 65, 3) := by decide +kernel
theorem dX0_above_9 : decode cX0_above 9 = .ok (.istore 4, 2) := by decide +kernel
theorem dX0_meanAbove_0 : decode cX0_meanAbove 0 = .ok (.lconst 0, 1) := by decide +kernel
theorem dX0_meanAbove_1 : decode cX0_meanAbove 1 = .ok (.lstore_n 2, 1) := by decide +kernel
theorem dX0_meanAbove_11 : decode cX0_meanAbove 11 = .ok (.iload 4, 2) := by decide +kernel
theorem dX0_meanAbove_13 : decode cX0_meanAbove 13 = .ok (.aload_n 0, 1) := by decide +kernel
theorem dX0_meanAbove_14 : decode cX0_meanAbove 14 = .ok (.getfield 13, 3) := by decide +kernel
theorem dX0_meanAbove_17 : decode cX0_meanAbove 17 = .ok (.if_icmp .gt 25, 3) := by decide +kernel
theorem dX0_meanAbove_2 : decode cX0_meanAbove 2 = .ok (.iconst 0, 1) := by decide +kernel
theorem dX0_meanAbove_20 : decode cX0_meanAbove 20 = .ok (.lload_n 2, 1) := by decide +kernel
theorem dX0_meanAbove_21 : decode cX0_meanAbove 21 = .ok (.iload 4, 2) := by decide +kernel
theorem dX0_meanAbove_23 : decode cX0_meanAbove 23 = .ok (.iload_n 1, 1) := by decide +kernel
theorem dX0_meanAbove_24 : decode cX0_meanAbove 24 = .ok (.isub, 1) := by decide +kernel
theorem dX0_meanAbove_25 : decode cX0_meanAbove 25 = .ok (.i2l, 1) := by decide +kernel
theorem dX0_meanAbove_26 : decode cX0_meanAbove 26 = .ok (.aload_n 0, 1) := by decide +kernel
theorem dX0_meanAbove_27 : decode cX0_meanAbove 27 = .ok (.getfield 9, 3) := by decide +kernel
theorem dX0_meanAbove_3 : decode cX0_meanAbove 3 = .ok (.iload_n 1, 1) := by decide +kernel
theorem dX0_meanAbove_30 : decode cX0_meanAbove 30 = .ok (.iload 4, 2) := by decide +kernel
theorem dX0_meanAbove_32 : decode cX0_meanAbove 32 = .ok (.laload, 1) := by decide +kernel
theorem dX0_meanAbove_33 : decode cX0_meanAbove 33 = .ok (.lmul, 1) := by decide +kernel
theorem dX0_meanAbove_34 : decode cX0_meanAbove 34 = .ok (.ladd, 1) := by decide +kernel
theorem dX0_meanAbove_35 : decode cX0_meanAbove 35 = .ok (.lstore_n 2, 1) := by decide +kernel
theorem dX0_meanAbove_36 : decode cX0_meanAbove 36 = .ok (.iinc 4 1, 3) := by decide +kernel
theorem dX0_meanAbove_39 : decode cX0_meanAbove 39 = .ok (.goto (-28), 3) := by decide +kernel
theorem dX0_meanAbove_4 : decode cX0_meanAbove 4 = .ok (.iconst 1, 1) := by decide +kernel
theorem dX0_meanAbove_42 : decode cX0_meanAbove 42 = .ok (.lload_n 2, 1) := by decide +kernel
theorem dX0_meanAbove_43 : decode cX0_meanAbove 43 = .ok (.ldc2_w 71, 3) := by decide +kernel
theorem dX0_meanAbove_46 : decode cX0_meanAbove 46 = .ok (.ldiv, 1) := by decide +kernel
theorem dX0_meanAbove_47 : decode cX0_meanAbove 47 = .ok (.lreturn, 1) := by decide +kernel
theorem dX0_meanAbove_5 : decode cX0_meanAbove 5 = .ok (.iadd, 1) := by decide +kernel
theorem dX0_meanAbove_6 : decode cX0_meanAbove 6 = .ok (.invokestatic 65, 3) := by decide +kernel
theorem dX0_meanAbove_9 : decode cX0_meanAbove 9 = .ok (.istore 4, 2) := by decide +kernel
theorem dX11_areSets_0 : decode cX11_areSets 0 = .ok (.aload_n 0, 1) := by decide +kernel
theorem dX11_areSets_1 : decode cX11_areSets 1 = .ok (.getfield 43, 3) := by decide +kernel
theorem dX11_areSets_10 : decode cX11_areSets 10 = .ok (.getfield 143, 3) := by decide +kernel
theorem dX11_areSets_13 : decode cX11_areSets 13 = .ok (.istore_n 2, 1) := by decide +kernel
theorem dX11_areSets_14 : decode cX11_areSets 14 = .ok (.iconst 0, 1) := by decide +kernel
theorem dX11_areSets_15 : decode cX11_areSets 15 = .ok (.istore_n 3, 1) := by decide +kernel
theorem dX11_areSets_16 : decode cX11_areSets 16 = .ok (.iload_n 3, 1) := by decide +kernel
theorem dX11_areSets_17 : decode cX11_areSets 17 = .ok (.iload_n 2, 1) := by decide +kernel
theorem dX11_areSets_18 : decode cX11_areSets 18 = .ok (.if_icmp .ge 37, 3) := by decide +kernel
theorem dX11_areSets_21 : decode cX11_areSets 21 = .ok (.iload_n 1, 1) := by decide +kernel
theorem dX11_areSets_22 : decode cX11_areSets 22 = .ok (.iload_n 3, 1) := by decide +kernel
theorem dX11_areSets_23 : decode cX11_areSets 23 = .ok (.iadd, 1) := by decide +kernel
theorem dX11_areSets_24 : decode cX11_areSets 24 = .ok (.istore 4, 2) := by decide +kernel
theorem dX11_areSets_26 : decode cX11_areSets 26 = .ok (.iload 4, 2) := by decide +kernel
theorem dX11_areSets_28 : decode cX11_areSets 28 = .ok (.aload_n 0, 1) := by decide +kernel
theorem dX11_areSets_29 : decode cX11_areSets 29 = .ok (.getfield 13, 3) := by decide +kernel
theorem dX11_areSets_32 : decode cX11_areSets 32 = .ok (.if_icmp .ge 15, 3) := by decide +kernel
theorem dX11_areSets_35 : decode cX11_areSets 35 = .ok (.aload_n 0, 1) := by decide +kernel
theorem dX11_areSets_36 : decode cX11_areSets 36 = .ok (.getfield 9, 3) := by decide +kernel
theorem dX11_areSets_39 : decode cX11_areSets 39 = .ok (.iload 4, 2) := by decide +kernel
theorem dX11_areSets_4 : decode cX11_areSets 4 = .ok (.getfield 121, 3) := by decide +kernel
theorem dX11_areSets_41 : decode cX11_areSets 41 = .ok (.iaload, 1) := by decide +kernel
theorem dX11_areSets_42 : decode cX11_areSets 42 = .ok (.bipush 31, 2) := by decide +kernel
theorem dX11_areSets_44 : decode cX11_areSets 44 = .ok (.if_icmp .le 5, 3) := by decide +kernel
theorem dX11_areSets_47 : decode cX11_areSets 47 = .ok (.iconst 0, 1) := by decide +kernel
theorem dX11_areSets_48 : decode cX11_areSets 48 = .ok (.ireturn, 1) := by decide +kernel
theorem dX11_areSets_49 : decode cX11_areSets 49 = .ok (.iinc 3 1, 3) := by decide +kernel
theorem dX11_areSets_52 : decode cX11_areSets 52 = .ok (.goto (-36), 3) := by decide +kernel
theorem dX11_areSets_55 : decode cX11_areSets 55 = .ok (.iconst 1, 1) := by decide +kernel
theorem dX11_areSets_56 : decode cX11_areSets 56 = .ok (.ireturn, 1) := by decide +kernel
theorem dX11_areSets_7 : decode cX11_areSets 7 = .ok (.getfield 139, 3) := by decide +kernel
theorem dX11_areTwo_0 : decode cX11_areTwo 0 = .ok (.aload_n 0, 1) := by decide +kernel
theorem dX11_areTwo_1 : decode cX11_areTwo 1 = .ok (.iload_n 1, 1) := by decide +kernel
theorem dX11_areTwo_10 : decode cX11_areTwo 10 = .ok (.invokevirtual 184, 3) := by decide +kernel
theorem dX11_areTwo_13 : decode cX11_areTwo 13 = .ok (.ifCond .eq 12, 3) := by decide +kernel
theorem dX11_areTwo_16 : decode cX11_areTwo 16 = .ok (.iload_n 1, 1) := by decide +kernel
theorem dX11_areTwo_17 : decode cX11_areTwo 17 = .ok (.iload_n 2, 1) := by decide +kernel
theorem dX11_areTwo_18 : decode cX11_areTwo 18 = .ok (.if_icmp .eq 7, 3) := by decide +kernel
theorem dX11_areTwo_2 : decode cX11_areTwo 2 = .ok (.invokevirtual 184, 3) := by decide +kernel
theorem dX11_areTwo_21 : decode cX11_areTwo 21 = .ok (.iconst 1, 1) := by decide +kernel
theorem dX11_areTwo_22 : decode cX11_areTwo 22 = .ok (.goto 4, 3) := by decide +kernel
theorem dX11_areTwo_25 : decode cX11_areTwo 25 = .ok (.iconst 0, 1) := by decide +kernel
theorem dX11_areTwo_26 : decode cX11_areTwo 26 = .ok (.ireturn, 1) := by decide +kernel
theorem dX11_areTwo_5 : decode cX11_areTwo 5 = .ok (.ifCond .eq 20, 3) := by decide +kernel
theorem dX11_areTwo_8 : decode cX11_areTwo 8 = .ok (.aload_n 0, 1) := by decide +kernel
theorem dX11_areTwo_9 : decode cX11_areTwo 9 = .ok (.iload_n 2, 1) := by decide +kernel
theorem dX11_bound_0 : decode cX11_bound 0 = .ok (.aload_n 0, 1) := by decide +kernel
theorem dX11_bound_1 : decode cX11_bound 1 = .ok (.getfield 43, 3) := by decide +kernel
theorem dX11_bound_10 : decode cX11_bound 10 = .ok (.istore_n 2, 1) := by decide +kernel
theorem dX11_bound_11 : decode cX11_bound 11 = .ok (.iload_n 1, 1) := by decide +kernel
theorem dX11_bound_12 : decode cX11_bound 12 = .ok (.ifCond .eq 15, 3) := by decide +kernel
theorem dX11_bound_15 : decode cX11_bound 15 = .ok (.iload_n 2, 1) := by decide +kernel
theorem dX11_bound_16 : decode cX11_bound 16 = .ok (.aload_n 0, 1) := by decide +kernel
theorem dX11_bound_17 : decode cX11_bound 17 = .ok (.getfield 43, 3) := by decide +kernel
theorem dX11_bound_20 : decode cX11_bound 20 = .ok (.invokevirtual 300, 3) := by decide +kernel
theorem dX11_bound_23 : decode cX11_bound 23 = .ok (.isub, 1) := by decide +kernel
theorem dX11_bound_24 : decode cX11_bound 24 = .ok (.goto 4, 3) := by decide +kernel
theorem dX11_bound_27 : decode cX11_bound 27 = .ok (.iload_n 2, 1) := by decide +kernel
theorem dX11_bound_28 : decode cX11_bound 28 = .ok (.ireturn, 1) := by decide +kernel
theorem dX11_bound_4 : decode cX11_bound 4 = .ok (.getfield 121, 3) := by decide +kernel
theorem dX11_bound_7 : decode cX11_bound 7 = .ok (.invokevirtual 297, 3) := by decide +kernel
theorem dX11_checkByte_0 : decode cX11_checkByte 0 = .ok (.bipush 31, 2) := by decide +kernel
theorem dX11_checkByte_10 : decode cX11_checkByte 10 = .ok (.iload_n 3, 1) := by decide +kernel
theorem dX11_checkByte_11 : decode cX11_checkByte 11 = .ok (.aload_n 0, 1) := by decide +kernel
theorem dX11_checkByte_12 : decode cX11_checkByte 12 = .ok (.arraylength, 1) := by decide +kernel
theorem dX11_checkByte_13 : decode cX11_checkByte 13 = .ok (.if_icmp .ge 21, 3) := by decide +kernel
theorem dX11_checkByte_16 : decode cX11_checkByte 16 = .ok (.iconst 5, 1) := by decide +kernel
theorem dX11_checkByte_17 : decode cX11_checkByte 17 = .ok (.iload_n 2, 1) := by decide +kernel
theorem dX11_checkByte_18 : decode cX11_checkByte 18 = .ok (.imul, 1) := by decide +kernel
theorem dX11_checkByte_19 : decode cX11_checkByte 19 = .ok (.aload_n 0, 1) := by decide +kernel
theorem dX11_checkByte_2 : decode cX11_checkByte 2 = .ok (.istore_n 2, 1) := by decide +kernel
theorem dX11_checkByte_20 : decode cX11_checkByte 20 = .ok (.iload_n 3, 1) := by decide +kernel
theorem dX11_checkByte_21 : decode cX11_checkByte 21 = .ok (.iaload, 1) := by decide +kernel
theorem dX11_checkByte_22 : decode cX11_checkByte 22 = .ok (.iadd, 1) := by decide +kernel
theorem dX11_checkByte_23 : decode cX11_checkByte 23 = .ok (.sipush 227, 3) := by decide +kernel
theorem dX11_checkByte_26 : decode cX11_checkByte 26 = .ok (.irem, 1) := by decide +kernel
theorem dX11_checkByte_27 : decode cX11_checkByte 27 = .ok (.istore_n 2, 1) := by decide +kernel
theorem dX11_checkByte_28 : decode cX11_checkByte 28 = .ok (.iinc 3 1, 3) := by decide +kernel
theorem dX11_checkByte_3 : decode cX11_checkByte 3 = .ok (.iconst 0, 1) := by decide +kernel
theorem dX11_checkByte_31 : decode cX11_checkByte 31 = .ok (.goto (-26), 3) := by decide +kernel
theorem dX11_checkByte_34 : decode cX11_checkByte 34 = .ok (.iload_n 2, 1) := by decide +kernel
theorem dX11_checkByte_35 : decode cX11_checkByte 35 = .ok (.ireturn, 1) := by decide +kernel
theorem dX11_checkByte_4 : decode cX11_checkByte 4 = .ok (.istore_n 3, 1) := by decide +kernel
theorem dX11_checkByte_5 : decode cX11_checkByte 5 = .ok (.iload_n 3, 1) := by decide +kernel
theorem dX11_checkByte_6 : decode cX11_checkByte 6 = .ok (.iload_n 1, 1) := by decide +kernel
theorem dX11_checkByte_7 : decode cX11_checkByte 7 = .ok (.if_icmp .ge 27, 3) := by decide +kernel
theorem dX11_day_0 : decode cX11_day 0 = .ok (.iload_n 1, 1) := by decide +kernel
theorem dX11_day_1 : decode cX11_day 1 = .ok (.invokestatic 230, 3) := by decide +kernel
theorem dX11_day_10 : decode cX11_day 10 = .ok (.tableswitch 57 0 2 #[26, 35, 44], 26) := by decide +kernel
theorem dX11_day_36 : decode cX11_day 36 = .ok (.aload_n 0, 1) := by decide +kernel
theorem dX11_day_37 : decode cX11_day 37 = .ok (.getfield 43, 3) := by decide +kernel
theorem dX11_day_4 : decode cX11_day 4 = .ok (.ifCond .ne 5, 3) := by decide +kernel
theorem dX11_day_40 : decode cX11_day 40 = .ok (.iload_n 1, 1) := by decide +kernel
theorem dX11_day_41 : decode cX11_day 41 = .ok (.invokevirtual 233, 3) := by decide +kernel
theorem dX11_day_44 : decode cX11_day 44 = .ok (.ireturn, 1) := by decide +kernel
theorem dX11_day_45 : decode cX11_day 45 = .ok (.aload_n 0, 1) := by decide +kernel
theorem dX11_day_46 : decode cX11_day 46 = .ok (.getfield 43, 3) := by decide +kernel
theorem dX11_day_49 : decode cX11_day 49 = .ok (.iload_n 1, 1) := by decide +kernel
theorem dX11_day_50 : decode cX11_day 50 = .ok (.invokevirtual 236, 3) := by decide +kernel
theorem dX11_day_53 : decode cX11_day 53 = .ok (.ireturn, 1) := by decide +kernel
theorem dX11_day_54 : decode cX11_day 54 = .ok (.aload_n 0, 1) := by decide +kernel
theorem dX11_day_55 : decode cX11_day 55 = .ok (.getfield 43, 3) := by decide +kernel
theorem dX11_day_58 : decode cX11_day 58 = .ok (.getfield 121, 3) := by decide +kernel
theorem dX11_day_61 : decode cX11_day 61 = .ok (.getfield 239, 3) := by decide +kernel
theorem dX11_day_64 : decode cX11_day 64 = .ok (.iload_n 1, 1) := by decide +kernel
theorem dX11_day_65 : decode cX11_day 65 = .ok (.iaload, 1) := by decide +kernel
theorem dX11_day_66 : decode cX11_day 66 = .ok (.ireturn, 1) := by decide +kernel
theorem dX11_day_67 : decode cX11_day 67 = .ok (.iconst (-1), 1) := by decide +kernel
theorem dX11_day_68 : decode cX11_day 68 = .ok (.ireturn, 1) := by decide +kernel
theorem dX11_day_7 : decode cX11_day 7 = .ok (.iconst (-1), 1) := by decide +kernel
theorem dX11_day_8 : decode cX11_day 8 = .ok (.ireturn, 1) := by decide +kernel
theorem dX11_day_9 : decode cX11_day 9 = .ok (.iload_n 2, 1) := by decide +kernel
theorem dX11_fault_0 : decode cX11_fault 0 = .ok (.iload_n 1, 1) := by decide +kernel
theorem dX11_fault_1 : decode cX11_fault 1 = .ok (.lookupswitch 37 #[(0, 27), (1, 32)], 27) := by decide +kernel
theorem dX11_fault_28 : decode cX11_fault 28 = .ok (.aload_n 0, 1) := by decide +kernel
theorem dX11_fault_29 : decode cX11_fault 29 = .ok (.getfield 70, 3) := by decide +kernel
theorem dX11_fault_32 : decode cX11_fault 32 = .ok (.ireturn, 1) := by decide +kernel
theorem dX11_fault_33 : decode cX11_fault 33 = .ok (.aload_n 0, 1) := by decide +kernel
theorem dX11_fault_34 : decode cX11_fault 34 = .ok (.getfield 73, 3) := by decide +kernel
theorem dX11_fault_37 : decode cX11_fault 37 = .ok (.ireturn, 1) := by decide +kernel
theorem dX11_fault_38 : decode cX11_fault 38 = .ok (.iconst (-1), 1) := by decide +kernel
theorem dX11_fault_39 : decode cX11_fault 39 = .ok (.ireturn, 1) := by decide +kernel
theorem dX11_floor_0 : decode cX11_floor 0 = .ok (.aload_n 0, 1) := by decide +kernel
theorem dX11_floor_1 : decode cX11_floor 1 = .ok (.getfield 43, 3) := by decide +kernel
theorem dX11_floor_10 : decode cX11_floor 10 = .ok (.astore_n 3, 1) := by decide +kernel
theorem dX11_floor_11 : decode cX11_floor 11 = .ok (.iload_n 1, 1) := by decide +kernel
theorem dX11_floor_12 : decode cX11_floor 12 = .ok (.aload_n 3, 1) := by decide +kernel
theorem dX11_floor_13 : decode cX11_floor 13 = .ok (.getfield 133, 3) := by decide +kernel
theorem dX11_floor_16 : decode cX11_floor 16 = .ok (.invokestatic 169, 3) := by decide +kernel
theorem dX11_floor_19 : decode cX11_floor 19 = .ok (.ifCond .ne 5, 3) := by decide +kernel
theorem dX11_floor_22 : decode cX11_floor 22 = .ok (.iconst (-1), 1) := by decide +kernel
theorem dX11_floor_23 : decode cX11_floor 23 = .ok (.ireturn, 1) := by decide +kernel
theorem dX11_floor_24 : decode cX11_floor 24 = .ok (.iload_n 2, 1) := by decide +kernel
theorem dX11_floor_25 : decode cX11_floor 25 = .ok (.tableswitch 59 0 3 #[31, 38, 45, 52], 31) := by decide +kernel
theorem dX11_floor_4 : decode cX11_floor 4 = .ok (.getfield 121, 3) := by decide +kernel
theorem dX11_floor_56 : decode cX11_floor 56 = .ok (.aload_n 3, 1) := by decide +kernel
theorem dX11_floor_57 : decode cX11_floor 57 = .ok (.getfield 212, 3) := by decide +kernel
theorem dX11_floor_60 : decode cX11_floor 60 = .ok (.iload_n 1, 1) := by decide +kernel
theorem dX11_floor_61 : decode cX11_floor 61 = .ok (.iaload, 1) := by decide +kernel
theorem dX11_floor_62 : decode cX11_floor 62 = .ok (.ireturn, 1) := by decide +kernel
theorem dX11_floor_63 : decode cX11_floor 63 = .ok (.aload_n 3, 1) := by decide +kernel
theorem dX11_floor_64 : decode cX11_floor 64 = .ok (.getfield 215, 3) := by decide +kernel
theorem dX11_floor_67 : decode cX11_floor 67 = .ok (.iload_n 1, 1) := by decide +kernel
theorem dX11_floor_68 : decode cX11_floor 68 = .ok (.iaload, 1) := by decide +kernel
theorem dX11_floor_69 : decode cX11_floor 69 = .ok (.ireturn, 1) := by decide +kernel
theorem dX11_floor_7 : decode cX11_floor 7 = .ok (.getfield 129, 3) := by decide +kernel
theorem dX11_floor_70 : decode cX11_floor 70 = .ok (.aload_n 3, 1) := by decide +kernel
theorem dX11_floor_71 : decode cX11_floor 71 = .ok (.getfield 218, 3) := by decide +kernel
theorem dX11_floor_74 : decode cX11_floor 74 = .ok (.iload_n 1, 1) := by decide +kernel
theorem dX11_floor_75 : decode cX11_floor 75 = .ok (.iaload, 1) := by decide +kernel
theorem dX11_floor_76 : decode cX11_floor 76 = .ok (.ireturn, 1) := by decide +kernel
theorem dX11_floor_77 : decode cX11_floor 77 = .ok (.aload_n 3, 1) := by decide +kernel
theorem dX11_floor_78 : decode cX11_floor 78 = .ok (.getfield 221, 3) := by decide +kernel
theorem dX11_floor_81 : decode cX11_floor 81 = .ok (.iload_n 1, 1) := by decide +kernel
theorem dX11_floor_82 : decode cX11_floor 82 = .ok (.iaload, 1) := by decide +kernel
theorem dX11_floor_83 : decode cX11_floor 83 = .ok (.ireturn, 1) := by decide +kernel
theorem dX11_floor_84 : decode cX11_floor 84 = .ok (.iconst (-1), 1) := by decide +kernel
theorem dX11_floor_85 : decode cX11_floor 85 = .ok (.ireturn, 1) := by decide +kernel
theorem dX11_grow_0 : decode cX11_grow 0 = .ok (.iload_n 1, 1) := by decide +kernel
theorem dX11_grow_1 : decode cX11_grow 1 = .ok (.ifCond .lt 19, 3) := by decide +kernel
theorem dX11_grow_10 : decode cX11_grow 10 = .ok (.getfield 43, 3) := by decide +kernel
theorem dX11_grow_13 : decode cX11_grow 13 = .ok (.iload_n 1, 1) := by decide +kernel
theorem dX11_grow_14 : decode cX11_grow 14 = .ok (.invokevirtual 367, 3) := by decide +kernel
theorem dX11_grow_17 : decode cX11_grow 17 = .ok (.goto 4, 3) := by decide +kernel
theorem dX11_grow_20 : decode cX11_grow 20 = .ok (.iconst (-1), 1) := by decide +kernel
theorem dX11_grow_21 : decode cX11_grow 21 = .ok (.ireturn, 1) := by decide +kernel
theorem dX11_grow_4 : decode cX11_grow 4 = .ok (.iload_n 1, 1) := by decide +kernel
theorem dX11_grow_5 : decode cX11_grow 5 = .ok (.iconst 5, 1) := by decide +kernel
theorem dX11_grow_6 : decode cX11_grow 6 = .ok (.if_icmp .gt 14, 3) := by decide +kernel
theorem dX11_grow_9 : decode cX11_grow 9 = .ok (.aload_n 0, 1) := by decide +kernel
theorem dX11_has_0 : decode cX11_has 0 = .ok (.aload_n 0, 1) := by decide +kernel
theorem dX11_has_1 : decode cX11_has 1 = .ok (.getfield 43, 3) := by decide +kernel
theorem dX11_has_101 : decode cX11_has 101 = .ok (.ireturn, 1) := by decide +kernel
theorem dX11_has_102 : decode cX11_has 102 = .ok (.aload_n 2, 1) := by decide +kernel
theorem dX11_has_103 : decode cX11_has 103 = .ok (.getfield 155, 3) := by decide +kernel
theorem dX11_has_106 : decode cX11_has 106 = .ok (.getfield 159, 3) := by decide +kernel
theorem dX11_has_109 : decode cX11_has 109 = .ok (.ireturn, 1) := by decide +kernel
theorem dX11_has_110 : decode cX11_has 110 = .ok (.aload_n 2, 1) := by decide +kernel
theorem dX11_has_111 : decode cX11_has 111 = .ok (.getfield 162, 3) := by decide +kernel
theorem dX11_has_114 : decode cX11_has 114 = .ok (.ireturn, 1) := by decide +kernel
theorem dX11_has_115 : decode cX11_has 115 = .ok (.aload_n 2, 1) := by decide +kernel
theorem dX11_has_116 : decode cX11_has 116 = .ok (.invokevirtual 165, 3) := by decide +kernel
theorem dX11_has_119 : decode cX11_has 119 = .ok (.ireturn, 1) := by decide +kernel
theorem dX11_has_120 : decode cX11_has 120 = .ok (.iconst (-1), 1) := by decide +kernel
theorem dX11_has_121 : decode cX11_has 121 = .ok (.ireturn, 1) := by decide +kernel
theorem dX11_has_4 : decode cX11_has 4 = .ok (.getfield 121, 3) := by decide +kernel
theorem dX11_has_60 : decode cX11_has 60 = .ok (.aload_n 2, 1) := by decide +kernel
theorem dX11_has_61 : decode cX11_has 61 = .ok (.getfield 129, 3) := by decide +kernel
theorem dX11_has_64 : decode cX11_has 64 = .ok (.getfield 133, 3) := by decide +kernel
theorem dX11_has_67 : decode cX11_has 67 = .ok (.ireturn, 1) := by decide +kernel
theorem dX11_has_68 : decode cX11_has 68 = .ok (.aload_n 2, 1) := by decide +kernel
theorem dX11_has_69 : decode cX11_has 69 = .ok (.getfield 136, 3) := by decide +kernel
theorem dX11_has_7 : decode cX11_has 7 = .ok (.astore_n 2, 1) := by decide +kernel
theorem dX11_has_72 : decode cX11_has 72 = .ok (.ireturn, 1) := by decide +kernel
theorem dX11_has_73 : decode cX11_has 73 = .ok (.aload_n 2, 1) := by decide +kernel
theorem dX11_has_74 : decode cX11_has 74 = .ok (.getfield 139, 3) := by decide +kernel
theorem dX11_has_77 : decode cX11_has 77 = .ok (.getfield 143, 3) := by decide +kernel
theorem dX11_has_8 : decode cX11_has 8 = .ok (.iload_n 1, 1) := by decide +kernel
theorem dX11_has_80 : decode cX11_has 80 = .ok (.ireturn, 1) := by decide +kernel
theorem dX11_has_81 : decode cX11_has 81 = .ok (.aload_n 2, 1) := by decide +kernel
theorem dX11_has_82 : decode cX11_has 82 = .ok (.getfield 146, 3) := by decide +kernel
theorem dX11_has_85 : decode cX11_has 85 = .ok (.ireturn, 1) := by decide +kernel
theorem dX11_has_86 : decode cX11_has 86 = .ok (.aload_n 2, 1) := by decide +kernel
theorem dX11_has_87 : decode cX11_has 87 = .ok (.getfield 129, 3) := by decide +kernel
theorem dX11_has_9 : decode cX11_has 9 = .ok (.tableswitch 111 0 8 #[51, 59, 64, 72, 77, 85, 93, 101, 106], 51) := by decide +kernel
theorem dX11_has_90 : decode cX11_has 90 = .ok (.getfield 149, 3) := by decide +kernel
theorem dX11_has_93 : decode cX11_has 93 = .ok (.ireturn, 1) := by decide +kernel
theorem dX11_has_94 : decode cX11_has 94 = .ok (.aload_n 2, 1) := by decide +kernel
theorem dX11_has_95 : decode cX11_has 95 = .ok (.getfield 129, 3) := by decide +kernel
theorem dX11_has_98 : decode cX11_has 98 = .ok (.getfield 152, 3) := by decide +kernel
theorem dX11_isBelow_0 : decode cX11_isBelow 0 = .ok (.iload_n 0, 1) := by decide +kernel
theorem dX11_isBelow_1 : decode cX11_isBelow 1 = .ok (.ifCond .lt 12, 3) := by decide +kernel
theorem dX11_isBelow_10 : decode cX11_isBelow 10 = .ok (.goto 4, 3) := by decide +kernel
theorem dX11_isBelow_13 : decode cX11_isBelow 13 = .ok (.iconst 0, 1) := by decide +kernel
theorem dX11_isBelow_14 : decode cX11_isBelow 14 = .ok (.ireturn, 1) := by decide +kernel
theorem dX11_isBelow_4 : decode cX11_isBelow 4 = .ok (.iload_n 0, 1) := by decide +kernel
theorem dX11_isBelow_5 : decode cX11_isBelow 5 = .ok (.iload_n 1, 1) := by decide +kernel
theorem dX11_isBelow_6 : decode cX11_isBelow 6 = .ok (.if_icmp .ge 7, 3) := by decide +kernel
theorem dX11_isBelow_9 : decode cX11_isBelow 9 = .ok (.iconst 1, 1) := by decide +kernel
theorem dX11_isDay_0 : decode cX11_isDay 0 = .ok (.iload_n 0, 1) := by decide +kernel
theorem dX11_isDay_1 : decode cX11_isDay 1 = .ok (.iconst 5, 1) := by decide +kernel
theorem dX11_isDay_2 : decode cX11_isDay 2 = .ok (.invokestatic 169, 3) := by decide +kernel
theorem dX11_isDay_5 : decode cX11_isDay 5 = .ok (.ireturn, 1) := by decide +kernel
theorem dX11_isImage_0 : decode cX11_isImage 0 = .ok (.aload_n 0, 1) := by decide +kernel
theorem dX11_isImage_1 : decode cX11_isImage 1 = .ok (.getfield 43, 3) := by decide +kernel
theorem dX11_isImage_10 : decode cX11_isImage 10 = .ok (.getfield 143, 3) := by decide +kernel
theorem dX11_isImage_13 : decode cX11_isImage 13 = .ok (.istore_n 1, 1) := by decide +kernel
theorem dX11_isImage_14 : decode cX11_isImage 14 = .ok (.aload_n 0, 1) := by decide +kernel
theorem dX11_isImage_15 : decode cX11_isImage 15 = .ok (.getfield 13, 3) := by decide +kernel
theorem dX11_isImage_18 : decode cX11_isImage 18 = .ok (.iload_n 1, 1) := by decide +kernel
theorem dX11_isImage_19 : decode cX11_isImage 19 = .ok (.iconst 2, 1) := by decide +kernel
theorem dX11_isImage_20 : decode cX11_isImage 20 = .ok (.iadd, 1) := by decide +kernel
theorem dX11_isImage_21 : decode cX11_isImage 21 = .ok (.if_icmp .ne 21, 3) := by decide +kernel
theorem dX11_isImage_24 : decode cX11_isImage 24 = .ok (.aload_n 0, 1) := by decide +kernel
theorem dX11_isImage_25 : decode cX11_isImage 25 = .ok (.getfield 9, 3) := by decide +kernel
theorem dX11_isImage_28 : decode cX11_isImage 28 = .ok (.iconst 0, 1) := by decide +kernel
theorem dX11_isImage_29 : decode cX11_isImage 29 = .ok (.iaload, 1) := by decide +kernel
theorem dX11_isImage_30 : decode cX11_isImage 30 = .ok (.iload_n 1, 1) := by decide +kernel
theorem dX11_isImage_31 : decode cX11_isImage 31 = .ok (.if_icmp .ne 11, 3) := by decide +kernel
theorem dX11_isImage_34 : decode cX11_isImage 34 = .ok (.aload_n 0, 1) := by decide +kernel
theorem dX11_isImage_35 : decode cX11_isImage 35 = .ok (.iconst 1, 1) := by decide +kernel
theorem dX11_isImage_36 : decode cX11_isImage 36 = .ok (.invokevirtual 224, 3) := by decide +kernel
theorem dX11_isImage_39 : decode cX11_isImage 39 = .ok (.ifCond .ne 5, 3) := by decide +kernel
theorem dX11_isImage_4 : decode cX11_isImage 4 = .ok (.getfield 121, 3) := by decide +kernel
theorem dX11_isImage_42 : decode cX11_isImage 42 = .ok (.iconst 0, 1) := by decide +kernel
theorem dX11_isImage_43 : decode cX11_isImage 43 = .ok (.ireturn, 1) := by decide +kernel
theorem dX11_isImage_44 : decode cX11_isImage 44 = .ok (.aload_n 0, 1) := by decide +kernel
theorem dX11_isImage_45 : decode cX11_isImage 45 = .ok (.getfield 9, 3) := by decide +kernel
theorem dX11_isImage_48 : decode cX11_isImage 48 = .ok (.iload_n 1, 1) := by decide +kernel
theorem dX11_isImage_49 : decode cX11_isImage 49 = .ok (.iconst 1, 1) := by decide +kernel
theorem dX11_isImage_50 : decode cX11_isImage 50 = .ok (.iadd, 1) := by decide +kernel
theorem dX11_isImage_51 : decode cX11_isImage 51 = .ok (.iaload, 1) := by decide +kernel
theorem dX11_isImage_52 : decode cX11_isImage 52 = .ok (.aload_n 0, 1) := by decide +kernel
theorem dX11_isImage_53 : decode cX11_isImage 53 = .ok (.getfield 9, 3) := by decide +kernel
theorem dX11_isImage_56 : decode cX11_isImage 56 = .ok (.iload_n 1, 1) := by decide +kernel
theorem dX11_isImage_57 : decode cX11_isImage 57 = .ok (.iconst 1, 1) := by decide +kernel
theorem dX11_isImage_58 : decode cX11_isImage 58 = .ok (.iadd, 1) := by decide +kernel
theorem dX11_isImage_59 : decode cX11_isImage 59 = .ok (.invokestatic 373, 3) := by decide +kernel
theorem dX11_isImage_62 : decode cX11_isImage 62 = .ok (.if_icmp .ne 7, 3) := by decide +kernel
theorem dX11_isImage_65 : decode cX11_isImage 65 = .ok (.iconst 1, 1) := by decide +kernel
theorem dX11_isImage_66 : decode cX11_isImage 66 = .ok (.goto 4, 3) := by decide +kernel
theorem dX11_isImage_69 : decode cX11_isImage 69 = .ok (.iconst 0, 1) := by decide +kernel
theorem dX11_isImage_7 : decode cX11_isImage 7 = .ok (.getfield 139, 3) := by decide +kernel
theorem dX11_isImage_70 : decode cX11_isImage 70 = .ok (.ireturn, 1) := by decide +kernel
theorem dX11_isPart_0 : decode cX11_isPart 0 = .ok (.iload_n 0, 1) := by decide +kernel
theorem dX11_isPart_1 : decode cX11_isPart 1 = .ok (.ifCond .lt 13, 3) := by decide +kernel
theorem dX11_isPart_10 : decode cX11_isPart 10 = .ok (.iconst 1, 1) := by decide +kernel
theorem dX11_isPart_11 : decode cX11_isPart 11 = .ok (.goto 4, 3) := by decide +kernel
theorem dX11_isPart_14 : decode cX11_isPart 14 = .ok (.iconst 0, 1) := by decide +kernel
theorem dX11_isPart_15 : decode cX11_isPart 15 = .ok (.ireturn, 1) := by decide +kernel
theorem dX11_isPart_4 : decode cX11_isPart 4 = .ok (.iload_n 0, 1) := by decide +kernel
theorem dX11_isPart_5 : decode cX11_isPart 5 = .ok (.bipush 100, 2) := by decide +kernel
theorem dX11_isPart_7 : decode cX11_isPart 7 = .ok (.if_icmp .gt 7, 3) := by decide +kernel
theorem dX11_isPerson_0 : decode cX11_isPerson 0 = .ok (.iload_n 1, 1) := by decide +kernel
theorem dX11_isPerson_1 : decode cX11_isPerson 1 = .ok (.aload_n 0, 1) := by decide +kernel
theorem dX11_isPerson_11 : decode cX11_isPerson 11 = .ok (.getfield 143, 3) := by decide +kernel
theorem dX11_isPerson_14 : decode cX11_isPerson 14 = .ok (.invokestatic 169, 3) := by decide +kernel
theorem dX11_isPerson_17 : decode cX11_isPerson 17 = .ok (.ireturn, 1) := by decide +kernel
theorem dX11_isPerson_2 : decode cX11_isPerson 2 = .ok (.getfield 43, 3) := by decide +kernel
theorem dX11_isPerson_5 : decode cX11_isPerson 5 = .ok (.getfield 121, 3) := by decide +kernel
theorem dX11_isPerson_8 : decode cX11_isPerson 8 = .ok (.getfield 139, 3) := by decide +kernel
theorem dX11_letterOf_0 : decode cX11_letterOf 0 = .ok (.iconst 0, 1) := by decide +kernel
theorem dX11_letterOf_1 : decode cX11_letterOf 1 = .ok (.istore_n 2, 1) := by decide +kernel
theorem dX11_letterOf_11 : decode cX11_letterOf 11 = .ok (.if_icmp .ge 13, 3) := by decide +kernel
theorem dX11_letterOf_14 : decode cX11_letterOf 14 = .ok (.iinc 2 1, 3) := by decide +kernel
theorem dX11_letterOf_17 : decode cX11_letterOf 17 = .ok (.iload_n 3, 1) := by decide +kernel
theorem dX11_letterOf_18 : decode cX11_letterOf 18 = .ok (.iconst 5, 1) := by decide +kernel
theorem dX11_letterOf_19 : decode cX11_letterOf 19 = .ok (.ishr, 1) := by decide +kernel
theorem dX11_letterOf_2 : decode cX11_letterOf 2 = .ok (.iload_n 0, 1) := by decide +kernel
theorem dX11_letterOf_20 : decode cX11_letterOf 20 = .ok (.istore_n 3, 1) := by decide +kernel
theorem dX11_letterOf_21 : decode cX11_letterOf 21 = .ok (.goto (-17), 3) := by decide +kernel
theorem dX11_letterOf_24 : decode cX11_letterOf 24 = .ok (.iload_n 1, 1) := by decide +kernel
theorem dX11_letterOf_25 : decode cX11_letterOf 25 = .ok (.iload_n 2, 1) := by decide +kernel
theorem dX11_letterOf_26 : decode cX11_letterOf 26 = .ok (.invokestatic 169, 3) := by decide +kernel
theorem dX11_letterOf_29 : decode cX11_letterOf 29 = .ok (.ifCond .ne 5, 3) := by decide +kernel
theorem dX11_letterOf_3 : decode cX11_letterOf 3 = .ok (.istore_n 3, 1) := by decide +kernel
theorem dX11_letterOf_32 : decode cX11_letterOf 32 = .ok (.iconst (-1), 1) := by decide +kernel
theorem dX11_letterOf_33 : decode cX11_letterOf 33 = .ok (.ireturn, 1) := by decide +kernel
theorem dX11_letterOf_34 : decode cX11_letterOf 34 = .ok (.iload_n 2, 1) := by decide +kernel
theorem dX11_letterOf_35 : decode cX11_letterOf 35 = .ok (.iconst 1, 1) := by decide +kernel
theorem dX11_letterOf_36 : decode cX11_letterOf 36 = .ok (.isub, 1) := by decide +kernel
theorem dX11_letterOf_37 : decode cX11_letterOf 37 = .ok (.iload_n 1, 1) := by decide +kernel
theorem dX11_letterOf_38 : decode cX11_letterOf 38 = .ok (.isub, 1) := by decide +kernel
theorem dX11_letterOf_39 : decode cX11_letterOf 39 = .ok (.iconst 5, 1) := by decide +kernel
theorem dX11_letterOf_4 : decode cX11_letterOf 4 = .ok (.iload_n 3, 1) := by decide +kernel
theorem dX11_letterOf_40 : decode cX11_letterOf 40 = .ok (.imul, 1) := by decide +kernel
theorem dX11_letterOf_41 : decode cX11_letterOf 41 = .ok (.istore_n 3, 1) := by decide +kernel
theorem dX11_letterOf_42 : decode cX11_letterOf 42 = .ok (.iload_n 0, 1) := by decide +kernel
theorem dX11_letterOf_43 : decode cX11_letterOf 43 = .ok (.iload_n 3, 1) := by decide +kernel
theorem dX11_letterOf_44 : decode cX11_letterOf 44 = .ok (.ishr, 1) := by decide +kernel
theorem dX11_letterOf_45 : decode cX11_letterOf 45 = .ok (.bipush 31, 2) := by decide +kernel
theorem dX11_letterOf_47 : decode cX11_letterOf 47 = .ok (.iand, 1) := by decide +kernel
theorem dX11_letterOf_48 : decode cX11_letterOf 48 = .ok (.bipush 96, 2) := by decide +kernel
theorem dX11_letterOf_5 : decode cX11_letterOf 5 = .ok (.ifCond .le 19, 3) := by decide +kernel
theorem dX11_letterOf_50 : decode cX11_letterOf 50 = .ok (.iadd, 1) := by decide +kernel
theorem dX11_letterOf_51 : decode cX11_letterOf 51 = .ok (.ireturn, 1) := by decide +kernel
theorem dX11_letterOf_8 : decode cX11_letterOf 8 = .ok (.iload_n 2, 1) := by decide +kernel
theorem dX11_letterOf_9 : decode cX11_letterOf 9 = .ok (.bipush 6, 2) := by decide +kernel
theorem dX11_letter_0 : decode cX11_letter 0 = .ok (.aload_n 0, 1) := by decide +kernel
theorem dX11_letter_1 : decode cX11_letter 1 = .ok (.getfield 43, 3) := by decide +kernel
theorem dX11_letter_10 : decode cX11_letter 10 = .ok (.tableswitch 122 0 2 #[26, 60, 88], 26) := by decide +kernel
theorem dX11_letter_101 : decode cX11_letter 101 = .ok (.getfield 139, 3) := by decide +kernel
theorem dX11_letter_104 : decode cX11_letter 104 = .ok (.getfield 143, 3) := by decide +kernel
theorem dX11_letter_107 : decode cX11_letter 107 = .ok (.invokestatic 169, 3) := by decide +kernel
theorem dX11_letter_110 : decode cX11_letter 110 = .ok (.ifCond .eq 20, 3) := by decide +kernel
theorem dX11_letter_113 : decode cX11_letter 113 = .ok (.aload 4, 2) := by decide +kernel
theorem dX11_letter_115 : decode cX11_letter 115 = .ok (.getfield 139, 3) := by decide +kernel
theorem dX11_letter_118 : decode cX11_letter 118 = .ok (.getfield 183, 3) := by decide +kernel
theorem dX11_letter_121 : decode cX11_letter 121 = .ok (.iload_n 2, 1) := by decide +kernel
theorem dX11_letter_122 : decode cX11_letter 122 = .ok (.iaload, 1) := by decide +kernel
theorem dX11_letter_123 : decode cX11_letter 123 = .ok (.iload_n 3, 1) := by decide +kernel
theorem dX11_letter_124 : decode cX11_letter 124 = .ok (.invokestatic 176, 3) := by decide +kernel
theorem dX11_letter_127 : decode cX11_letter 127 = .ok (.goto 4, 3) := by decide +kernel
theorem dX11_letter_130 : decode cX11_letter 130 = .ok (.iconst (-1), 1) := by decide +kernel
theorem dX11_letter_131 : decode cX11_letter 131 = .ok (.ireturn, 1) := by decide +kernel
theorem dX11_letter_132 : decode cX11_letter 132 = .ok (.iconst (-1), 1) := by decide +kernel
theorem dX11_letter_133 : decode cX11_letter 133 = .ok (.ireturn, 1) := by decide +kernel
theorem dX11_letter_36 : decode cX11_letter 36 = .ok (.iload_n 2, 1) := by decide +kernel
theorem dX11_letter_37 : decode cX11_letter 37 = .ok (.aload 4, 2) := by decide +kernel
theorem dX11_letter_39 : decode cX11_letter 39 = .ok (.getfield 129, 3) := by decide +kernel
theorem dX11_letter_4 : decode cX11_letter 4 = .ok (.getfield 121, 3) := by decide +kernel
theorem dX11_letter_42 : decode cX11_letter 42 = .ok (.getfield 133, 3) := by decide +kernel
theorem dX11_letter_45 : decode cX11_letter 45 = .ok (.invokestatic 169, 3) := by decide +kernel
theorem dX11_letter_48 : decode cX11_letter 48 = .ok (.ifCond .eq 20, 3) := by decide +kernel
theorem dX11_letter_51 : decode cX11_letter 51 = .ok (.aload 4, 2) := by decide +kernel
theorem dX11_letter_53 : decode cX11_letter 53 = .ok (.getfield 129, 3) := by decide +kernel
theorem dX11_letter_56 : decode cX11_letter 56 = .ok (.getfield 173, 3) := by decide +kernel
theorem dX11_letter_59 : decode cX11_letter 59 = .ok (.iload_n 2, 1) := by decide +kernel
theorem dX11_letter_60 : decode cX11_letter 60 = .ok (.iaload, 1) := by decide +kernel
theorem dX11_letter_61 : decode cX11_letter 61 = .ok (.iload_n 3, 1) := by decide +kernel
theorem dX11_letter_62 : decode cX11_letter 62 = .ok (.invokestatic 176, 3) := by decide +kernel
theorem dX11_letter_65 : decode cX11_letter 65 = .ok (.goto 4, 3) := by decide +kernel
theorem dX11_letter_68 : decode cX11_letter 68 = .ok (.iconst (-1), 1) := by decide +kernel
theorem dX11_letter_69 : decode cX11_letter 69 = .ok (.ireturn, 1) := by decide +kernel
theorem dX11_letter_7 : decode cX11_letter 7 = .ok (.astore 4, 2) := by decide +kernel
theorem dX11_letter_70 : decode cX11_letter 70 = .ok (.iload_n 2, 1) := by decide +kernel
theorem dX11_letter_71 : decode cX11_letter 71 = .ok (.aload 4, 2) := by decide +kernel
theorem dX11_letter_73 : decode cX11_letter 73 = .ok (.getfield 136, 3) := by decide +kernel
theorem dX11_letter_76 : decode cX11_letter 76 = .ok (.invokestatic 169, 3) := by decide +kernel
theorem dX11_letter_79 : decode cX11_letter 79 = .ok (.ifCond .eq 17, 3) := by decide +kernel
theorem dX11_letter_82 : decode cX11_letter 82 = .ok (.aload 4, 2) := by decide +kernel
theorem dX11_letter_84 : decode cX11_letter 84 = .ok (.getfield 180, 3) := by decide +kernel
theorem dX11_letter_87 : decode cX11_letter 87 = .ok (.iload_n 2, 1) := by decide +kernel
theorem dX11_letter_88 : decode cX11_letter 88 = .ok (.iaload, 1) := by decide +kernel
theorem dX11_letter_89 : decode cX11_letter 89 = .ok (.iload_n 3, 1) := by decide +kernel
theorem dX11_letter_9 : decode cX11_letter 9 = .ok (.iload_n 1, 1) := by decide +kernel
theorem dX11_letter_90 : decode cX11_letter 90 = .ok (.invokestatic 176, 3) := by decide +kernel
theorem dX11_letter_93 : decode cX11_letter 93 = .ok (.goto 4, 3) := by decide +kernel
theorem dX11_letter_96 : decode cX11_letter 96 = .ok (.iconst (-1), 1) := by decide +kernel
theorem dX11_letter_97 : decode cX11_letter 97 = .ok (.ireturn, 1) := by decide +kernel
theorem dX11_letter_98 : decode cX11_letter 98 = .ok (.iload_n 2, 1) := by decide +kernel
theorem dX11_letter_99 : decode cX11_letter 99 = .ok (.aload 4, 2) := by decide +kernel
theorem dX11_met_0 : decode cX11_met 0 = .ok (.iload_n 1, 1) := by decide +kernel
theorem dX11_met_1 : decode cX11_met 1 = .ok (.aload_n 0, 1) := by decide +kernel
theorem dX11_met_11 : decode cX11_met 11 = .ok (.invokestatic 169, 3) := by decide +kernel
theorem dX11_met_14 : decode cX11_met 14 = .ok (.ifCond .eq 14, 3) := by decide +kernel
theorem dX11_met_17 : decode cX11_met 17 = .ok (.aload_n 0, 1) := by decide +kernel
theorem dX11_met_18 : decode cX11_met 18 = .ok (.getfield 43, 3) := by decide +kernel
theorem dX11_met_2 : decode cX11_met 2 = .ok (.getfield 43, 3) := by decide +kernel
theorem dX11_met_21 : decode cX11_met 21 = .ok (.iload_n 1, 1) := by decide +kernel
theorem dX11_met_22 : decode cX11_met 22 = .ok (.invokevirtual 242, 3) := by decide +kernel
theorem dX11_met_25 : decode cX11_met 25 = .ok (.goto 4, 3) := by decide +kernel
theorem dX11_met_28 : decode cX11_met 28 = .ok (.iconst (-1), 1) := by decide +kernel
theorem dX11_met_29 : decode cX11_met 29 = .ok (.ireturn, 1) := by decide +kernel
theorem dX11_met_5 : decode cX11_met 5 = .ok (.getfield 121, 3) := by decide +kernel
theorem dX11_met_8 : decode cX11_met 8 = .ok (.getfield 146, 3) := by decide +kernel
theorem dX11_never_0 : decode cX11_never 0 = .ok (.iload_n 1, 1) := by decide +kernel
theorem dX11_never_1 : decode cX11_never 1 = .ok (.iconst 1, 1) := by decide +kernel
theorem dX11_never_11 : decode cX11_never 11 = .ok (.aload_n 0, 1) := by decide +kernel
theorem dX11_never_12 : decode cX11_never 12 = .ok (.getfield 43, 3) := by decide +kernel
theorem dX11_never_15 : decode cX11_never 15 = .ok (.iload_n 1, 1) := by decide +kernel
theorem dX11_never_16 : decode cX11_never 16 = .ok (.invokevirtual 364, 3) := by decide +kernel
theorem dX11_never_19 : decode cX11_never 19 = .ok (.goto 4, 3) := by decide +kernel
theorem dX11_never_2 : decode cX11_never 2 = .ok (.if_icmp .lt 20, 3) := by decide +kernel
theorem dX11_never_22 : decode cX11_never 22 = .ok (.iconst (-1), 1) := by decide +kernel
theorem dX11_never_23 : decode cX11_never 23 = .ok (.ireturn, 1) := by decide +kernel
theorem dX11_never_5 : decode cX11_never 5 = .ok (.iload_n 1, 1) := by decide +kernel
theorem dX11_never_6 : decode cX11_never 6 = .ok (.bipush 9, 2) := by decide +kernel
theorem dX11_never_8 : decode cX11_never 8 = .ok (.if_icmp .gt 14, 3) := by decide +kernel
theorem dX11_octet_0 : decode cX11_octet 0 = .ok (.iload_n 1, 1) := by decide +kernel
theorem dX11_octet_1 : decode cX11_octet 1 = .ok (.aload_n 0, 1) := by decide +kernel
theorem dX11_octet_11 : decode cX11_octet 11 = .ok (.aload_n 0, 1) := by decide +kernel
theorem dX11_octet_12 : decode cX11_octet 12 = .ok (.getfield 80, 3) := by decide +kernel
theorem dX11_octet_15 : decode cX11_octet 15 = .ok (.iload_n 1, 1) := by decide +kernel
theorem dX11_octet_16 : decode cX11_octet 16 = .ok (.iaload, 1) := by decide +kernel
theorem dX11_octet_17 : decode cX11_octet 17 = .ok (.goto 4, 3) := by decide +kernel
theorem dX11_octet_2 : decode cX11_octet 2 = .ok (.getfield 83, 3) := by decide +kernel
theorem dX11_octet_20 : decode cX11_octet 20 = .ok (.iconst (-1), 1) := by decide +kernel
theorem dX11_octet_21 : decode cX11_octet 21 = .ok (.ireturn, 1) := by decide +kernel
theorem dX11_octet_5 : decode cX11_octet 5 = .ok (.invokestatic 169, 3) := by decide +kernel
theorem dX11_octet_8 : decode cX11_octet 8 = .ok (.ifCond .eq 12, 3) := by decide +kernel
theorem dX11_person_0 : decode cX11_person 0 = .ok (.aload_n 0, 1) := by decide +kernel
theorem dX11_person_1 : decode cX11_person 1 = .ok (.getfield 43, 3) := by decide +kernel
theorem dX11_person_10 : decode cX11_person 10 = .ok (.astore_n 3, 1) := by decide +kernel
theorem dX11_person_100 : decode cX11_person 100 = .ok (.iload_n 1, 1) := by decide +kernel
theorem dX11_person_101 : decode cX11_person 101 = .ok (.iaload, 1) := by decide +kernel
theorem dX11_person_102 : decode cX11_person 102 = .ok (.ireturn, 1) := by decide +kernel
theorem dX11_person_103 : decode cX11_person 103 = .ok (.aload_n 3, 1) := by decide +kernel
theorem dX11_person_104 : decode cX11_person 104 = .ok (.getfield 203, 3) := by decide +kernel
theorem dX11_person_107 : decode cX11_person 107 = .ok (.iload_n 1, 1) := by decide +kernel
theorem dX11_person_108 : decode cX11_person 108 = .ok (.iaload, 1) := by decide +kernel
theorem dX11_person_109 : decode cX11_person 109 = .ok (.ireturn, 1) := by decide +kernel
theorem dX11_person_11 : decode cX11_person 11 = .ok (.aload_n 0, 1) := by decide +kernel
theorem dX11_person_110 : decode cX11_person 110 = .ok (.aload_n 0, 1) := by decide +kernel
theorem dX11_person_111 : decode cX11_person 111 = .ok (.getfield 43, 3) := by decide +kernel
theorem dX11_person_114 : decode cX11_person 114 = .ok (.getfield 206, 3) := by decide +kernel
theorem dX11_person_117 : decode cX11_person 117 = .ok (.iload_n 1, 1) := by decide +kernel
theorem dX11_person_118 : decode cX11_person 118 = .ok (.iaload, 1) := by decide +kernel
theorem dX11_person_119 : decode cX11_person 119 = .ok (.ireturn, 1) := by decide +kernel
theorem dX11_person_12 : decode cX11_person 12 = .ok (.iload_n 1, 1) := by decide +kernel
theorem dX11_person_120 : decode cX11_person 120 = .ok (.aload_n 3, 1) := by decide +kernel
theorem dX11_person_121 : decode cX11_person 121 = .ok (.getfield 209, 3) := by decide +kernel
theorem dX11_person_124 : decode cX11_person 124 = .ok (.iload_n 1, 1) := by decide +kernel
theorem dX11_person_125 : decode cX11_person 125 = .ok (.iaload, 1) := by decide +kernel
theorem dX11_person_126 : decode cX11_person 126 = .ok (.ireturn, 1) := by decide +kernel
theorem dX11_person_127 : decode cX11_person 127 = .ok (.iconst (-1), 1) := by decide +kernel
theorem dX11_person_128 : decode cX11_person 128 = .ok (.ireturn, 1) := by decide +kernel
theorem dX11_person_13 : decode cX11_person 13 = .ok (.invokevirtual 184, 3) := by decide +kernel
theorem dX11_person_16 : decode cX11_person 16 = .ok (.ifCond .ne 5, 3) := by decide +kernel
theorem dX11_person_19 : decode cX11_person 19 = .ok (.iconst (-1), 1) := by decide +kernel
theorem dX11_person_20 : decode cX11_person 20 = .ok (.ireturn, 1) := by decide +kernel
theorem dX11_person_21 : decode cX11_person 21 = .ok (.iload_n 2, 1) := by decide +kernel
theorem dX11_person_22 : decode cX11_person 22 = .ok (.tableswitch 105 0 7 #[46, 53, 60, 67, 74, 81, 88, 98], 46) := by decide +kernel
theorem dX11_person_4 : decode cX11_person 4 = .ok (.getfield 121, 3) := by decide +kernel
theorem dX11_person_68 : decode cX11_person 68 = .ok (.aload_n 3, 1) := by decide +kernel
theorem dX11_person_69 : decode cX11_person 69 = .ok (.getfield 188, 3) := by decide +kernel
theorem dX11_person_7 : decode cX11_person 7 = .ok (.getfield 139, 3) := by decide +kernel
theorem dX11_person_72 : decode cX11_person 72 = .ok (.iload_n 1, 1) := by decide +kernel
theorem dX11_person_73 : decode cX11_person 73 = .ok (.iaload, 1) := by decide +kernel
theorem dX11_person_74 : decode cX11_person 74 = .ok (.ireturn, 1) := by decide +kernel
theorem dX11_person_75 : decode cX11_person 75 = .ok (.aload_n 3, 1) := by decide +kernel
theorem dX11_person_76 : decode cX11_person 76 = .ok (.getfield 191, 3) := by decide +kernel
theorem dX11_person_79 : decode cX11_person 79 = .ok (.iload_n 1, 1) := by decide +kernel
theorem dX11_person_80 : decode cX11_person 80 = .ok (.iaload, 1) := by decide +kernel
theorem dX11_person_81 : decode cX11_person 81 = .ok (.ireturn, 1) := by decide +kernel
theorem dX11_person_82 : decode cX11_person 82 = .ok (.aload_n 3, 1) := by decide +kernel
theorem dX11_person_83 : decode cX11_person 83 = .ok (.getfield 194, 3) := by decide +kernel
theorem dX11_person_86 : decode cX11_person 86 = .ok (.iload_n 1, 1) := by decide +kernel
theorem dX11_person_87 : decode cX11_person 87 = .ok (.iaload, 1) := by decide +kernel
theorem dX11_person_88 : decode cX11_person 88 = .ok (.ireturn, 1) := by decide +kernel
theorem dX11_person_89 : decode cX11_person 89 = .ok (.aload_n 3, 1) := by decide +kernel
theorem dX11_person_90 : decode cX11_person 90 = .ok (.getfield 197, 3) := by decide +kernel
theorem dX11_person_93 : decode cX11_person 93 = .ok (.iload_n 1, 1) := by decide +kernel
theorem dX11_person_94 : decode cX11_person 94 = .ok (.iaload, 1) := by decide +kernel
theorem dX11_person_95 : decode cX11_person 95 = .ok (.ireturn, 1) := by decide +kernel
theorem dX11_person_96 : decode cX11_person 96 = .ok (.aload_n 3, 1) := by decide +kernel
theorem dX11_person_97 : decode cX11_person 97 = .ok (.getfield 200, 3) := by decide +kernel
theorem dX11_should_0 : decode cX11_should 0 = .ok (.iload_n 1, 1) := by decide +kernel
theorem dX11_should_1 : decode cX11_should 1 = .ok (.tableswitch 51 0 2 #[27, 35, 43], 27) := by decide +kernel
theorem dX11_should_28 : decode cX11_should 28 = .ok (.aload_n 0, 1) := by decide +kernel
theorem dX11_should_29 : decode cX11_should 29 = .ok (.getfield 43, 3) := by decide +kernel
theorem dX11_should_32 : decode cX11_should 32 = .ok (.invokevirtual 288, 3) := by decide +kernel
theorem dX11_should_35 : decode cX11_should 35 = .ok (.ireturn, 1) := by decide +kernel
theorem dX11_should_36 : decode cX11_should 36 = .ok (.aload_n 0, 1) := by decide +kernel
theorem dX11_should_37 : decode cX11_should 37 = .ok (.getfield 43, 3) := by decide +kernel
theorem dX11_should_40 : decode cX11_should 40 = .ok (.invokevirtual 291, 3) := by decide +kernel
theorem dX11_should_43 : decode cX11_should 43 = .ok (.ireturn, 1) := by decide +kernel
theorem dX11_should_44 : decode cX11_should 44 = .ok (.aload_n 0, 1) := by decide +kernel
theorem dX11_should_45 : decode cX11_should 45 = .ok (.getfield 43, 3) := by decide +kernel
theorem dX11_should_48 : decode cX11_should 48 = .ok (.invokevirtual 294, 3) := by decide +kernel
theorem dX11_should_51 : decode cX11_should 51 = .ok (.ireturn, 1) := by decide +kernel
theorem dX11_should_52 : decode cX11_should 52 = .ok (.iconst (-1), 1) := by decide +kernel
theorem dX11_should_53 : decode cX11_should 53 = .ok (.ireturn, 1) := by decide +kernel
theorem dX11_shut_0 : decode cX11_shut 0 = .ok (.iload_n 1, 1) := by decide +kernel
theorem dX11_shut_1 : decode cX11_shut 1 = .ok (.invokestatic 230, 3) := by decide +kernel
theorem dX11_shut_11 : decode cX11_shut 11 = .ok (.iload_n 1, 1) := by decide +kernel
theorem dX11_shut_12 : decode cX11_shut 12 = .ok (.invokevirtual 361, 3) := by decide +kernel
theorem dX11_shut_15 : decode cX11_shut 15 = .ok (.goto 4, 3) := by decide +kernel
theorem dX11_shut_18 : decode cX11_shut 18 = .ok (.iconst (-1), 1) := by decide +kernel
theorem dX11_shut_19 : decode cX11_shut 19 = .ok (.ireturn, 1) := by decide +kernel
theorem dX11_shut_4 : decode cX11_shut 4 = .ok (.ifCond .eq 14, 3) := by decide +kernel
theorem dX11_shut_7 : decode cX11_shut 7 = .ok (.aload_n 0, 1) := by decide +kernel
theorem dX11_shut_8 : decode cX11_shut 8 = .ok (.getfield 59, 3) := by decide +kernel
theorem dX11_spent_0 : decode cX11_spent 0 = .ok (.aload_n 0, 1) := by decide +kernel
theorem dX11_spent_1 : decode cX11_spent 1 = .ok (.getfield 52, 3) := by decide +kernel
theorem dX11_spent_4 : decode cX11_spent 4 = .ok (.getfield 266, 3) := by decide +kernel
theorem dX11_spent_7 : decode cX11_spent 7 = .ok (.ireturn, 1) := by decide +kernel
theorem dX11_status_0 : decode cX11_status 0 = .ok (.iload_n 1, 1) := by decide +kernel
theorem dX11_status_1 : decode cX11_status 1 = .ok (.bipush 6, 2) := by decide +kernel
theorem dX11_status_10 : decode cX11_status 10 = .ok (.getfield 86, 3) := by decide +kernel
theorem dX11_status_13 : decode cX11_status 13 = .ok (.iload_n 1, 1) := by decide +kernel
theorem dX11_status_14 : decode cX11_status 14 = .ok (.iaload, 1) := by decide +kernel
theorem dX11_status_15 : decode cX11_status 15 = .ok (.goto 4, 3) := by decide +kernel
theorem dX11_status_18 : decode cX11_status 18 = .ok (.iconst (-1), 1) := by decide +kernel
theorem dX11_status_19 : decode cX11_status 19 = .ok (.ireturn, 1) := by decide +kernel
theorem dX11_status_3 : decode cX11_status 3 = .ok (.invokestatic 169, 3) := by decide +kernel
theorem dX11_status_6 : decode cX11_status 6 = .ok (.ifCond .eq 12, 3) := by decide +kernel
theorem dX11_status_9 : decode cX11_status 9 = .ok (.aload_n 0, 1) := by decide +kernel
theorem dX11_weeks_0 : decode cX11_weeks 0 = .ok (.iconst 1, 1) := by decide +kernel
theorem dX11_weeks_1 : decode cX11_weeks 1 = .ok (.istore_n 1, 1) := by decide +kernel
theorem dX11_weeks_12 : decode cX11_weeks 12 = .ok (.iload_n 1, 1) := by decide +kernel
theorem dX11_weeks_13 : decode cX11_weeks 13 = .ok (.invokevirtual 364, 3) := by decide +kernel
theorem dX11_weeks_16 : decode cX11_weeks 16 = .ok (.ifCond .ne 5, 3) := by decide +kernel
theorem dX11_weeks_19 : decode cX11_weeks 19 = .ok (.iload_n 1, 1) := by decide +kernel
theorem dX11_weeks_2 : decode cX11_weeks 2 = .ok (.iload_n 1, 1) := by decide +kernel
theorem dX11_weeks_20 : decode cX11_weeks 20 = .ok (.ireturn, 1) := by decide +kernel
theorem dX11_weeks_21 : decode cX11_weeks 21 = .ok (.iinc 1 1, 3) := by decide +kernel
theorem dX11_weeks_24 : decode cX11_weeks 24 = .ok (.goto (-22), 3) := by decide +kernel
theorem dX11_weeks_27 : decode cX11_weeks 27 = .ok (.iconst (-1), 1) := by decide +kernel
theorem dX11_weeks_28 : decode cX11_weeks 28 = .ok (.ireturn, 1) := by decide +kernel
theorem dX11_weeks_3 : decode cX11_weeks 3 = .ok (.bipush 9, 2) := by decide +kernel
theorem dX11_weeks_5 : decode cX11_weeks 5 = .ok (.if_icmp .gt 22, 3) := by decide +kernel
theorem dX11_weeks_8 : decode cX11_weeks 8 = .ok (.aload_n 0, 1) := by decide +kernel
theorem dX11_weeks_9 : decode cX11_weeks 9 = .ok (.getfield 43, 3) := by decide +kernel
theorem dX2_findFloor_0 : decode cX2_findFloor 0 = .ok (.aload_n 0, 1) := by decide +kernel
theorem dX2_findFloor_1 : decode cX2_findFloor 1 = .ok (.getfield 12, 3) := by decide +kernel
theorem dX2_findFloor_11 : decode cX2_findFloor 11 = .ok (.getfield 84, 3) := by decide +kernel
theorem dX2_findFloor_14 : decode cX2_findFloor 14 = .ok (.iload_n 1, 1) := by decide +kernel
theorem dX2_findFloor_15 : decode cX2_findFloor 15 = .ok (.invokestatic 85, 3) := by decide +kernel
theorem dX2_findFloor_18 : decode cX2_findFloor 18 = .ok (.ireturn, 1) := by decide +kernel
theorem dX2_findFloor_4 : decode cX2_findFloor 4 = .ok (.getfield 81, 3) := by decide +kernel
theorem dX2_findFloor_7 : decode cX2_findFloor 7 = .ok (.aload_n 0, 1) := by decide +kernel
theorem dX2_findFloor_8 : decode cX2_findFloor 8 = .ok (.getfield 12, 3) := by decide +kernel
theorem dX2_findPerson_0 : decode cX2_findPerson 0 = .ok (.aload_n 0, 1) := by decide +kernel
theorem dX2_findPerson_1 : decode cX2_findPerson 1 = .ok (.getfield 21, 3) := by decide +kernel
theorem dX2_findPerson_11 : decode cX2_findPerson 11 = .ok (.getfield 71, 3) := by decide +kernel
theorem dX2_findPerson_14 : decode cX2_findPerson 14 = .ok (.iload_n 1, 1) := by decide +kernel
theorem dX2_findPerson_15 : decode cX2_findPerson 15 = .ok (.invokestatic 85, 3) := by decide +kernel
theorem dX2_findPerson_18 : decode cX2_findPerson 18 = .ok (.ireturn, 1) := by decide +kernel
theorem dX2_findPerson_4 : decode cX2_findPerson 4 = .ok (.getfield 89, 3) := by decide +kernel
theorem dX2_findPerson_7 : decode cX2_findPerson 7 = .ok (.aload_n 0, 1) := by decide +kernel
theorem dX2_findPerson_8 : decode cX2_findPerson 8 = .ok (.getfield 21, 3) := by decide +kernel
theorem dX2_findTeam_0 : decode cX2_findTeam 0 = .ok (.aload_n 0, 1) := by decide +kernel
theorem dX2_findTeam_1 : decode cX2_findTeam 1 = .ok (.getfield 36, 3) := by decide +kernel
theorem dX2_findTeam_12 : decode cX2_findTeam 12 = .ok (.ireturn, 1) := by decide +kernel
theorem dX2_findTeam_4 : decode cX2_findTeam 4 = .ok (.aload_n 0, 1) := by decide +kernel
theorem dX2_findTeam_5 : decode cX2_findTeam 5 = .ok (.getfield 32, 3) := by decide +kernel
theorem dX2_findTeam_8 : decode cX2_findTeam 8 = .ok (.iload_n 1, 1) := by decide +kernel
theorem dX2_findTeam_9 : decode cX2_findTeam 9 = .ok (.invokestatic 85, 3) := by decide +kernel
theorem dX2_find_0 : decode cX2_find 0 = .ok (.iconst 0, 1) := by decide +kernel
theorem dX2_find_1 : decode cX2_find 1 = .ok (.istore_n 3, 1) := by decide +kernel
theorem dX2_find_10 : decode cX2_find 10 = .ok (.if_icmp .ge 18, 3) := by decide +kernel
theorem dX2_find_13 : decode cX2_find 13 = .ok (.aload_n 0, 1) := by decide +kernel
theorem dX2_find_14 : decode cX2_find 14 = .ok (.iload_n 3, 1) := by decide +kernel
theorem dX2_find_15 : decode cX2_find 15 = .ok (.iaload, 1) := by decide +kernel
theorem dX2_find_16 : decode cX2_find 16 = .ok (.iload_n 2, 1) := by decide +kernel
theorem dX2_find_17 : decode cX2_find 17 = .ok (.if_icmp .ne 5, 3) := by decide +kernel
theorem dX2_find_2 : decode cX2_find 2 = .ok (.iload_n 3, 1) := by decide +kernel
theorem dX2_find_20 : decode cX2_find 20 = .ok (.iload_n 3, 1) := by decide +kernel
theorem dX2_find_21 : decode cX2_find 21 = .ok (.ireturn, 1) := by decide +kernel
theorem dX2_find_22 : decode cX2_find 22 = .ok (.iinc 3 1, 3) := by decide +kernel
theorem dX2_find_25 : decode cX2_find 25 = .ok (.goto (-23), 3) := by decide +kernel
theorem dX2_find_28 : decode cX2_find 28 = .ok (.iconst (-1), 1) := by decide +kernel
theorem dX2_find_29 : decode cX2_find 29 = .ok (.ireturn, 1) := by decide +kernel
theorem dX2_find_3 : decode cX2_find 3 = .ok (.iload_n 1, 1) := by decide +kernel
theorem dX2_find_4 : decode cX2_find 4 = .ok (.if_icmp .ge 24, 3) := by decide +kernel
theorem dX2_find_7 : decode cX2_find 7 = .ok (.iload_n 3, 1) := by decide +kernel
theorem dX2_find_8 : decode cX2_find 8 = .ok (.aload_n 0, 1) := by decide +kernel
theorem dX2_find_9 : decode cX2_find 9 = .ok (.arraylength, 1) := by decide +kernel
theorem dX2_isNamed_0 : decode cX2_isNamed 0 = .ok (.aload_n 0, 1) := by decide +kernel
theorem dX2_isNamed_1 : decode cX2_isNamed 1 = .ok (.iload_n 1, 1) := by decide +kernel
theorem dX2_isNamed_10 : decode cX2_isNamed 10 = .ok (.iload_n 1, 1) := by decide +kernel
theorem dX2_isNamed_11 : decode cX2_isNamed 11 = .ok (.invokevirtual 94, 3) := by decide +kernel
theorem dX2_isNamed_14 : decode cX2_isNamed 14 = .ok (.iconst (-1), 1) := by decide +kernel
theorem dX2_isNamed_15 : decode cX2_isNamed 15 = .ok (.if_icmp .ne 12, 3) := by decide +kernel
theorem dX2_isNamed_18 : decode cX2_isNamed 18 = .ok (.aload_n 0, 1) := by decide +kernel
theorem dX2_isNamed_19 : decode cX2_isNamed 19 = .ok (.iload_n 1, 1) := by decide +kernel
theorem dX2_isNamed_2 : decode cX2_isNamed 2 = .ok (.invokevirtual 90, 3) := by decide +kernel
theorem dX2_isNamed_20 : decode cX2_isNamed 20 = .ok (.invokevirtual 97, 3) := by decide +kernel
theorem dX2_isNamed_23 : decode cX2_isNamed 23 = .ok (.iconst (-1), 1) := by decide +kernel
theorem dX2_isNamed_24 : decode cX2_isNamed 24 = .ok (.if_icmp .eq 7, 3) := by decide +kernel
theorem dX2_isNamed_27 : decode cX2_isNamed 27 = .ok (.iconst 1, 1) := by decide +kernel
theorem dX2_isNamed_28 : decode cX2_isNamed 28 = .ok (.goto 4, 3) := by decide +kernel
theorem dX2_isNamed_31 : decode cX2_isNamed 31 = .ok (.iconst 0, 1) := by decide +kernel
theorem dX2_isNamed_32 : decode cX2_isNamed 32 = .ok (.ireturn, 1) := by decide +kernel
theorem dX2_isNamed_5 : decode cX2_isNamed 5 = .ok (.iconst (-1), 1) := by decide +kernel
theorem dX2_isNamed_6 : decode cX2_isNamed 6 = .ok (.if_icmp .ne 21, 3) := by decide +kernel
theorem dX2_isNamed_9 : decode cX2_isNamed 9 = .ok (.aload_n 0, 1) := by decide +kernel
theorem dX2_meetingTeams_0 : decode cX2_meetingTeams 0 = .ok (.iconst 0, 1) := by decide +kernel
theorem dX2_meetingTeams_1 : decode cX2_meetingTeams 1 = .ok (.istore_n 1, 1) := by decide +kernel
theorem dX2_meetingTeams_12 : decode cX2_meetingTeams 12 = .ok (.aload_n 0, 1) := by decide +kernel
theorem dX2_meetingTeams_13 : decode cX2_meetingTeams 13 = .ok (.getfield 40, 3) := by decide +kernel
theorem dX2_meetingTeams_16 : decode cX2_meetingTeams 16 = .ok (.iload_n 2, 1) := by decide +kernel
theorem dX2_meetingTeams_17 : decode cX2_meetingTeams 17 = .ok (.baload, 1) := by decide +kernel
theorem dX2_meetingTeams_18 : decode cX2_meetingTeams 18 = .ok (.ifCond .eq 6, 3) := by decide +kernel
theorem dX2_meetingTeams_2 : decode cX2_meetingTeams 2 = .ok (.iconst 0, 1) := by decide +kernel
theorem dX2_meetingTeams_21 : decode cX2_meetingTeams 21 = .ok (.iinc 1 1, 3) := by decide +kernel
theorem dX2_meetingTeams_24 : decode cX2_meetingTeams 24 = .ok (.iinc 2 1, 3) := by decide +kernel
theorem dX2_meetingTeams_27 : decode cX2_meetingTeams 27 = .ok (.goto (-23), 3) := by decide +kernel
theorem dX2_meetingTeams_3 : decode cX2_meetingTeams 3 = .ok (.istore_n 2, 1) := by decide +kernel
theorem dX2_meetingTeams_30 : decode cX2_meetingTeams 30 = .ok (.iload_n 1, 1) := by decide +kernel
theorem dX2_meetingTeams_31 : decode cX2_meetingTeams 31 = .ok (.ireturn, 1) := by decide +kernel
theorem dX2_meetingTeams_4 : decode cX2_meetingTeams 4 = .ok (.iload_n 2, 1) := by decide +kernel
theorem dX2_meetingTeams_5 : decode cX2_meetingTeams 5 = .ok (.aload_n 0, 1) := by decide +kernel
theorem dX2_meetingTeams_6 : decode cX2_meetingTeams 6 = .ok (.getfield 32, 3) := by decide +kernel
theorem dX2_meetingTeams_9 : decode cX2_meetingTeams 9 = .ok (.if_icmp .ge 21, 3) := by decide +kernel
theorem dX2_tieBound_0 : decode cX2_tieBound 0 = .ok (.iconst 0, 1) := by decide +kernel
theorem dX2_tieBound_1 : decode cX2_tieBound 1 = .ok (.istore_n 1, 1) := by decide +kernel
theorem dX2_tieBound_101 : decode cX2_tieBound 101 = .ok (.goto (-97), 3) := by decide +kernel
theorem dX2_tieBound_104 : decode cX2_tieBound 104 = .ok (.iload_n 1, 1) := by decide +kernel
theorem dX2_tieBound_105 : decode cX2_tieBound 105 = .ok (.ireturn, 1) := by decide +kernel
theorem dX2_tieBound_12 : decode cX2_tieBound 12 = .ok (.aload_n 0, 1) := by decide +kernel
theorem dX2_tieBound_13 : decode cX2_tieBound 13 = .ok (.getfield 50, 3) := by decide +kernel
theorem dX2_tieBound_16 : decode cX2_tieBound 16 = .ok (.iload_n 2, 1) := by decide +kernel
theorem dX2_tieBound_17 : decode cX2_tieBound 17 = .ok (.iaload, 1) := by decide +kernel
theorem dX2_tieBound_18 : decode cX2_tieBound 18 = .ok (.istore_n 3, 1) := by decide +kernel
theorem dX2_tieBound_19 : decode cX2_tieBound 19 = .ok (.aload_n 0, 1) := by decide +kernel
theorem dX2_tieBound_2 : decode cX2_tieBound 2 = .ok (.iconst 0, 1) := by decide +kernel
theorem dX2_tieBound_20 : decode cX2_tieBound 20 = .ok (.getfield 53, 3) := by decide +kernel
theorem dX2_tieBound_23 : decode cX2_tieBound 23 = .ok (.iload_n 2, 1) := by decide +kernel
theorem dX2_tieBound_24 : decode cX2_tieBound 24 = .ok (.iaload, 1) := by decide +kernel
theorem dX2_tieBound_25 : decode cX2_tieBound 25 = .ok (.istore 4, 2) := by decide +kernel
theorem dX2_tieBound_27 : decode cX2_tieBound 27 = .ok (.aload_n 0, 1) := by decide +kernel
theorem dX2_tieBound_28 : decode cX2_tieBound 28 = .ok (.getfield 21, 3) := by decide +kernel
theorem dX2_tieBound_3 : decode cX2_tieBound 3 = .ok (.istore_n 2, 1) := by decide +kernel
theorem dX2_tieBound_31 : decode cX2_tieBound 31 = .ok (.getfield 100, 3) := by decide +kernel
theorem dX2_tieBound_34 : decode cX2_tieBound 34 = .ok (.iload_n 3, 1) := by decide +kernel
theorem dX2_tieBound_35 : decode cX2_tieBound 35 = .ok (.iaload, 1) := by decide +kernel
theorem dX2_tieBound_36 : decode cX2_tieBound 36 = .ok (.aload_n 0, 1) := by decide +kernel
theorem dX2_tieBound_37 : decode cX2_tieBound 37 = .ok (.getfield 21, 3) := by decide +kernel
theorem dX2_tieBound_4 : decode cX2_tieBound 4 = .ok (.iload_n 2, 1) := by decide +kernel
theorem dX2_tieBound_40 : decode cX2_tieBound 40 = .ok (.getfield 100, 3) := by decide +kernel
theorem dX2_tieBound_43 : decode cX2_tieBound 43 = .ok (.iload 4, 2) := by decide +kernel
theorem dX2_tieBound_45 : decode cX2_tieBound 45 = .ok (.iaload, 1) := by decide +kernel
theorem dX2_tieBound_46 : decode cX2_tieBound 46 = .ok (.invokestatic 103, 3) := by decide +kernel
theorem dX2_tieBound_49 : decode cX2_tieBound 49 = .ok (.istore 5, 2) := by decide +kernel
theorem dX2_tieBound_5 : decode cX2_tieBound 5 = .ok (.aload_n 0, 1) := by decide +kernel
theorem dX2_tieBound_51 : decode cX2_tieBound 51 = .ok (.bipush 31, 2) := by decide +kernel
theorem dX2_tieBound_53 : decode cX2_tieBound 53 = .ok (.aload_n 0, 1) := by decide +kernel
theorem dX2_tieBound_54 : decode cX2_tieBound 54 = .ok (.getfield 21, 3) := by decide +kernel
theorem dX2_tieBound_57 : decode cX2_tieBound 57 = .ok (.getfield 109, 3) := by decide +kernel
theorem dX2_tieBound_6 : decode cX2_tieBound 6 = .ok (.getfield 47, 3) := by decide +kernel
theorem dX2_tieBound_60 : decode cX2_tieBound 60 = .ok (.iload_n 3, 1) := by decide +kernel
theorem dX2_tieBound_61 : decode cX2_tieBound 61 = .ok (.iaload, 1) := by decide +kernel
theorem dX2_tieBound_62 : decode cX2_tieBound 62 = .ok (.aload_n 0, 1) := by decide +kernel
theorem dX2_tieBound_63 : decode cX2_tieBound 63 = .ok (.getfield 21, 3) := by decide +kernel
theorem dX2_tieBound_66 : decode cX2_tieBound 66 = .ok (.getfield 109, 3) := by decide +kernel
theorem dX2_tieBound_69 : decode cX2_tieBound 69 = .ok (.iload 4, 2) := by decide +kernel
theorem dX2_tieBound_71 : decode cX2_tieBound 71 = .ok (.iaload, 1) := by decide +kernel
theorem dX2_tieBound_72 : decode cX2_tieBound 72 = .ok (.ior, 1) := by decide +kernel
theorem dX2_tieBound_73 : decode cX2_tieBound 73 = .ok (.iconst (-1), 1) := by decide +kernel
theorem dX2_tieBound_74 : decode cX2_tieBound 74 = .ok (.ixor, 1) := by decide +kernel
theorem dX2_tieBound_75 : decode cX2_tieBound 75 = .ok (.iand, 1) := by decide +kernel
theorem dX2_tieBound_76 : decode cX2_tieBound 76 = .ok (.istore 6, 2) := by decide +kernel
theorem dX2_tieBound_78 : decode cX2_tieBound 78 = .ok (.iload_n 1, 1) := by decide +kernel
theorem dX2_tieBound_79 : decode cX2_tieBound 79 = .ok (.aload_n 0, 1) := by decide +kernel
theorem dX2_tieBound_80 : decode cX2_tieBound 80 = .ok (.getfield 56, 3) := by decide +kernel
theorem dX2_tieBound_83 : decode cX2_tieBound 83 = .ok (.iload_n 2, 1) := by decide +kernel
theorem dX2_tieBound_84 : decode cX2_tieBound 84 = .ok (.iaload, 1) := by decide +kernel
theorem dX2_tieBound_85 : decode cX2_tieBound 85 = .ok (.iload 5, 2) := by decide +kernel
theorem dX2_tieBound_87 : decode cX2_tieBound 87 = .ok (.iload 6, 2) := by decide +kernel
theorem dX2_tieBound_89 : decode cX2_tieBound 89 = .ok (.invokestatic 112, 3) := by decide +kernel
theorem dX2_tieBound_9 : decode cX2_tieBound 9 = .ok (.if_icmp .ge 95, 3) := by decide +kernel
theorem dX2_tieBound_92 : decode cX2_tieBound 92 = .ok (.invokestatic 103, 3) := by decide +kernel
theorem dX2_tieBound_95 : decode cX2_tieBound 95 = .ok (.imul, 1) := by decide +kernel
theorem dX2_tieBound_96 : decode cX2_tieBound 96 = .ok (.iadd, 1) := by decide +kernel
theorem dX2_tieBound_97 : decode cX2_tieBound 97 = .ok (.istore_n 1, 1) := by decide +kernel
theorem dX2_tieBound_98 : decode cX2_tieBound 98 = .ok (.iinc 2 1, 3) := by decide +kernel
theorem dX3_isSuited_0 : decode cX3_isSuited 0 = .ok (.iload_n 2, 1) := by decide +kernel
theorem dX3_isSuited_1 : decode cX3_isSuited 1 = .ok (.aload_n 0, 1) := by decide +kernel
theorem dX3_isSuited_11 : decode cX3_isSuited 11 = .ok (.iload_n 2, 1) := by decide +kernel
theorem dX3_isSuited_12 : decode cX3_isSuited 12 = .ok (.invokestatic 46, 3) := by decide +kernel
theorem dX3_isSuited_15 : decode cX3_isSuited 15 = .ok (.aload_n 0, 1) := by decide +kernel
theorem dX3_isSuited_16 : decode cX3_isSuited 16 = .ok (.getfield 22, 3) := by decide +kernel
theorem dX3_isSuited_19 : decode cX3_isSuited 19 = .ok (.iload_n 1, 1) := by decide +kernel
theorem dX3_isSuited_2 : decode cX3_isSuited 2 = .ok (.getfield 25, 3) := by decide +kernel
theorem dX3_isSuited_20 : decode cX3_isSuited 20 = .ok (.iaload, 1) := by decide +kernel
theorem dX3_isSuited_21 : decode cX3_isSuited 21 = .ok (.if_icmp .ne 7, 3) := by decide +kernel
theorem dX3_isSuited_24 : decode cX3_isSuited 24 = .ok (.iconst 1, 1) := by decide +kernel
theorem dX3_isSuited_25 : decode cX3_isSuited 25 = .ok (.goto 4, 3) := by decide +kernel
theorem dX3_isSuited_28 : decode cX3_isSuited 28 = .ok (.iconst 0, 1) := by decide +kernel
theorem dX3_isSuited_29 : decode cX3_isSuited 29 = .ok (.ireturn, 1) := by decide +kernel
theorem dX3_isSuited_5 : decode cX3_isSuited 5 = .ok (.iload_n 1, 1) := by decide +kernel
theorem dX3_isSuited_6 : decode cX3_isSuited 6 = .ok (.iaload, 1) := by decide +kernel
theorem dX3_isSuited_7 : decode cX3_isSuited 7 = .ok (.iand, 1) := by decide +kernel
theorem dX3_isSuited_8 : decode cX3_isSuited 8 = .ok (.ifCond .ne 20, 3) := by decide +kernel
theorem dX4_commonDays_0 : decode cX4_commonDays 0 = .ok (.bipush 31, 2) := by decide +kernel
theorem dX4_commonDays_12 : decode cX4_commonDays 12 = .ok (.getfield 39, 3) := by decide +kernel
theorem dX4_commonDays_15 : decode cX4_commonDays 15 = .ok (.getfield 45, 3) := by decide +kernel
theorem dX4_commonDays_18 : decode cX4_commonDays 18 = .ok (.if_icmp .ge 33, 3) := by decide +kernel
theorem dX4_commonDays_2 : decode cX4_commonDays 2 = .ok (.istore_n 3, 1) := by decide +kernel
theorem dX4_commonDays_21 : decode cX4_commonDays 21 = .ok (.aload_n 0, 1) := by decide +kernel
theorem dX4_commonDays_22 : decode cX4_commonDays 22 = .ok (.getfield 28, 3) := by decide +kernel
theorem dX4_commonDays_25 : decode cX4_commonDays 25 = .ok (.getfield 39, 3) := by decide +kernel
theorem dX4_commonDays_28 : decode cX4_commonDays 28 = .ok (.getfield 118, 3) := by decide +kernel
theorem dX4_commonDays_3 : decode cX4_commonDays 3 = .ok (.iconst 0, 1) := by decide +kernel
theorem dX4_commonDays_31 : decode cX4_commonDays 31 = .ok (.iload 4, 2) := by decide +kernel
theorem dX4_commonDays_33 : decode cX4_commonDays 33 = .ok (.iaload, 1) := by decide +kernel
theorem dX4_commonDays_34 : decode cX4_commonDays 34 = .ok (.iload_n 2, 1) := by decide +kernel
theorem dX4_commonDays_35 : decode cX4_commonDays 35 = .ok (.if_icmp .ne 10, 3) := by decide +kernel
theorem dX4_commonDays_38 : decode cX4_commonDays 38 = .ok (.iload_n 3, 1) := by decide +kernel
theorem dX4_commonDays_39 : decode cX4_commonDays 39 = .ok (.aload_n 1, 1) := by decide +kernel
theorem dX4_commonDays_4 : decode cX4_commonDays 4 = .ok (.istore 4, 2) := by decide +kernel
theorem dX4_commonDays_40 : decode cX4_commonDays 40 = .ok (.iload 4, 2) := by decide +kernel
theorem dX4_commonDays_42 : decode cX4_commonDays 42 = .ok (.iaload, 1) := by decide +kernel
theorem dX4_commonDays_43 : decode cX4_commonDays 43 = .ok (.iand, 1) := by decide +kernel
theorem dX4_commonDays_44 : decode cX4_commonDays 44 = .ok (.istore_n 3, 1) := by decide +kernel
theorem dX4_commonDays_45 : decode cX4_commonDays 45 = .ok (.iinc 4 1, 3) := by decide +kernel
theorem dX4_commonDays_48 : decode cX4_commonDays 48 = .ok (.goto (-42), 3) := by decide +kernel
theorem dX4_commonDays_51 : decode cX4_commonDays 51 = .ok (.iload_n 3, 1) := by decide +kernel
theorem dX4_commonDays_52 : decode cX4_commonDays 52 = .ok (.ireturn, 1) := by decide +kernel
theorem dX4_commonDays_6 : decode cX4_commonDays 6 = .ok (.iload 4, 2) := by decide +kernel
theorem dX4_commonDays_8 : decode cX4_commonDays 8 = .ok (.aload_n 0, 1) := by decide +kernel
theorem dX4_commonDays_9 : decode cX4_commonDays 9 = .ok (.getfield 28, 3) := by decide +kernel
theorem dX4_greatestUnmet_0 : decode cX4_greatestUnmet 0 = .ok (.iconst (-1), 1) := by decide +kernel
theorem dX4_greatestUnmet_1 : decode cX4_greatestUnmet 1 = .ok (.istore_n 1, 1) := by decide +kernel
theorem dX4_greatestUnmet_12 : decode cX4_greatestUnmet 12 = .ok (.if_icmp .ge 45, 3) := by decide +kernel
theorem dX4_greatestUnmet_15 : decode cX4_greatestUnmet 15 = .ok (.aload_n 0, 1) := by decide +kernel
theorem dX4_greatestUnmet_16 : decode cX4_greatestUnmet 16 = .ok (.iload_n 2, 1) := by decide +kernel
theorem dX4_greatestUnmet_17 : decode cX4_greatestUnmet 17 = .ok (.invokevirtual 133, 3) := by decide +kernel
theorem dX4_greatestUnmet_2 : decode cX4_greatestUnmet 2 = .ok (.iconst 0, 1) := by decide +kernel
theorem dX4_greatestUnmet_20 : decode cX4_greatestUnmet 20 = .ok (.ifCond .ne 31, 3) := by decide +kernel
theorem dX4_greatestUnmet_23 : decode cX4_greatestUnmet 23 = .ok (.iload_n 1, 1) := by decide +kernel
theorem dX4_greatestUnmet_24 : decode cX4_greatestUnmet 24 = .ok (.iconst (-1), 1) := by decide +kernel
theorem dX4_greatestUnmet_25 : decode cX4_greatestUnmet 25 = .ok (.if_icmp .eq 24, 3) := by decide +kernel
theorem dX4_greatestUnmet_28 : decode cX4_greatestUnmet 28 = .ok (.aload_n 0, 1) := by decide +kernel
theorem dX4_greatestUnmet_29 : decode cX4_greatestUnmet 29 = .ok (.getfield 28, 3) := by decide +kernel
theorem dX4_greatestUnmet_3 : decode cX4_greatestUnmet 3 = .ok (.istore_n 2, 1) := by decide +kernel
theorem dX4_greatestUnmet_32 : decode cX4_greatestUnmet 32 = .ok (.getfield 130, 3) := by decide +kernel
theorem dX4_greatestUnmet_35 : decode cX4_greatestUnmet 35 = .ok (.iload_n 2, 1) := by decide +kernel
theorem dX4_greatestUnmet_36 : decode cX4_greatestUnmet 36 = .ok (.iaload, 1) := by decide +kernel
theorem dX4_greatestUnmet_37 : decode cX4_greatestUnmet 37 = .ok (.aload_n 0, 1) := by decide +kernel
theorem dX4_greatestUnmet_38 : decode cX4_greatestUnmet 38 = .ok (.getfield 28, 3) := by decide +kernel
theorem dX4_greatestUnmet_4 : decode cX4_greatestUnmet 4 = .ok (.iload_n 2, 1) := by decide +kernel
theorem dX4_greatestUnmet_41 : decode cX4_greatestUnmet 41 = .ok (.getfield 130, 3) := by decide +kernel
theorem dX4_greatestUnmet_44 : decode cX4_greatestUnmet 44 = .ok (.iload_n 1, 1) := by decide +kernel
theorem dX4_greatestUnmet_45 : decode cX4_greatestUnmet 45 = .ok (.iaload, 1) := by decide +kernel
theorem dX4_greatestUnmet_46 : decode cX4_greatestUnmet 46 = .ok (.if_icmp .le 5, 3) := by decide +kernel
theorem dX4_greatestUnmet_49 : decode cX4_greatestUnmet 49 = .ok (.iload_n 2, 1) := by decide +kernel
theorem dX4_greatestUnmet_5 : decode cX4_greatestUnmet 5 = .ok (.aload_n 0, 1) := by decide +kernel
theorem dX4_greatestUnmet_50 : decode cX4_greatestUnmet 50 = .ok (.istore_n 1, 1) := by decide +kernel
theorem dX4_greatestUnmet_51 : decode cX4_greatestUnmet 51 = .ok (.iinc 2 1, 3) := by decide +kernel
theorem dX4_greatestUnmet_54 : decode cX4_greatestUnmet 54 = .ok (.goto (-50), 3) := by decide +kernel
theorem dX4_greatestUnmet_57 : decode cX4_greatestUnmet 57 = .ok (.iload_n 1, 1) := by decide +kernel
theorem dX4_greatestUnmet_58 : decode cX4_greatestUnmet 58 = .ok (.ireturn, 1) := by decide +kernel
theorem dX4_greatestUnmet_6 : decode cX4_greatestUnmet 6 = .ok (.getfield 28, 3) := by decide +kernel
theorem dX4_greatestUnmet_9 : decode cX4_greatestUnmet 9 = .ok (.getfield 127, 3) := by decide +kernel
theorem dX4_inCount_0 : decode cX4_inCount 0 = .ok (.iconst 0, 1) := by decide +kernel
theorem dX4_inCount_1 : decode cX4_inCount 1 = .ok (.istore_n 2, 1) := by decide +kernel
theorem dX4_inCount_12 : decode cX4_inCount 12 = .ok (.getfield 45, 3) := by decide +kernel
theorem dX4_inCount_15 : decode cX4_inCount 15 = .ok (.if_icmp .ge 22, 3) := by decide +kernel
theorem dX4_inCount_18 : decode cX4_inCount 18 = .ok (.iload_n 2, 1) := by decide +kernel
theorem dX4_inCount_19 : decode cX4_inCount 19 = .ok (.aload_n 0, 1) := by decide +kernel
theorem dX4_inCount_2 : decode cX4_inCount 2 = .ok (.iconst 0, 1) := by decide +kernel
theorem dX4_inCount_20 : decode cX4_inCount 20 = .ok (.getfield 9, 3) := by decide +kernel
theorem dX4_inCount_23 : decode cX4_inCount 23 = .ok (.iload_n 3, 1) := by decide +kernel
theorem dX4_inCount_24 : decode cX4_inCount 24 = .ok (.iaload, 1) := by decide +kernel
theorem dX4_inCount_25 : decode cX4_inCount 25 = .ok (.iload_n 1, 1) := by decide +kernel
theorem dX4_inCount_26 : decode cX4_inCount 26 = .ok (.ishr, 1) := by decide +kernel
theorem dX4_inCount_27 : decode cX4_inCount 27 = .ok (.iconst 1, 1) := by decide +kernel
theorem dX4_inCount_28 : decode cX4_inCount 28 = .ok (.iand, 1) := by decide +kernel
theorem dX4_inCount_29 : decode cX4_inCount 29 = .ok (.iadd, 1) := by decide +kernel
theorem dX4_inCount_3 : decode cX4_inCount 3 = .ok (.istore_n 3, 1) := by decide +kernel
theorem dX4_inCount_30 : decode cX4_inCount 30 = .ok (.istore_n 2, 1) := by decide +kernel
theorem dX4_inCount_31 : decode cX4_inCount 31 = .ok (.iinc 3 1, 3) := by decide +kernel
theorem dX4_inCount_34 : decode cX4_inCount 34 = .ok (.goto (-30), 3) := by decide +kernel
theorem dX4_inCount_37 : decode cX4_inCount 37 = .ok (.iload_n 2, 1) := by decide +kernel
theorem dX4_inCount_38 : decode cX4_inCount 38 = .ok (.ireturn, 1) := by decide +kernel
theorem dX4_inCount_4 : decode cX4_inCount 4 = .ok (.iload_n 3, 1) := by decide +kernel
theorem dX4_inCount_5 : decode cX4_inCount 5 = .ok (.aload_n 0, 1) := by decide +kernel
theorem dX4_inCount_6 : decode cX4_inCount 6 = .ok (.getfield 28, 3) := by decide +kernel
theorem dX4_inCount_9 : decode cX4_inCount 9 = .ok (.getfield 39, 3) := by decide +kernel
theorem dX4_inWithoutOwn_0 : decode cX4_inWithoutOwn 0 = .ok (.iconst 0, 1) := by decide +kernel
theorem dX4_inWithoutOwn_1 : decode cX4_inWithoutOwn 1 = .ok (.istore_n 2, 1) := by decide +kernel
theorem dX4_inWithoutOwn_12 : decode cX4_inWithoutOwn 12 = .ok (.getfield 45, 3) := by decide +kernel
theorem dX4_inWithoutOwn_15 : decode cX4_inWithoutOwn 15 = .ok (.if_icmp .ge 38, 3) := by decide +kernel
theorem dX4_inWithoutOwn_18 : decode cX4_inWithoutOwn 18 = .ok (.aload_n 0, 1) := by decide +kernel
theorem dX4_inWithoutOwn_19 : decode cX4_inWithoutOwn 19 = .ok (.getfield 28, 3) := by decide +kernel
theorem dX4_inWithoutOwn_2 : decode cX4_inWithoutOwn 2 = .ok (.iconst 0, 1) := by decide +kernel
theorem dX4_inWithoutOwn_22 : decode cX4_inWithoutOwn 22 = .ok (.getfield 39, 3) := by decide +kernel
theorem dX4_inWithoutOwn_25 : decode cX4_inWithoutOwn 25 = .ok (.getfield 50, 3) := by decide +kernel
theorem dX4_inWithoutOwn_28 : decode cX4_inWithoutOwn 28 = .ok (.iload_n 3, 1) := by decide +kernel
theorem dX4_inWithoutOwn_29 : decode cX4_inWithoutOwn 29 = .ok (.iaload, 1) := by decide +kernel
theorem dX4_inWithoutOwn_3 : decode cX4_inWithoutOwn 3 = .ok (.istore_n 3, 1) := by decide +kernel
theorem dX4_inWithoutOwn_30 : decode cX4_inWithoutOwn 30 = .ok (.iconst (-1), 1) := by decide +kernel
theorem dX4_inWithoutOwn_31 : decode cX4_inWithoutOwn 31 = .ok (.if_icmp .ne 16, 3) := by decide +kernel
theorem dX4_inWithoutOwn_34 : decode cX4_inWithoutOwn 34 = .ok (.iload_n 2, 1) := by decide +kernel
theorem dX4_inWithoutOwn_35 : decode cX4_inWithoutOwn 35 = .ok (.aload_n 0, 1) := by decide +kernel
theorem dX4_inWithoutOwn_36 : decode cX4_inWithoutOwn 36 = .ok (.getfield 9, 3) := by decide +kernel
theorem dX4_inWithoutOwn_39 : decode cX4_inWithoutOwn 39 = .ok (.iload_n 3, 1) := by decide +kernel
theorem dX4_inWithoutOwn_4 : decode cX4_inWithoutOwn 4 = .ok (.iload_n 3, 1) := by decide +kernel
theorem dX4_inWithoutOwn_40 : decode cX4_inWithoutOwn 40 = .ok (.iaload, 1) := by decide +kernel
theorem dX4_inWithoutOwn_41 : decode cX4_inWithoutOwn 41 = .ok (.iload_n 1, 1) := by decide +kernel
theorem dX4_inWithoutOwn_42 : decode cX4_inWithoutOwn 42 = .ok (.ishr, 1) := by decide +kernel
theorem dX4_inWithoutOwn_43 : decode cX4_inWithoutOwn 43 = .ok (.iconst 1, 1) := by decide +kernel
theorem dX4_inWithoutOwn_44 : decode cX4_inWithoutOwn 44 = .ok (.iand, 1) := by decide +kernel
theorem dX4_inWithoutOwn_45 : decode cX4_inWithoutOwn 45 = .ok (.iadd, 1) := by decide +kernel
theorem dX4_inWithoutOwn_46 : decode cX4_inWithoutOwn 46 = .ok (.istore_n 2, 1) := by decide +kernel
theorem dX4_inWithoutOwn_47 : decode cX4_inWithoutOwn 47 = .ok (.iinc 3 1, 3) := by decide +kernel
theorem dX4_inWithoutOwn_5 : decode cX4_inWithoutOwn 5 = .ok (.aload_n 0, 1) := by decide +kernel
theorem dX4_inWithoutOwn_50 : decode cX4_inWithoutOwn 50 = .ok (.goto (-46), 3) := by decide +kernel
theorem dX4_inWithoutOwn_53 : decode cX4_inWithoutOwn 53 = .ok (.iload_n 2, 1) := by decide +kernel
theorem dX4_inWithoutOwn_54 : decode cX4_inWithoutOwn 54 = .ok (.ireturn, 1) := by decide +kernel
theorem dX4_inWithoutOwn_6 : decode cX4_inWithoutOwn 6 = .ok (.getfield 28, 3) := by decide +kernel
theorem dX4_inWithoutOwn_9 : decode cX4_inWithoutOwn 9 = .ok (.getfield 39, 3) := by decide +kernel
theorem dX4_isIn_0 : decode cX4_isIn 0 = .ok (.aload_n 0, 1) := by decide +kernel
theorem dX4_isIn_1 : decode cX4_isIn 1 = .ok (.getfield 9, 3) := by decide +kernel
theorem dX4_isIn_10 : decode cX4_isIn 10 = .ok (.iconst 1, 1) := by decide +kernel
theorem dX4_isIn_11 : decode cX4_isIn 11 = .ok (.if_icmp .ne 7, 3) := by decide +kernel
theorem dX4_isIn_14 : decode cX4_isIn 14 = .ok (.iconst 1, 1) := by decide +kernel
theorem dX4_isIn_15 : decode cX4_isIn 15 = .ok (.goto 4, 3) := by decide +kernel
theorem dX4_isIn_18 : decode cX4_isIn 18 = .ok (.iconst 0, 1) := by decide +kernel
theorem dX4_isIn_19 : decode cX4_isIn 19 = .ok (.ireturn, 1) := by decide +kernel
theorem dX4_isIn_4 : decode cX4_isIn 4 = .ok (.iload_n 1, 1) := by decide +kernel
theorem dX4_isIn_5 : decode cX4_isIn 5 = .ok (.iaload, 1) := by decide +kernel
theorem dX4_isIn_6 : decode cX4_isIn 6 = .ok (.iload_n 2, 1) := by decide +kernel
theorem dX4_isIn_7 : decode cX4_isIn 7 = .ok (.ishr, 1) := by decide +kernel
theorem dX4_isIn_8 : decode cX4_isIn 8 = .ok (.iconst 1, 1) := by decide +kernel
theorem dX4_isIn_9 : decode cX4_isIn 9 = .ok (.iand, 1) := by decide +kernel
theorem dX4_isLonely_0 : decode cX4_isLonely 0 = .ok (.iconst 0, 1) := by decide +kernel
theorem dX4_isLonely_1 : decode cX4_isLonely 1 = .ok (.istore_n 2, 1) := by decide +kernel
theorem dX4_isLonely_12 : decode cX4_isLonely 12 = .ok (.if_icmp .ge 47, 3) := by decide +kernel
theorem dX4_isLonely_15 : decode cX4_isLonely 15 = .ok (.aload_n 0, 1) := by decide +kernel
theorem dX4_isLonely_16 : decode cX4_isLonely 16 = .ok (.getfield 28, 3) := by decide +kernel
theorem dX4_isLonely_19 : decode cX4_isLonely 19 = .ok (.getfield 121, 3) := by decide +kernel
theorem dX4_isLonely_2 : decode cX4_isLonely 2 = .ok (.iconst 0, 1) := by decide +kernel
theorem dX4_isLonely_22 : decode cX4_isLonely 22 = .ok (.iload_n 3, 1) := by decide +kernel
theorem dX4_isLonely_23 : decode cX4_isLonely 23 = .ok (.iaload, 1) := by decide +kernel
theorem dX4_isLonely_24 : decode cX4_isLonely 24 = .ok (.iload_n 1, 1) := by decide +kernel
theorem dX4_isLonely_25 : decode cX4_isLonely 25 = .ok (.if_icmp .eq 16, 3) := by decide +kernel
theorem dX4_isLonely_28 : decode cX4_isLonely 28 = .ok (.aload_n 0, 1) := by decide +kernel
theorem dX4_isLonely_29 : decode cX4_isLonely 29 = .ok (.getfield 28, 3) := by decide +kernel
theorem dX4_isLonely_3 : decode cX4_isLonely 3 = .ok (.istore_n 3, 1) := by decide +kernel
theorem dX4_isLonely_32 : decode cX4_isLonely 32 = .ok (.getfield 124, 3) := by decide +kernel
theorem dX4_isLonely_35 : decode cX4_isLonely 35 = .ok (.iload_n 3, 1) := by decide +kernel
theorem dX4_isLonely_36 : decode cX4_isLonely 36 = .ok (.iaload, 1) := by decide +kernel
theorem dX4_isLonely_37 : decode cX4_isLonely 37 = .ok (.iload_n 1, 1) := by decide +kernel
theorem dX4_isLonely_38 : decode cX4_isLonely 38 = .ok (.if_icmp .ne 15, 3) := by decide +kernel
theorem dX4_isLonely_4 : decode cX4_isLonely 4 = .ok (.iload_n 3, 1) := by decide +kernel
theorem dX4_isLonely_41 : decode cX4_isLonely 41 = .ok (.iconst 1, 1) := by decide +kernel
theorem dX4_isLonely_42 : decode cX4_isLonely 42 = .ok (.istore_n 2, 1) := by decide +kernel
theorem dX4_isLonely_43 : decode cX4_isLonely 43 = .ok (.aload_n 0, 1) := by decide +kernel
theorem dX4_isLonely_44 : decode cX4_isLonely 44 = .ok (.iload_n 3, 1) := by decide +kernel
theorem dX4_isLonely_45 : decode cX4_isLonely 45 = .ok (.invokevirtual 133, 3) := by decide +kernel
theorem dX4_isLonely_48 : decode cX4_isLonely 48 = .ok (.ifCond .le 5, 3) := by decide +kernel
theorem dX4_isLonely_5 : decode cX4_isLonely 5 = .ok (.aload_n 0, 1) := by decide +kernel
theorem dX4_isLonely_51 : decode cX4_isLonely 51 = .ok (.iconst 0, 1) := by decide +kernel
theorem dX4_isLonely_52 : decode cX4_isLonely 52 = .ok (.ireturn, 1) := by decide +kernel
theorem dX4_isLonely_53 : decode cX4_isLonely 53 = .ok (.iinc 3 1, 3) := by decide +kernel
theorem dX4_isLonely_56 : decode cX4_isLonely 56 = .ok (.goto (-52), 3) := by decide +kernel
theorem dX4_isLonely_59 : decode cX4_isLonely 59 = .ok (.iload_n 2, 1) := by decide +kernel
theorem dX4_isLonely_6 : decode cX4_isLonely 6 = .ok (.getfield 28, 3) := by decide +kernel
theorem dX4_isLonely_60 : decode cX4_isLonely 60 = .ok (.ireturn, 1) := by decide +kernel
theorem dX4_isLonely_9 : decode cX4_isLonely 9 = .ok (.getfield 127, 3) := by decide +kernel
theorem dX4_lonelyPersons_0 : decode cX4_lonelyPersons 0 = .ok (.iconst 0, 1) := by decide +kernel
theorem dX4_lonelyPersons_1 : decode cX4_lonelyPersons 1 = .ok (.istore_n 1, 1) := by decide +kernel
theorem dX4_lonelyPersons_12 : decode cX4_lonelyPersons 12 = .ok (.getfield 45, 3) := by decide +kernel
theorem dX4_lonelyPersons_15 : decode cX4_lonelyPersons 15 = .ok (.if_icmp .ge 20, 3) := by decide +kernel
theorem dX4_lonelyPersons_18 : decode cX4_lonelyPersons 18 = .ok (.aload_n 0, 1) := by decide +kernel
theorem dX4_lonelyPersons_19 : decode cX4_lonelyPersons 19 = .ok (.iload_n 2, 1) := by decide +kernel
theorem dX4_lonelyPersons_2 : decode cX4_lonelyPersons 2 = .ok (.iconst 0, 1) := by decide +kernel
theorem dX4_lonelyPersons_20 : decode cX4_lonelyPersons 20 = .ok (.invokevirtual 165, 3) := by decide +kernel
theorem dX4_lonelyPersons_23 : decode cX4_lonelyPersons 23 = .ok (.ifCond .eq 6, 3) := by decide +kernel
theorem dX4_lonelyPersons_26 : decode cX4_lonelyPersons 26 = .ok (.iinc 1 1, 3) := by decide +kernel
theorem dX4_lonelyPersons_29 : decode cX4_lonelyPersons 29 = .ok (.iinc 2 1, 3) := by decide +kernel
theorem dX4_lonelyPersons_3 : decode cX4_lonelyPersons 3 = .ok (.istore_n 2, 1) := by decide +kernel
theorem dX4_lonelyPersons_32 : decode cX4_lonelyPersons 32 = .ok (.goto (-28), 3) := by decide +kernel
theorem dX4_lonelyPersons_35 : decode cX4_lonelyPersons 35 = .ok (.iload_n 1, 1) := by decide +kernel
theorem dX4_lonelyPersons_36 : decode cX4_lonelyPersons 36 = .ok (.ireturn, 1) := by decide +kernel
theorem dX4_lonelyPersons_4 : decode cX4_lonelyPersons 4 = .ok (.iload_n 2, 1) := by decide +kernel
theorem dX4_lonelyPersons_5 : decode cX4_lonelyPersons 5 = .ok (.aload_n 0, 1) := by decide +kernel
theorem dX4_lonelyPersons_6 : decode cX4_lonelyPersons 6 = .ok (.getfield 28, 3) := by decide +kernel
theorem dX4_lonelyPersons_9 : decode cX4_lonelyPersons 9 = .ok (.getfield 39, 3) := by decide +kernel
theorem dX4_metDays_0 : decode cX4_metDays 0 = .ok (.aload_n 0, 1) := by decide +kernel
theorem dX4_metDays_1 : decode cX4_metDays 1 = .ok (.getfield 9, 3) := by decide +kernel
theorem dX4_metDays_11 : decode cX4_metDays 11 = .ok (.iload_n 1, 1) := by decide +kernel
theorem dX4_metDays_12 : decode cX4_metDays 12 = .ok (.iaload, 1) := by decide +kernel
theorem dX4_metDays_13 : decode cX4_metDays 13 = .ok (.iaload, 1) := by decide +kernel
theorem dX4_metDays_14 : decode cX4_metDays 14 = .ok (.aload_n 0, 1) := by decide +kernel
theorem dX4_metDays_15 : decode cX4_metDays 15 = .ok (.getfield 9, 3) := by decide +kernel
theorem dX4_metDays_18 : decode cX4_metDays 18 = .ok (.aload_n 0, 1) := by decide +kernel
theorem dX4_metDays_19 : decode cX4_metDays 19 = .ok (.getfield 28, 3) := by decide +kernel
theorem dX4_metDays_22 : decode cX4_metDays 22 = .ok (.getfield 124, 3) := by decide +kernel
theorem dX4_metDays_25 : decode cX4_metDays 25 = .ok (.iload_n 1, 1) := by decide +kernel
theorem dX4_metDays_26 : decode cX4_metDays 26 = .ok (.iaload, 1) := by decide +kernel
theorem dX4_metDays_27 : decode cX4_metDays 27 = .ok (.iaload, 1) := by decide +kernel
theorem dX4_metDays_28 : decode cX4_metDays 28 = .ok (.iand, 1) := by decide +kernel
theorem dX4_metDays_29 : decode cX4_metDays 29 = .ok (.invokestatic 93, 3) := by decide +kernel
theorem dX4_metDays_32 : decode cX4_metDays 32 = .ok (.ireturn, 1) := by decide +kernel
theorem dX4_metDays_4 : decode cX4_metDays 4 = .ok (.aload_n 0, 1) := by decide +kernel
theorem dX4_metDays_5 : decode cX4_metDays 5 = .ok (.getfield 28, 3) := by decide +kernel
theorem dX4_metDays_8 : decode cX4_metDays 8 = .ok (.getfield 121, 3) := by decide +kernel
theorem dX4_setsForOneMore_0 : decode cX4_setsForOneMore 0 = .ok (.iconst 0, 1) := by decide +kernel
theorem dX4_setsForOneMore_1 : decode cX4_setsForOneMore 1 = .ok (.istore_n 2, 1) := by decide +kernel
theorem dX4_setsForOneMore_10 : decode cX4_setsForOneMore 10 = .ok (.iload_n 3, 1) := by decide +kernel
theorem dX4_setsForOneMore_11 : decode cX4_setsForOneMore 11 = .ok (.invokevirtual 53, 3) := by decide +kernel
theorem dX4_setsForOneMore_14 : decode cX4_setsForOneMore 14 = .ok (.aload_n 0, 1) := by decide +kernel
theorem dX4_setsForOneMore_15 : decode cX4_setsForOneMore 15 = .ok (.getfield 28, 3) := by decide +kernel
theorem dX4_setsForOneMore_18 : decode cX4_setsForOneMore 18 = .ok (.getfield 57, 3) := by decide +kernel
theorem dX4_setsForOneMore_2 : decode cX4_setsForOneMore 2 = .ok (.iconst 0, 1) := by decide +kernel
theorem dX4_setsForOneMore_21 : decode cX4_setsForOneMore 21 = .ok (.getfield 61, 3) := by decide +kernel
theorem dX4_setsForOneMore_24 : decode cX4_setsForOneMore 24 = .ok (.aload_n 0, 1) := by decide +kernel
theorem dX4_setsForOneMore_25 : decode cX4_setsForOneMore 25 = .ok (.getfield 28, 3) := by decide +kernel
theorem dX4_setsForOneMore_28 : decode cX4_setsForOneMore 28 = .ok (.getfield 57, 3) := by decide +kernel
theorem dX4_setsForOneMore_3 : decode cX4_setsForOneMore 3 = .ok (.istore_n 3, 1) := by decide +kernel
theorem dX4_setsForOneMore_31 : decode cX4_setsForOneMore 31 = .ok (.getfield 66, 3) := by decide +kernel
theorem dX4_setsForOneMore_34 : decode cX4_setsForOneMore 34 = .ok (.isub, 1) := by decide +kernel
theorem dX4_setsForOneMore_35 : decode cX4_setsForOneMore 35 = .ok (.if_icmp .ge 9, 3) := by decide +kernel
theorem dX4_setsForOneMore_38 : decode cX4_setsForOneMore 38 = .ok (.iload_n 2, 1) := by decide +kernel
theorem dX4_setsForOneMore_39 : decode cX4_setsForOneMore 39 = .ok (.iconst 1, 1) := by decide +kernel
theorem dX4_setsForOneMore_4 : decode cX4_setsForOneMore 4 = .ok (.iload_n 3, 1) := by decide +kernel
theorem dX4_setsForOneMore_40 : decode cX4_setsForOneMore 40 = .ok (.iload_n 3, 1) := by decide +kernel
theorem dX4_setsForOneMore_41 : decode cX4_setsForOneMore 41 = .ok (.ishl, 1) := by decide +kernel
theorem dX4_setsForOneMore_42 : decode cX4_setsForOneMore 42 = .ok (.ior, 1) := by decide +kernel
theorem dX4_setsForOneMore_43 : decode cX4_setsForOneMore 43 = .ok (.istore_n 2, 1) := by decide +kernel
theorem dX4_setsForOneMore_44 : decode cX4_setsForOneMore 44 = .ok (.iinc 3 1, 3) := by decide +kernel
theorem dX4_setsForOneMore_47 : decode cX4_setsForOneMore 47 = .ok (.goto (-43), 3) := by decide +kernel
theorem dX4_setsForOneMore_5 : decode cX4_setsForOneMore 5 = .ok (.iconst 5, 1) := by decide +kernel
theorem dX4_setsForOneMore_50 : decode cX4_setsForOneMore 50 = .ok (.iconst 0, 1) := by decide +kernel
theorem dX4_setsForOneMore_51 : decode cX4_setsForOneMore 51 = .ok (.istore_n 3, 1) := by decide +kernel
theorem dX4_setsForOneMore_52 : decode cX4_setsForOneMore 52 = .ok (.iconst 0, 1) := by decide +kernel
theorem dX4_setsForOneMore_53 : decode cX4_setsForOneMore 53 = .ok (.istore 4, 2) := by decide +kernel
theorem dX4_setsForOneMore_55 : decode cX4_setsForOneMore 55 = .ok (.iload 4, 2) := by decide +kernel
theorem dX4_setsForOneMore_57 : decode cX4_setsForOneMore 57 = .ok (.bipush 31, 2) := by decide +kernel
theorem dX4_setsForOneMore_59 : decode cX4_setsForOneMore 59 = .ok (.if_icmp .gt 30, 3) := by decide +kernel
theorem dX4_setsForOneMore_6 : decode cX4_setsForOneMore 6 = .ok (.if_icmp .ge 44, 3) := by decide +kernel
theorem dX4_setsForOneMore_62 : decode cX4_setsForOneMore 62 = .ok (.iload 4, 2) := by decide +kernel
theorem dX4_setsForOneMore_64 : decode cX4_setsForOneMore 64 = .ok (.invokestatic 93, 3) := by decide +kernel
theorem dX4_setsForOneMore_67 : decode cX4_setsForOneMore 67 = .ok (.iload_n 1, 1) := by decide +kernel
theorem dX4_setsForOneMore_68 : decode cX4_setsForOneMore 68 = .ok (.if_icmp .ne 15, 3) := by decide +kernel
theorem dX4_setsForOneMore_71 : decode cX4_setsForOneMore 71 = .ok (.iload 4, 2) := by decide +kernel
theorem dX4_setsForOneMore_73 : decode cX4_setsForOneMore 73 = .ok (.iload_n 2, 1) := by decide +kernel
theorem dX4_setsForOneMore_74 : decode cX4_setsForOneMore 74 = .ok (.iconst (-1), 1) := by decide +kernel
theorem dX4_setsForOneMore_75 : decode cX4_setsForOneMore 75 = .ok (.ixor, 1) := by decide +kernel
theorem dX4_setsForOneMore_76 : decode cX4_setsForOneMore 76 = .ok (.iand, 1) := by decide +kernel
theorem dX4_setsForOneMore_77 : decode cX4_setsForOneMore 77 = .ok (.ifCond .ne 6, 3) := by decide +kernel
theorem dX4_setsForOneMore_80 : decode cX4_setsForOneMore 80 = .ok (.iinc 3 1, 3) := by decide +kernel
theorem dX4_setsForOneMore_83 : decode cX4_setsForOneMore 83 = .ok (.iinc 4 1, 3) := by decide +kernel
theorem dX4_setsForOneMore_86 : decode cX4_setsForOneMore 86 = .ok (.goto (-31), 3) := by decide +kernel
theorem dX4_setsForOneMore_89 : decode cX4_setsForOneMore 89 = .ok (.iload_n 3, 1) := by decide +kernel
theorem dX4_setsForOneMore_9 : decode cX4_setsForOneMore 9 = .ok (.aload_n 0, 1) := by decide +kernel
theorem dX4_setsForOneMore_90 : decode cX4_setsForOneMore 90 = .ok (.ireturn, 1) := by decide +kernel
theorem dX4_standing_0 : decode cX4_standing 0 = .ok (.iconst 0, 1) := by decide +kernel
theorem dX4_standing_1 : decode cX4_standing 1 = .ok (.aload_n 0, 1) := by decide +kernel
theorem dX4_standing_10 : decode cX4_standing 10 = .ok (.getfield 57, 3) := by decide +kernel
theorem dX4_standing_13 : decode cX4_standing 13 = .ok (.getfield 61, 3) := by decide +kernel
theorem dX4_standing_16 : decode cX4_standing 16 = .ok (.aload_n 0, 1) := by decide +kernel
theorem dX4_standing_17 : decode cX4_standing 17 = .ok (.getfield 28, 3) := by decide +kernel
theorem dX4_standing_2 : decode cX4_standing 2 = .ok (.iload_n 1, 1) := by decide +kernel
theorem dX4_standing_20 : decode cX4_standing 20 = .ok (.getfield 57, 3) := by decide +kernel
theorem dX4_standing_23 : decode cX4_standing 23 = .ok (.getfield 66, 3) := by decide +kernel
theorem dX4_standing_26 : decode cX4_standing 26 = .ok (.isub, 1) := by decide +kernel
theorem dX4_standing_27 : decode cX4_standing 27 = .ok (.isub, 1) := by decide +kernel
theorem dX4_standing_28 : decode cX4_standing 28 = .ok (.invokestatic 69, 3) := by decide +kernel
theorem dX4_standing_3 : decode cX4_standing 3 = .ok (.invokevirtual 53, 3) := by decide +kernel
theorem dX4_standing_31 : decode cX4_standing 31 = .ok (.ireturn, 1) := by decide +kernel
theorem dX4_standing_6 : decode cX4_standing 6 = .ok (.aload_n 0, 1) := by decide +kernel
theorem dX4_standing_7 : decode cX4_standing 7 = .ok (.getfield 28, 3) := by decide +kernel
theorem dX4_tieWorth_0 : decode cX4_tieWorth 0 = .ok (.iconst 0, 1) := by decide +kernel
theorem dX4_tieWorth_1 : decode cX4_tieWorth 1 = .ok (.istore_n 1, 1) := by decide +kernel
theorem dX4_tieWorth_12 : decode cX4_tieWorth 12 = .ok (.if_icmp .ge 27, 3) := by decide +kernel
theorem dX4_tieWorth_15 : decode cX4_tieWorth 15 = .ok (.iload_n 1, 1) := by decide +kernel
theorem dX4_tieWorth_16 : decode cX4_tieWorth 16 = .ok (.aload_n 0, 1) := by decide +kernel
theorem dX4_tieWorth_17 : decode cX4_tieWorth 17 = .ok (.getfield 28, 3) := by decide +kernel
theorem dX4_tieWorth_2 : decode cX4_tieWorth 2 = .ok (.iconst 0, 1) := by decide +kernel
theorem dX4_tieWorth_20 : decode cX4_tieWorth 20 = .ok (.getfield 130, 3) := by decide +kernel
theorem dX4_tieWorth_23 : decode cX4_tieWorth 23 = .ok (.iload_n 2, 1) := by decide +kernel
theorem dX4_tieWorth_24 : decode cX4_tieWorth 24 = .ok (.iaload, 1) := by decide +kernel
theorem dX4_tieWorth_25 : decode cX4_tieWorth 25 = .ok (.aload_n 0, 1) := by decide +kernel
theorem dX4_tieWorth_26 : decode cX4_tieWorth 26 = .ok (.iload_n 2, 1) := by decide +kernel
theorem dX4_tieWorth_27 : decode cX4_tieWorth 27 = .ok (.invokevirtual 133, 3) := by decide +kernel
theorem dX4_tieWorth_3 : decode cX4_tieWorth 3 = .ok (.istore_n 2, 1) := by decide +kernel
theorem dX4_tieWorth_30 : decode cX4_tieWorth 30 = .ok (.imul, 1) := by decide +kernel
theorem dX4_tieWorth_31 : decode cX4_tieWorth 31 = .ok (.iadd, 1) := by decide +kernel
theorem dX4_tieWorth_32 : decode cX4_tieWorth 32 = .ok (.istore_n 1, 1) := by decide +kernel
theorem dX4_tieWorth_33 : decode cX4_tieWorth 33 = .ok (.iinc 2 1, 3) := by decide +kernel
theorem dX4_tieWorth_36 : decode cX4_tieWorth 36 = .ok (.goto (-32), 3) := by decide +kernel
theorem dX4_tieWorth_39 : decode cX4_tieWorth 39 = .ok (.iload_n 1, 1) := by decide +kernel
theorem dX4_tieWorth_4 : decode cX4_tieWorth 4 = .ok (.iload_n 2, 1) := by decide +kernel
theorem dX4_tieWorth_40 : decode cX4_tieWorth 40 = .ok (.ireturn, 1) := by decide +kernel
theorem dX4_tieWorth_5 : decode cX4_tieWorth 5 = .ok (.aload_n 0, 1) := by decide +kernel
theorem dX4_tieWorth_6 : decode cX4_tieWorth 6 = .ok (.getfield 28, 3) := by decide +kernel
theorem dX4_tieWorth_9 : decode cX4_tieWorth 9 = .ok (.getfield 127, 3) := by decide +kernel
theorem dX4_turnedSet_0 : decode cX4_turnedSet 0 = .ok (.iload_n 2, 1) := by decide +kernel
theorem dX4_turnedSet_1 : decode cX4_turnedSet 1 = .ok (.aload_n 0, 1) := by decide +kernel
theorem dX4_turnedSet_11 : decode cX4_turnedSet 11 = .ok (.iload_n 1, 1) := by decide +kernel
theorem dX4_turnedSet_12 : decode cX4_turnedSet 12 = .ok (.iaload, 1) := by decide +kernel
theorem dX4_turnedSet_13 : decode cX4_turnedSet 13 = .ok (.imul, 1) := by decide +kernel
theorem dX4_turnedSet_14 : decode cX4_turnedSet 14 = .ok (.iconst 5, 1) := by decide +kernel
theorem dX4_turnedSet_15 : decode cX4_turnedSet 15 = .ok (.irem, 1) := by decide +kernel
theorem dX4_turnedSet_16 : decode cX4_turnedSet 16 = .ok (.istore_n 3, 1) := by decide +kernel
theorem dX4_turnedSet_17 : decode cX4_turnedSet 17 = .ok (.aload_n 0, 1) := by decide +kernel
theorem dX4_turnedSet_18 : decode cX4_turnedSet 18 = .ok (.getfield 9, 3) := by decide +kernel
theorem dX4_turnedSet_2 : decode cX4_turnedSet 2 = .ok (.getfield 28, 3) := by decide +kernel
theorem dX4_turnedSet_21 : decode cX4_turnedSet 21 = .ok (.iload_n 1, 1) := by decide +kernel
theorem dX4_turnedSet_22 : decode cX4_turnedSet 22 = .ok (.iaload, 1) := by decide +kernel
theorem dX4_turnedSet_23 : decode cX4_turnedSet 23 = .ok (.iload_n 3, 1) := by decide +kernel
theorem dX4_turnedSet_24 : decode cX4_turnedSet 24 = .ok (.ishl, 1) := by decide +kernel
theorem dX4_turnedSet_25 : decode cX4_turnedSet 25 = .ok (.aload_n 0, 1) := by decide +kernel
theorem dX4_turnedSet_26 : decode cX4_turnedSet 26 = .ok (.getfield 9, 3) := by decide +kernel
theorem dX4_turnedSet_29 : decode cX4_turnedSet 29 = .ok (.iload_n 1, 1) := by decide +kernel
theorem dX4_turnedSet_30 : decode cX4_turnedSet 30 = .ok (.iaload, 1) := by decide +kernel
theorem dX4_turnedSet_31 : decode cX4_turnedSet 31 = .ok (.iconst 5, 1) := by decide +kernel
theorem dX4_turnedSet_32 : decode cX4_turnedSet 32 = .ok (.iload_n 3, 1) := by decide +kernel
theorem dX4_turnedSet_33 : decode cX4_turnedSet 33 = .ok (.isub, 1) := by decide +kernel
theorem dX4_turnedSet_34 : decode cX4_turnedSet 34 = .ok (.ishr, 1) := by decide +kernel
theorem dX4_turnedSet_35 : decode cX4_turnedSet 35 = .ok (.ior, 1) := by decide +kernel
theorem dX4_turnedSet_36 : decode cX4_turnedSet 36 = .ok (.bipush 31, 2) := by decide +kernel
theorem dX4_turnedSet_38 : decode cX4_turnedSet 38 = .ok (.iand, 1) := by decide +kernel
theorem dX4_turnedSet_39 : decode cX4_turnedSet 39 = .ok (.ireturn, 1) := by decide +kernel
theorem dX4_turnedSet_5 : decode cX4_turnedSet 5 = .ok (.getfield 39, 3) := by decide +kernel
theorem dX4_turnedSet_8 : decode cX4_turnedSet 8 = .ok (.getfield 191, 3) := by decide +kernel
theorem dX4_unmetTies_0 : decode cX4_unmetTies 0 = .ok (.iconst 0, 1) := by decide +kernel
theorem dX4_unmetTies_1 : decode cX4_unmetTies 1 = .ok (.istore_n 1, 1) := by decide +kernel
theorem dX4_unmetTies_12 : decode cX4_unmetTies 12 = .ok (.if_icmp .ge 20, 3) := by decide +kernel
theorem dX4_unmetTies_15 : decode cX4_unmetTies 15 = .ok (.aload_n 0, 1) := by decide +kernel
theorem dX4_unmetTies_16 : decode cX4_unmetTies 16 = .ok (.iload_n 2, 1) := by decide +kernel
theorem dX4_unmetTies_17 : decode cX4_unmetTies 17 = .ok (.invokevirtual 133, 3) := by decide +kernel
theorem dX4_unmetTies_2 : decode cX4_unmetTies 2 = .ok (.iconst 0, 1) := by decide +kernel
theorem dX4_unmetTies_20 : decode cX4_unmetTies 20 = .ok (.ifCond .ne 6, 3) := by decide +kernel
theorem dX4_unmetTies_23 : decode cX4_unmetTies 23 = .ok (.iinc 1 1, 3) := by decide +kernel
theorem dX4_unmetTies_26 : decode cX4_unmetTies 26 = .ok (.iinc 2 1, 3) := by decide +kernel
theorem dX4_unmetTies_29 : decode cX4_unmetTies 29 = .ok (.goto (-25), 3) := by decide +kernel
theorem dX4_unmetTies_3 : decode cX4_unmetTies 3 = .ok (.istore_n 2, 1) := by decide +kernel
theorem dX4_unmetTies_32 : decode cX4_unmetTies 32 = .ok (.iload_n 1, 1) := by decide +kernel
theorem dX4_unmetTies_33 : decode cX4_unmetTies 33 = .ok (.ireturn, 1) := by decide +kernel
theorem dX4_unmetTies_4 : decode cX4_unmetTies 4 = .ok (.iload_n 2, 1) := by decide +kernel
theorem dX4_unmetTies_5 : decode cX4_unmetTies 5 = .ok (.aload_n 0, 1) := by decide +kernel
theorem dX4_unmetTies_6 : decode cX4_unmetTies 6 = .ok (.getfield 28, 3) := by decide +kernel
theorem dX4_unmetTies_9 : decode cX4_unmetTies 9 = .ok (.getfield 127, 3) := by decide +kernel
theorem dX4_unmetWithin_0 : decode cX4_unmetWithin 0 = .ok (.iconst 0, 1) := by decide +kernel
theorem dX4_unmetWithin_1 : decode cX4_unmetWithin 1 = .ok (.istore_n 2, 1) := by decide +kernel
theorem dX4_unmetWithin_12 : decode cX4_unmetWithin 12 = .ok (.if_icmp .ge 81, 3) := by decide +kernel
theorem dX4_unmetWithin_15 : decode cX4_unmetWithin 15 = .ok (.iconst 0, 1) := by decide +kernel
theorem dX4_unmetWithin_16 : decode cX4_unmetWithin 16 = .ok (.istore 4, 2) := by decide +kernel
theorem dX4_unmetWithin_18 : decode cX4_unmetWithin 18 = .ok (.iconst 0, 1) := by decide +kernel
theorem dX4_unmetWithin_19 : decode cX4_unmetWithin 19 = .ok (.istore 5, 2) := by decide +kernel
theorem dX4_unmetWithin_2 : decode cX4_unmetWithin 2 = .ok (.iconst 0, 1) := by decide +kernel
theorem dX4_unmetWithin_21 : decode cX4_unmetWithin 21 = .ok (.iload 5, 2) := by decide +kernel
theorem dX4_unmetWithin_23 : decode cX4_unmetWithin 23 = .ok (.iload_n 1, 1) := by decide +kernel
theorem dX4_unmetWithin_24 : decode cX4_unmetWithin 24 = .ok (.if_icmp .ge 55, 3) := by decide +kernel
theorem dX4_unmetWithin_27 : decode cX4_unmetWithin 27 = .ok (.iload 4, 2) := by decide +kernel
theorem dX4_unmetWithin_29 : decode cX4_unmetWithin 29 = .ok (.ifCond .ne 50, 3) := by decide +kernel
theorem dX4_unmetWithin_3 : decode cX4_unmetWithin 3 = .ok (.istore_n 3, 1) := by decide +kernel
theorem dX4_unmetWithin_32 : decode cX4_unmetWithin 32 = .ok (.aload_n 0, 1) := by decide +kernel
theorem dX4_unmetWithin_33 : decode cX4_unmetWithin 33 = .ok (.aload_n 0, 1) := by decide +kernel
theorem dX4_unmetWithin_34 : decode cX4_unmetWithin 34 = .ok (.getfield 28, 3) := by decide +kernel
theorem dX4_unmetWithin_37 : decode cX4_unmetWithin 37 = .ok (.getfield 121, 3) := by decide +kernel
theorem dX4_unmetWithin_4 : decode cX4_unmetWithin 4 = .ok (.iload_n 3, 1) := by decide +kernel
theorem dX4_unmetWithin_40 : decode cX4_unmetWithin 40 = .ok (.iload_n 3, 1) := by decide +kernel
theorem dX4_unmetWithin_41 : decode cX4_unmetWithin 41 = .ok (.iaload, 1) := by decide +kernel
theorem dX4_unmetWithin_42 : decode cX4_unmetWithin 42 = .ok (.iload 5, 2) := by decide +kernel
theorem dX4_unmetWithin_44 : decode cX4_unmetWithin 44 = .ok (.invokevirtual 188, 3) := by decide +kernel
theorem dX4_unmetWithin_47 : decode cX4_unmetWithin 47 = .ok (.aload_n 0, 1) := by decide +kernel
theorem dX4_unmetWithin_48 : decode cX4_unmetWithin 48 = .ok (.aload_n 0, 1) := by decide +kernel
theorem dX4_unmetWithin_49 : decode cX4_unmetWithin 49 = .ok (.getfield 28, 3) := by decide +kernel
theorem dX4_unmetWithin_5 : decode cX4_unmetWithin 5 = .ok (.aload_n 0, 1) := by decide +kernel
theorem dX4_unmetWithin_52 : decode cX4_unmetWithin 52 = .ok (.getfield 124, 3) := by decide +kernel
theorem dX4_unmetWithin_55 : decode cX4_unmetWithin 55 = .ok (.iload_n 3, 1) := by decide +kernel
theorem dX4_unmetWithin_56 : decode cX4_unmetWithin 56 = .ok (.iaload, 1) := by decide +kernel
theorem dX4_unmetWithin_57 : decode cX4_unmetWithin 57 = .ok (.iload 5, 2) := by decide +kernel
theorem dX4_unmetWithin_59 : decode cX4_unmetWithin 59 = .ok (.invokevirtual 188, 3) := by decide +kernel
theorem dX4_unmetWithin_6 : decode cX4_unmetWithin 6 = .ok (.getfield 28, 3) := by decide +kernel
theorem dX4_unmetWithin_62 : decode cX4_unmetWithin 62 = .ok (.iand, 1) := by decide +kernel
theorem dX4_unmetWithin_63 : decode cX4_unmetWithin 63 = .ok (.ifCond .eq 7, 3) := by decide +kernel
theorem dX4_unmetWithin_66 : decode cX4_unmetWithin 66 = .ok (.iconst 1, 1) := by decide +kernel
theorem dX4_unmetWithin_67 : decode cX4_unmetWithin 67 = .ok (.goto 4, 3) := by decide +kernel
theorem dX4_unmetWithin_70 : decode cX4_unmetWithin 70 = .ok (.iconst 0, 1) := by decide +kernel
theorem dX4_unmetWithin_71 : decode cX4_unmetWithin 71 = .ok (.istore 4, 2) := by decide +kernel
theorem dX4_unmetWithin_73 : decode cX4_unmetWithin 73 = .ok (.iinc 5 1, 3) := by decide +kernel
theorem dX4_unmetWithin_76 : decode cX4_unmetWithin 76 = .ok (.goto (-55), 3) := by decide +kernel
theorem dX4_unmetWithin_79 : decode cX4_unmetWithin 79 = .ok (.iload 4, 2) := by decide +kernel
theorem dX4_unmetWithin_81 : decode cX4_unmetWithin 81 = .ok (.ifCond .ne 6, 3) := by decide +kernel
theorem dX4_unmetWithin_84 : decode cX4_unmetWithin 84 = .ok (.iinc 2 1, 3) := by decide +kernel
theorem dX4_unmetWithin_87 : decode cX4_unmetWithin 87 = .ok (.iinc 3 1, 3) := by decide +kernel
theorem dX4_unmetWithin_9 : decode cX4_unmetWithin 9 = .ok (.getfield 127, 3) := by decide +kernel
theorem dX4_unmetWithin_90 : decode cX4_unmetWithin 90 = .ok (.goto (-86), 3) := by decide +kernel
theorem dX4_unmetWithin_93 : decode cX4_unmetWithin 93 = .ok (.iload_n 2, 1) := by decide +kernel
theorem dX4_unmetWithin_94 : decode cX4_unmetWithin 94 = .ok (.ireturn, 1) := by decide +kernel
theorem dX5_isBlank_0 : decode cX5_isBlank 0 = .ok (.iload_n 0, 1) := by decide +kernel
theorem dX5_isBlank_1 : decode cX5_isBlank 1 = .ok (.bipush 10, 2) := by decide +kernel
theorem dX5_isBlank_12 : decode cX5_isBlank 12 = .ok (.iconst 1, 1) := by decide +kernel
theorem dX5_isBlank_13 : decode cX5_isBlank 13 = .ok (.goto 4, 3) := by decide +kernel
theorem dX5_isBlank_16 : decode cX5_isBlank 16 = .ok (.iconst 0, 1) := by decide +kernel
theorem dX5_isBlank_17 : decode cX5_isBlank 17 = .ok (.ireturn, 1) := by decide +kernel
theorem dX5_isBlank_3 : decode cX5_isBlank 3 = .ok (.if_icmp .eq 9, 3) := by decide +kernel
theorem dX5_isBlank_6 : decode cX5_isBlank 6 = .ok (.iload_n 0, 1) := by decide +kernel
theorem dX5_isBlank_7 : decode cX5_isBlank 7 = .ok (.bipush 32, 2) := by decide +kernel
theorem dX5_isBlank_9 : decode cX5_isBlank 9 = .ok (.if_icmp .ne 7, 3) := by decide +kernel
theorem dX5_isDigit_0 : decode cX5_isDigit 0 = .ok (.iload_n 0, 1) := by decide +kernel
theorem dX5_isDigit_1 : decode cX5_isDigit 1 = .ok (.bipush 48, 2) := by decide +kernel
theorem dX5_isDigit_12 : decode cX5_isDigit 12 = .ok (.iconst 1, 1) := by decide +kernel
theorem dX5_isDigit_13 : decode cX5_isDigit 13 = .ok (.goto 4, 3) := by decide +kernel
theorem dX5_isDigit_16 : decode cX5_isDigit 16 = .ok (.iconst 0, 1) := by decide +kernel
theorem dX5_isDigit_17 : decode cX5_isDigit 17 = .ok (.ireturn, 1) := by decide +kernel
theorem dX5_isDigit_3 : decode cX5_isDigit 3 = .ok (.if_icmp .lt 13, 3) := by decide +kernel
theorem dX5_isDigit_6 : decode cX5_isDigit 6 = .ok (.iload_n 0, 1) := by decide +kernel
theorem dX5_isDigit_7 : decode cX5_isDigit 7 = .ok (.bipush 57, 2) := by decide +kernel
theorem dX5_isDigit_9 : decode cX5_isDigit 9 = .ok (.if_icmp .gt 7, 3) := by decide +kernel
theorem dX5_isFailed_0 : decode cX5_isFailed 0 = .ok (.aload_n 0, 1) := by decide +kernel
theorem dX5_isFailed_1 : decode cX5_isFailed 1 = .ok (.getfield 30, 3) := by decide +kernel
theorem dX5_isFailed_11 : decode cX5_isFailed 11 = .ok (.iconst 0, 1) := by decide +kernel
theorem dX5_isFailed_12 : decode cX5_isFailed 12 = .ok (.ireturn, 1) := by decide +kernel
theorem dX5_isFailed_4 : decode cX5_isFailed 4 = .ok (.ifCond .eq 7, 3) := by decide +kernel
theorem dX5_isFailed_7 : decode cX5_isFailed 7 = .ok (.iconst 1, 1) := by decide +kernel
theorem dX5_isFailed_8 : decode cX5_isFailed 8 = .ok (.goto 4, 3) := by decide +kernel
theorem dX5_isLetter_0 : decode cX5_isLetter 0 = .ok (.iload_n 0, 1) := by decide +kernel
theorem dX5_isLetter_1 : decode cX5_isLetter 1 = .ok (.bipush 97, 2) := by decide +kernel
theorem dX5_isLetter_12 : decode cX5_isLetter 12 = .ok (.iconst 1, 1) := by decide +kernel
theorem dX5_isLetter_13 : decode cX5_isLetter 13 = .ok (.goto 4, 3) := by decide +kernel
theorem dX5_isLetter_16 : decode cX5_isLetter 16 = .ok (.iconst 0, 1) := by decide +kernel
theorem dX5_isLetter_17 : decode cX5_isLetter 17 = .ok (.ireturn, 1) := by decide +kernel
theorem dX5_isLetter_3 : decode cX5_isLetter 3 = .ok (.if_icmp .lt 13, 3) := by decide +kernel
theorem dX5_isLetter_6 : decode cX5_isLetter 6 = .ok (.iload_n 0, 1) := by decide +kernel
theorem dX5_isLetter_7 : decode cX5_isLetter 7 = .ok (.bipush 122, 2) := by decide +kernel
theorem dX5_isLetter_9 : decode cX5_isLetter 9 = .ok (.if_icmp .gt 7, 3) := by decide +kernel
theorem dX5_isName_0 : decode cX5_isName 0 = .ok (.aload_n 0, 1) := by decide +kernel
theorem dX5_isName_1 : decode cX5_isName 1 = .ok (.getfield 21, 3) := by decide +kernel
theorem dX5_isName_12 : decode cX5_isName 12 = .ok (.iconst (-1), 1) := by decide +kernel
theorem dX5_isName_13 : decode cX5_isName 13 = .ok (.if_icmp .ne 7, 3) := by decide +kernel
theorem dX5_isName_16 : decode cX5_isName 16 = .ok (.iconst 1, 1) := by decide +kernel
theorem dX5_isName_17 : decode cX5_isName 17 = .ok (.goto 4, 3) := by decide +kernel
theorem dX5_isName_20 : decode cX5_isName 20 = .ok (.iconst 0, 1) := by decide +kernel
theorem dX5_isName_21 : decode cX5_isName 21 = .ok (.ireturn, 1) := by decide +kernel
theorem dX5_isName_4 : decode cX5_isName 4 = .ok (.iconst 1, 1) := by decide +kernel
theorem dX5_isName_5 : decode cX5_isName 5 = .ok (.if_icmp .ne 15, 3) := by decide +kernel
theorem dX5_isName_8 : decode cX5_isName 8 = .ok (.aload_n 0, 1) := by decide +kernel
theorem dX5_isName_9 : decode cX5_isName 9 = .ok (.getfield 27, 3) := by decide +kernel
theorem dX5_isNumber_0 : decode cX5_isNumber 0 = .ok (.aload_n 0, 1) := by decide +kernel
theorem dX5_isNumber_1 : decode cX5_isNumber 1 = .ok (.getfield 21, 3) := by decide +kernel
theorem dX5_isNumber_12 : decode cX5_isNumber 12 = .ok (.iconst 0, 1) := by decide +kernel
theorem dX5_isNumber_13 : decode cX5_isNumber 13 = .ok (.ireturn, 1) := by decide +kernel
theorem dX5_isNumber_4 : decode cX5_isNumber 4 = .ok (.iconst 2, 1) := by decide +kernel
theorem dX5_isNumber_5 : decode cX5_isNumber 5 = .ok (.if_icmp .ne 7, 3) := by decide +kernel
theorem dX5_isNumber_8 : decode cX5_isNumber 8 = .ok (.iconst 1, 1) := by decide +kernel
theorem dX5_isNumber_9 : decode cX5_isNumber 9 = .ok (.goto 4, 3) := by decide +kernel
theorem dX5_isOver_0 : decode cX5_isOver 0 = .ok (.aload_n 0, 1) := by decide +kernel
theorem dX5_isOver_1 : decode cX5_isOver 1 = .ok (.getfield 21, 3) := by decide +kernel
theorem dX5_isOver_11 : decode cX5_isOver 11 = .ok (.iconst 0, 1) := by decide +kernel
theorem dX5_isOver_12 : decode cX5_isOver 12 = .ok (.ireturn, 1) := by decide +kernel
theorem dX5_isOver_4 : decode cX5_isOver 4 = .ok (.ifCond .ne 7, 3) := by decide +kernel
theorem dX5_isOver_7 : decode cX5_isOver 7 = .ok (.iconst 1, 1) := by decide +kernel
theorem dX5_isOver_8 : decode cX5_isOver 8 = .ok (.goto 4, 3) := by decide +kernel
theorem dX5_isSign_0 : decode cX5_isSign 0 = .ok (.aload_n 0, 1) := by decide +kernel
theorem dX5_isSign_1 : decode cX5_isSign 1 = .ok (.getfield 21, 3) := by decide +kernel
theorem dX5_isSign_12 : decode cX5_isSign 12 = .ok (.iload_n 1, 1) := by decide +kernel
theorem dX5_isSign_13 : decode cX5_isSign 13 = .ok (.if_icmp .ne 7, 3) := by decide +kernel
theorem dX5_isSign_16 : decode cX5_isSign 16 = .ok (.iconst 1, 1) := by decide +kernel
theorem dX5_isSign_17 : decode cX5_isSign 17 = .ok (.goto 4, 3) := by decide +kernel
theorem dX5_isSign_20 : decode cX5_isSign 20 = .ok (.iconst 0, 1) := by decide +kernel
theorem dX5_isSign_21 : decode cX5_isSign 21 = .ok (.ireturn, 1) := by decide +kernel
theorem dX5_isSign_4 : decode cX5_isSign 4 = .ok (.iconst 3, 1) := by decide +kernel
theorem dX5_isSign_5 : decode cX5_isSign 5 = .ok (.if_icmp .ne 15, 3) := by decide +kernel
theorem dX5_isSign_8 : decode cX5_isSign 8 = .ok (.aload_n 0, 1) := by decide +kernel
theorem dX5_isSign_9 : decode cX5_isSign 9 = .ok (.getfield 24, 3) := by decide +kernel
theorem dX5_withLetter_0 : decode cX5_withLetter 0 = .ok (.iload_n 0, 1) := by decide +kernel
theorem dX5_withLetter_1 : decode cX5_withLetter 1 = .ok (.iconst 5, 1) := by decide +kernel
theorem dX5_withLetter_2 : decode cX5_withLetter 2 = .ok (.ishl, 1) := by decide +kernel
theorem dX5_withLetter_3 : decode cX5_withLetter 3 = .ok (.iload_n 1, 1) := by decide +kernel
theorem dX5_withLetter_4 : decode cX5_withLetter 4 = .ok (.bipush 96, 2) := by decide +kernel
theorem dX5_withLetter_6 : decode cX5_withLetter 6 = .ok (.isub, 1) := by decide +kernel
theorem dX5_withLetter_7 : decode cX5_withLetter 7 = .ok (.ior, 1) := by decide +kernel
theorem dX5_withLetter_8 : decode cX5_withLetter 8 = .ok (.ireturn, 1) := by decide +kernel
theorem dX6_productKind_0 : decode cX6_productKind 0 = .ok (.aload_n 0, 1) := by decide +kernel
theorem dX6_productKind_1 : decode cX6_productKind 1 = .ok (.getfield 9, 3) := by decide +kernel
theorem dX6_productKind_12 : decode cX6_productKind 12 = .ok (.bipush 10, 2) := by decide +kernel
theorem dX6_productKind_14 : decode cX6_productKind 14 = .ok (.ireturn, 1) := by decide +kernel
theorem dX6_productKind_15 : decode cX6_productKind 15 = .ok (.aload_n 0, 1) := by decide +kernel
theorem dX6_productKind_16 : decode cX6_productKind 16 = .ok (.getfield 9, 3) := by decide +kernel
theorem dX6_productKind_19 : decode cX6_productKind 19 = .ok (.bipush 47, 2) := by decide +kernel
theorem dX6_productKind_21 : decode cX6_productKind 21 = .ok (.invokevirtual 59, 3) := by decide +kernel
theorem dX6_productKind_24 : decode cX6_productKind 24 = .ok (.ifCond .eq 6, 3) := by decide +kernel
theorem dX6_productKind_27 : decode cX6_productKind 27 = .ok (.bipush 11, 2) := by decide +kernel
theorem dX6_productKind_29 : decode cX6_productKind 29 = .ok (.ireturn, 1) := by decide +kernel
theorem dX6_productKind_30 : decode cX6_productKind 30 = .ok (.aload_n 0, 1) := by decide +kernel
theorem dX6_productKind_31 : decode cX6_productKind 31 = .ok (.getfield 9, 3) := by decide +kernel
theorem dX6_productKind_34 : decode cX6_productKind 34 = .ok (.bipush 37, 2) := by decide +kernel
theorem dX6_productKind_36 : decode cX6_productKind 36 = .ok (.invokevirtual 59, 3) := by decide +kernel
theorem dX6_productKind_39 : decode cX6_productKind 39 = .ok (.ifCond .eq 8, 3) := by decide +kernel
theorem dX6_productKind_4 : decode cX6_productKind 4 = .ok (.bipush 42, 2) := by decide +kernel
theorem dX6_productKind_42 : decode cX6_productKind 42 = .ok (.bipush 12, 2) := by decide +kernel
theorem dX6_productKind_44 : decode cX6_productKind 44 = .ok (.goto 4, 3) := by decide +kernel
theorem dX6_productKind_47 : decode cX6_productKind 47 = .ok (.iconst (-1), 1) := by decide +kernel
theorem dX6_productKind_48 : decode cX6_productKind 48 = .ok (.ireturn, 1) := by decide +kernel
theorem dX6_productKind_6 : decode cX6_productKind 6 = .ok (.invokevirtual 59, 3) := by decide +kernel
theorem dX6_productKind_9 : decode cX6_productKind 9 = .ok (.ifCond .eq 6, 3) := by decide +kernel
theorem dX7_given_0 : decode cX7_given 0 = .ok (.iload_n 1, 1) := by decide +kernel
theorem dX7_given_1 : decode cX7_given 1 = .ok (.ifCond .ne 5, 3) := by decide +kernel
theorem dX7_given_12 : decode cX7_given 12 = .ok (.aload_n 0, 1) := by decide +kernel
theorem dX7_given_13 : decode cX7_given 13 = .ok (.getfield 31, 3) := by decide +kernel
theorem dX7_given_16 : decode cX7_given 16 = .ok (.iload_n 1, 1) := by decide +kernel
theorem dX7_given_17 : decode cX7_given 17 = .ok (.iaload, 1) := by decide +kernel
theorem dX7_given_18 : decode cX7_given 18 = .ok (.goto 4, 3) := by decide +kernel
theorem dX7_given_21 : decode cX7_given 21 = .ok (.iconst 1, 1) := by decide +kernel
theorem dX7_given_22 : decode cX7_given 22 = .ok (.ireturn, 1) := by decide +kernel
theorem dX7_given_4 : decode cX7_given 4 = .ok (.iload_n 2, 1) := by decide +kernel
theorem dX7_given_5 : decode cX7_given 5 = .ok (.ireturn, 1) := by decide +kernel
theorem dX7_given_6 : decode cX7_given 6 = .ok (.iload_n 1, 1) := by decide +kernel
theorem dX7_given_7 : decode cX7_given 7 = .ok (.bipush 6, 2) := by decide +kernel
theorem dX7_given_9 : decode cX7_given 9 = .ok (.if_icmp .ge 12, 3) := by decide +kernel
theorem dX7_joined_0 : decode cX7_joined 0 = .ok (.iload_n 0, 1) := by decide +kernel
theorem dX7_joined_1 : decode cX7_joined 1 = .ok (.tableswitch 163 8 18 #[59, 68, 77, 86, 100, 114, 120, 126, 137, 148, 159], 59) := by decide +kernel
theorem dX7_joined_100 : decode cX7_joined 100 = .ok (.ireturn, 1) := by decide +kernel
theorem dX7_joined_101 : decode cX7_joined 101 = .ok (.iload_n 2, 1) := by decide +kernel
theorem dX7_joined_102 : decode cX7_joined 102 = .ok (.ifCond .ne 7, 3) := by decide +kernel
theorem dX7_joined_105 : decode cX7_joined 105 = .ok (.iconst 0, 1) := by decide +kernel
theorem dX7_joined_106 : decode cX7_joined 106 = .ok (.goto 8, 3) := by decide +kernel
theorem dX7_joined_109 : decode cX7_joined 109 = .ok (.iload_n 1, 1) := by decide +kernel
theorem dX7_joined_110 : decode cX7_joined 110 = .ok (.iload_n 2, 1) := by decide +kernel
theorem dX7_joined_111 : decode cX7_joined 111 = .ok (.invokestatic 57, 3) := by decide +kernel
theorem dX7_joined_114 : decode cX7_joined 114 = .ok (.ireturn, 1) := by decide +kernel
theorem dX7_joined_115 : decode cX7_joined 115 = .ok (.iload_n 1, 1) := by decide +kernel
theorem dX7_joined_116 : decode cX7_joined 116 = .ok (.iload_n 2, 1) := by decide +kernel
theorem dX7_joined_117 : decode cX7_joined 117 = .ok (.invokestatic 60, 3) := by decide +kernel
theorem dX7_joined_120 : decode cX7_joined 120 = .ok (.ireturn, 1) := by decide +kernel
theorem dX7_joined_121 : decode cX7_joined 121 = .ok (.iload_n 1, 1) := by decide +kernel
theorem dX7_joined_122 : decode cX7_joined 122 = .ok (.iload_n 2, 1) := by decide +kernel
theorem dX7_joined_123 : decode cX7_joined 123 = .ok (.invokestatic 63, 3) := by decide +kernel
theorem dX7_joined_126 : decode cX7_joined 126 = .ok (.ireturn, 1) := by decide +kernel
theorem dX7_joined_127 : decode cX7_joined 127 = .ok (.iload_n 1, 1) := by decide +kernel
theorem dX7_joined_128 : decode cX7_joined 128 = .ok (.iload_n 2, 1) := by decide +kernel
theorem dX7_joined_129 : decode cX7_joined 129 = .ok (.if_icmp .ge 7, 3) := by decide +kernel
theorem dX7_joined_132 : decode cX7_joined 132 = .ok (.iconst 1, 1) := by decide +kernel
theorem dX7_joined_133 : decode cX7_joined 133 = .ok (.goto 4, 3) := by decide +kernel
theorem dX7_joined_136 : decode cX7_joined 136 = .ok (.iconst 0, 1) := by decide +kernel
theorem dX7_joined_137 : decode cX7_joined 137 = .ok (.ireturn, 1) := by decide +kernel
theorem dX7_joined_138 : decode cX7_joined 138 = .ok (.iload_n 1, 1) := by decide +kernel
theorem dX7_joined_139 : decode cX7_joined 139 = .ok (.iload_n 2, 1) := by decide +kernel
theorem dX7_joined_140 : decode cX7_joined 140 = .ok (.if_icmp .le 7, 3) := by decide +kernel
theorem dX7_joined_143 : decode cX7_joined 143 = .ok (.iconst 1, 1) := by decide +kernel
theorem dX7_joined_144 : decode cX7_joined 144 = .ok (.goto 4, 3) := by decide +kernel
theorem dX7_joined_147 : decode cX7_joined 147 = .ok (.iconst 0, 1) := by decide +kernel
theorem dX7_joined_148 : decode cX7_joined 148 = .ok (.ireturn, 1) := by decide +kernel
theorem dX7_joined_149 : decode cX7_joined 149 = .ok (.iload_n 1, 1) := by decide +kernel
theorem dX7_joined_150 : decode cX7_joined 150 = .ok (.iload_n 2, 1) := by decide +kernel
theorem dX7_joined_151 : decode cX7_joined 151 = .ok (.if_icmp .ne 7, 3) := by decide +kernel
theorem dX7_joined_154 : decode cX7_joined 154 = .ok (.iconst 1, 1) := by decide +kernel
theorem dX7_joined_155 : decode cX7_joined 155 = .ok (.goto 4, 3) := by decide +kernel
theorem dX7_joined_158 : decode cX7_joined 158 = .ok (.iconst 0, 1) := by decide +kernel
theorem dX7_joined_159 : decode cX7_joined 159 = .ok (.ireturn, 1) := by decide +kernel
theorem dX7_joined_160 : decode cX7_joined 160 = .ok (.iload_n 1, 1) := by decide +kernel
theorem dX7_joined_161 : decode cX7_joined 161 = .ok (.iload_n 2, 1) := by decide +kernel
theorem dX7_joined_162 : decode cX7_joined 162 = .ok (.iand, 1) := by decide +kernel
theorem dX7_joined_163 : decode cX7_joined 163 = .ok (.ireturn, 1) := by decide +kernel
theorem dX7_joined_164 : decode cX7_joined 164 = .ok (.iload_n 1, 1) := by decide +kernel
theorem dX7_joined_165 : decode cX7_joined 165 = .ok (.iload_n 2, 1) := by decide +kernel
theorem dX7_joined_166 : decode cX7_joined 166 = .ok (.ior, 1) := by decide +kernel
theorem dX7_joined_167 : decode cX7_joined 167 = .ok (.ireturn, 1) := by decide +kernel
theorem dX7_joined_60 : decode cX7_joined 60 = .ok (.iload_n 1, 1) := by decide +kernel
theorem dX7_joined_61 : decode cX7_joined 61 = .ok (.i2l, 1) := by decide +kernel
theorem dX7_joined_62 : decode cX7_joined 62 = .ok (.iload_n 2, 1) := by decide +kernel
theorem dX7_joined_63 : decode cX7_joined 63 = .ok (.i2l, 1) := by decide +kernel
theorem dX7_joined_64 : decode cX7_joined 64 = .ok (.ladd, 1) := by decide +kernel
theorem dX7_joined_65 : decode cX7_joined 65 = .ok (.invokestatic 48, 3) := by decide +kernel
theorem dX7_joined_68 : decode cX7_joined 68 = .ok (.ireturn, 1) := by decide +kernel
theorem dX7_joined_69 : decode cX7_joined 69 = .ok (.iload_n 1, 1) := by decide +kernel
theorem dX7_joined_70 : decode cX7_joined 70 = .ok (.i2l, 1) := by decide +kernel
theorem dX7_joined_71 : decode cX7_joined 71 = .ok (.iload_n 2, 1) := by decide +kernel
theorem dX7_joined_72 : decode cX7_joined 72 = .ok (.i2l, 1) := by decide +kernel
theorem dX7_joined_73 : decode cX7_joined 73 = .ok (.lsub, 1) := by decide +kernel
theorem dX7_joined_74 : decode cX7_joined 74 = .ok (.invokestatic 48, 3) := by decide +kernel
theorem dX7_joined_77 : decode cX7_joined 77 = .ok (.ireturn, 1) := by decide +kernel
theorem dX7_joined_78 : decode cX7_joined 78 = .ok (.iload_n 1, 1) := by decide +kernel
theorem dX7_joined_79 : decode cX7_joined 79 = .ok (.i2l, 1) := by decide +kernel
theorem dX7_joined_80 : decode cX7_joined 80 = .ok (.iload_n 2, 1) := by decide +kernel
theorem dX7_joined_81 : decode cX7_joined 81 = .ok (.i2l, 1) := by decide +kernel
theorem dX7_joined_82 : decode cX7_joined 82 = .ok (.lmul, 1) := by decide +kernel
theorem dX7_joined_83 : decode cX7_joined 83 = .ok (.invokestatic 48, 3) := by decide +kernel
theorem dX7_joined_86 : decode cX7_joined 86 = .ok (.ireturn, 1) := by decide +kernel
theorem dX7_joined_87 : decode cX7_joined 87 = .ok (.iload_n 2, 1) := by decide +kernel
theorem dX7_joined_88 : decode cX7_joined 88 = .ok (.ifCond .ne 7, 3) := by decide +kernel
theorem dX7_joined_91 : decode cX7_joined 91 = .ok (.iconst 0, 1) := by decide +kernel
theorem dX7_joined_92 : decode cX7_joined 92 = .ok (.goto 8, 3) := by decide +kernel
theorem dX7_joined_95 : decode cX7_joined 95 = .ok (.iload_n 1, 1) := by decide +kernel
theorem dX7_joined_96 : decode cX7_joined 96 = .ok (.iload_n 2, 1) := by decide +kernel
theorem dX7_joined_97 : decode cX7_joined 97 = .ok (.invokestatic 52, 3) := by decide +kernel
theorem dX7_limited_0 : decode cX7_limited 0 = .ok (.lload_n 0, 1) := by decide +kernel
theorem dX7_limited_1 : decode cX7_limited 1 = .ok (.ldc2_w 66, 3) := by decide +kernel
theorem dX7_limited_10 : decode cX7_limited 10 = .ok (.ireturn, 1) := by decide +kernel
theorem dX7_limited_11 : decode cX7_limited 11 = .ok (.lload_n 0, 1) := by decide +kernel
theorem dX7_limited_12 : decode cX7_limited 12 = .ok (.ldc2_w 69, 3) := by decide +kernel
theorem dX7_limited_15 : decode cX7_limited 15 = .ok (.lcmp, 1) := by decide +kernel
theorem dX7_limited_16 : decode cX7_limited 16 = .ok (.ifCond .ge 8, 3) := by decide +kernel
theorem dX7_limited_19 : decode cX7_limited 19 = .ok (.ldc 71, 2) := by decide +kernel
theorem dX7_limited_21 : decode cX7_limited 21 = .ok (.goto 5, 3) := by decide +kernel
theorem dX7_limited_24 : decode cX7_limited 24 = .ok (.lload_n 0, 1) := by decide +kernel
theorem dX7_limited_25 : decode cX7_limited 25 = .ok (.l2i, 1) := by decide +kernel
theorem dX7_limited_26 : decode cX7_limited 26 = .ok (.ireturn, 1) := by decide +kernel
theorem dX7_limited_4 : decode cX7_limited 4 = .ok (.lcmp, 1) := by decide +kernel
theorem dX7_limited_5 : decode cX7_limited 5 = .ok (.ifCond .le 6, 3) := by decide +kernel
theorem dX7_limited_8 : decode cX7_limited 8 = .ok (.ldc 68, 2) := by decide +kernel
theorem dX8_dearestToShut_0 : decode cX8_dearestToShut 0 = .ok (.aload_n 0, 1) := by decide +kernel
theorem dX8_dearestToShut_1 : decode cX8_dearestToShut 1 = .ok (.getfield 18, 3) := by decide +kernel
theorem dX8_dearestToShut_100 : decode cX8_dearestToShut 100 = .ok (.aload_n 2, 1) := by decide +kernel
theorem dX8_dearestToShut_101 : decode cX8_dearestToShut 101 = .ok (.getfield 28, 3) := by decide +kernel
theorem dX8_dearestToShut_104 : decode cX8_dearestToShut 104 = .ok (.getfield 112, 3) := by decide +kernel
theorem dX8_dearestToShut_107 : decode cX8_dearestToShut 107 = .ok (.iload 6, 2) := by decide +kernel
theorem dX8_dearestToShut_109 : decode cX8_dearestToShut 109 = .ok (.iaload, 1) := by decide +kernel
theorem dX8_dearestToShut_110 : decode cX8_dearestToShut 110 = .ok (.aload_n 2, 1) := by decide +kernel
theorem dX8_dearestToShut_111 : decode cX8_dearestToShut 111 = .ok (.getfield 28, 3) := by decide +kernel
theorem dX8_dearestToShut_114 : decode cX8_dearestToShut 114 = .ok (.getfield 112, 3) := by decide +kernel
theorem dX8_dearestToShut_117 : decode cX8_dearestToShut 117 = .ok (.iload 5, 2) := by decide +kernel
theorem dX8_dearestToShut_119 : decode cX8_dearestToShut 119 = .ok (.iaload, 1) := by decide +kernel
theorem dX8_dearestToShut_12 : decode cX8_dearestToShut 12 = .ok (.getfield 99, 3) := by decide +kernel
theorem dX8_dearestToShut_120 : decode cX8_dearestToShut 120 = .ok (.if_icmp .le 7, 3) := by decide +kernel
theorem dX8_dearestToShut_123 : decode cX8_dearestToShut 123 = .ok (.iload 6, 2) := by decide +kernel
theorem dX8_dearestToShut_125 : decode cX8_dearestToShut 125 = .ok (.istore 5, 2) := by decide +kernel
theorem dX8_dearestToShut_127 : decode cX8_dearestToShut 127 = .ok (.iinc 6 1, 3) := by decide +kernel
theorem dX8_dearestToShut_130 : decode cX8_dearestToShut 130 = .ok (.goto (-90), 3) := by decide +kernel
theorem dX8_dearestToShut_133 : decode cX8_dearestToShut 133 = .ok (.iload 5, 2) := by decide +kernel
theorem dX8_dearestToShut_135 : decode cX8_dearestToShut 135 = .ok (.ireturn, 1) := by decide +kernel
theorem dX8_dearestToShut_15 : decode cX8_dearestToShut 15 = .ok (.aload_n 2, 1) := by decide +kernel
theorem dX8_dearestToShut_16 : decode cX8_dearestToShut 16 = .ok (.getfield 28, 3) := by decide +kernel
theorem dX8_dearestToShut_19 : decode cX8_dearestToShut 19 = .ok (.getfield 102, 3) := by decide +kernel
theorem dX8_dearestToShut_22 : decode cX8_dearestToShut 22 = .ok (.isub, 1) := by decide +kernel
theorem dX8_dearestToShut_23 : decode cX8_dearestToShut 23 = .ok (.istore_n 3, 1) := by decide +kernel
theorem dX8_dearestToShut_24 : decode cX8_dearestToShut 24 = .ok (.aload_n 0, 1) := by decide +kernel
theorem dX8_dearestToShut_25 : decode cX8_dearestToShut 25 = .ok (.getfield 18, 3) := by decide +kernel
theorem dX8_dearestToShut_28 : decode cX8_dearestToShut 28 = .ok (.iload_n 1, 1) := by decide +kernel
theorem dX8_dearestToShut_29 : decode cX8_dearestToShut 29 = .ok (.invokevirtual 105, 3) := by decide +kernel
theorem dX8_dearestToShut_32 : decode cX8_dearestToShut 32 = .ok (.istore 4, 2) := by decide +kernel
theorem dX8_dearestToShut_34 : decode cX8_dearestToShut 34 = .ok (.iconst (-1), 1) := by decide +kernel
theorem dX8_dearestToShut_35 : decode cX8_dearestToShut 35 = .ok (.istore 5, 2) := by decide +kernel
theorem dX8_dearestToShut_37 : decode cX8_dearestToShut 37 = .ok (.iconst 0, 1) := by decide +kernel
theorem dX8_dearestToShut_38 : decode cX8_dearestToShut 38 = .ok (.istore 6, 2) := by decide +kernel
theorem dX8_dearestToShut_4 : decode cX8_dearestToShut 4 = .ok (.getfield 22, 3) := by decide +kernel
theorem dX8_dearestToShut_40 : decode cX8_dearestToShut 40 = .ok (.iload 6, 2) := by decide +kernel
theorem dX8_dearestToShut_42 : decode cX8_dearestToShut 42 = .ok (.aload_n 2, 1) := by decide +kernel
theorem dX8_dearestToShut_43 : decode cX8_dearestToShut 43 = .ok (.getfield 28, 3) := by decide +kernel
theorem dX8_dearestToShut_46 : decode cX8_dearestToShut 46 = .ok (.getfield 34, 3) := by decide +kernel
theorem dX8_dearestToShut_49 : decode cX8_dearestToShut 49 = .ok (.if_icmp .ge 84, 3) := by decide +kernel
theorem dX8_dearestToShut_52 : decode cX8_dearestToShut 52 = .ok (.iload_n 3, 1) := by decide +kernel
theorem dX8_dearestToShut_53 : decode cX8_dearestToShut 53 = .ok (.aload_n 2, 1) := by decide +kernel
theorem dX8_dearestToShut_54 : decode cX8_dearestToShut 54 = .ok (.getfield 28, 3) := by decide +kernel
theorem dX8_dearestToShut_57 : decode cX8_dearestToShut 57 = .ok (.getfield 40, 3) := by decide +kernel
theorem dX8_dearestToShut_60 : decode cX8_dearestToShut 60 = .ok (.iload 6, 2) := by decide +kernel
theorem dX8_dearestToShut_62 : decode cX8_dearestToShut 62 = .ok (.iaload, 1) := by decide +kernel
theorem dX8_dearestToShut_63 : decode cX8_dearestToShut 63 = .ok (.aload_n 2, 1) := by decide +kernel
theorem dX8_dearestToShut_64 : decode cX8_dearestToShut 64 = .ok (.getfield 28, 3) := by decide +kernel
theorem dX8_dearestToShut_67 : decode cX8_dearestToShut 67 = .ok (.getfield 43, 3) := by decide +kernel
theorem dX8_dearestToShut_7 : decode cX8_dearestToShut 7 = .ok (.astore_n 2, 1) := by decide +kernel
theorem dX8_dearestToShut_70 : decode cX8_dearestToShut 70 = .ok (.iload 6, 2) := by decide +kernel
theorem dX8_dearestToShut_72 : decode cX8_dearestToShut 72 = .ok (.iaload, 1) := by decide +kernel
theorem dX8_dearestToShut_73 : decode cX8_dearestToShut 73 = .ok (.isub, 1) := by decide +kernel
theorem dX8_dearestToShut_74 : decode cX8_dearestToShut 74 = .ok (.isub, 1) := by decide +kernel
theorem dX8_dearestToShut_75 : decode cX8_dearestToShut 75 = .ok (.istore 7, 2) := by decide +kernel
theorem dX8_dearestToShut_77 : decode cX8_dearestToShut 77 = .ok (.iload 7, 2) := by decide +kernel
theorem dX8_dearestToShut_79 : decode cX8_dearestToShut 79 = .ok (.iload 4, 2) := by decide +kernel
theorem dX8_dearestToShut_8 : decode cX8_dearestToShut 8 = .ok (.aload_n 2, 1) := by decide +kernel
theorem dX8_dearestToShut_81 : decode cX8_dearestToShut 81 = .ok (.if_icmp .lt 46, 3) := by decide +kernel
theorem dX8_dearestToShut_84 : decode cX8_dearestToShut 84 = .ok (.aload_n 0, 1) := by decide +kernel
theorem dX8_dearestToShut_85 : decode cX8_dearestToShut 85 = .ok (.iload 6, 2) := by decide +kernel
theorem dX8_dearestToShut_87 : decode cX8_dearestToShut 87 = .ok (.iload_n 1, 1) := by decide +kernel
theorem dX8_dearestToShut_88 : decode cX8_dearestToShut 88 = .ok (.invokevirtual 109, 3) := by decide +kernel
theorem dX8_dearestToShut_9 : decode cX8_dearestToShut 9 = .ok (.getfield 28, 3) := by decide +kernel
theorem dX8_dearestToShut_91 : decode cX8_dearestToShut 91 = .ok (.ifCond .ne 36, 3) := by decide +kernel
theorem dX8_dearestToShut_94 : decode cX8_dearestToShut 94 = .ok (.iload 5, 2) := by decide +kernel
theorem dX8_dearestToShut_96 : decode cX8_dearestToShut 96 = .ok (.iconst (-1), 1) := by decide +kernel
theorem dX8_dearestToShut_97 : decode cX8_dearestToShut 97 = .ok (.if_icmp .eq 26, 3) := by decide +kernel
theorem dX8_fitNow_0 : decode cX8_fitNow 0 = .ok (.aload_n 0, 1) := by decide +kernel
theorem dX8_fitNow_1 : decode cX8_fitNow 1 = .ok (.getfield 18, 3) := by decide +kernel
theorem dX8_fitNow_10 : decode cX8_fitNow 10 = .ok (.iconst 0, 1) := by decide +kernel
theorem dX8_fitNow_101 : decode cX8_fitNow 101 = .ok (.aload_n 0, 1) := by decide +kernel
theorem dX8_fitNow_102 : decode cX8_fitNow 102 = .ok (.getfield 9, 3) := by decide +kernel
theorem dX8_fitNow_105 : decode cX8_fitNow 105 = .ok (.iload_n 3, 1) := by decide +kernel
theorem dX8_fitNow_106 : decode cX8_fitNow 106 = .ok (.iaload, 1) := by decide +kernel
theorem dX8_fitNow_107 : decode cX8_fitNow 107 = .ok (.iaload, 1) := by decide +kernel
theorem dX8_fitNow_108 : decode cX8_fitNow 108 = .ok (.isub, 1) := by decide +kernel
theorem dX8_fitNow_109 : decode cX8_fitNow 109 = .ok (.istore_n 2, 1) := by decide +kernel
theorem dX8_fitNow_11 : decode cX8_fitNow 11 = .ok (.istore_n 3, 1) := by decide +kernel
theorem dX8_fitNow_110 : decode cX8_fitNow 110 = .ok (.iinc 3 1, 3) := by decide +kernel
theorem dX8_fitNow_113 : decode cX8_fitNow 113 = .ok (.goto (-41), 3) := by decide +kernel
theorem dX8_fitNow_116 : decode cX8_fitNow 116 = .ok (.iload_n 2, 1) := by decide +kernel
theorem dX8_fitNow_117 : decode cX8_fitNow 117 = .ok (.ireturn, 1) := by decide +kernel
theorem dX8_fitNow_12 : decode cX8_fitNow 12 = .ok (.iload_n 3, 1) := by decide +kernel
theorem dX8_fitNow_13 : decode cX8_fitNow 13 = .ok (.aload_n 1, 1) := by decide +kernel
theorem dX8_fitNow_14 : decode cX8_fitNow 14 = .ok (.getfield 71, 3) := by decide +kernel
theorem dX8_fitNow_17 : decode cX8_fitNow 17 = .ok (.if_icmp .ge 53, 3) := by decide +kernel
theorem dX8_fitNow_20 : decode cX8_fitNow 20 = .ok (.aload_n 0, 1) := by decide +kernel
theorem dX8_fitNow_21 : decode cX8_fitNow 21 = .ok (.getfield 9, 3) := by decide +kernel
theorem dX8_fitNow_24 : decode cX8_fitNow 24 = .ok (.aload_n 1, 1) := by decide +kernel
theorem dX8_fitNow_25 : decode cX8_fitNow 25 = .ok (.getfield 74, 3) := by decide +kernel
theorem dX8_fitNow_28 : decode cX8_fitNow 28 = .ok (.iload_n 3, 1) := by decide +kernel
theorem dX8_fitNow_29 : decode cX8_fitNow 29 = .ok (.iaload, 1) := by decide +kernel
theorem dX8_fitNow_30 : decode cX8_fitNow 30 = .ok (.iaload, 1) := by decide +kernel
theorem dX8_fitNow_31 : decode cX8_fitNow 31 = .ok (.istore 4, 2) := by decide +kernel
theorem dX8_fitNow_33 : decode cX8_fitNow 33 = .ok (.iload 4, 2) := by decide +kernel
theorem dX8_fitNow_35 : decode cX8_fitNow 35 = .ok (.iconst (-1), 1) := by decide +kernel
theorem dX8_fitNow_36 : decode cX8_fitNow 36 = .ok (.if_icmp .eq 28, 3) := by decide +kernel
theorem dX8_fitNow_39 : decode cX8_fitNow 39 = .ok (.iload 4, 2) := by decide +kernel
theorem dX8_fitNow_4 : decode cX8_fitNow 4 = .ok (.getfield 22, 3) := by decide +kernel
theorem dX8_fitNow_41 : decode cX8_fitNow 41 = .ok (.aload_n 0, 1) := by decide +kernel
theorem dX8_fitNow_42 : decode cX8_fitNow 42 = .ok (.getfield 9, 3) := by decide +kernel
theorem dX8_fitNow_45 : decode cX8_fitNow 45 = .ok (.aload_n 1, 1) := by decide +kernel
theorem dX8_fitNow_46 : decode cX8_fitNow 46 = .ok (.getfield 77, 3) := by decide +kernel
theorem dX8_fitNow_49 : decode cX8_fitNow 49 = .ok (.iload_n 3, 1) := by decide +kernel
theorem dX8_fitNow_50 : decode cX8_fitNow 50 = .ok (.iaload, 1) := by decide +kernel
theorem dX8_fitNow_51 : decode cX8_fitNow 51 = .ok (.iaload, 1) := by decide +kernel
theorem dX8_fitNow_52 : decode cX8_fitNow 52 = .ok (.if_icmp .ne 12, 3) := by decide +kernel
theorem dX8_fitNow_55 : decode cX8_fitNow 55 = .ok (.iload_n 2, 1) := by decide +kernel
theorem dX8_fitNow_56 : decode cX8_fitNow 56 = .ok (.aload_n 1, 1) := by decide +kernel
theorem dX8_fitNow_57 : decode cX8_fitNow 57 = .ok (.getfield 80, 3) := by decide +kernel
theorem dX8_fitNow_60 : decode cX8_fitNow 60 = .ok (.iload_n 3, 1) := by decide +kernel
theorem dX8_fitNow_61 : decode cX8_fitNow 61 = .ok (.iaload, 1) := by decide +kernel
theorem dX8_fitNow_62 : decode cX8_fitNow 62 = .ok (.iadd, 1) := by decide +kernel
theorem dX8_fitNow_63 : decode cX8_fitNow 63 = .ok (.istore_n 2, 1) := by decide +kernel
theorem dX8_fitNow_64 : decode cX8_fitNow 64 = .ok (.iinc 3 1, 3) := by decide +kernel
theorem dX8_fitNow_67 : decode cX8_fitNow 67 = .ok (.goto (-55), 3) := by decide +kernel
theorem dX8_fitNow_7 : decode cX8_fitNow 7 = .ok (.astore_n 1, 1) := by decide +kernel
theorem dX8_fitNow_70 : decode cX8_fitNow 70 = .ok (.iconst 0, 1) := by decide +kernel
theorem dX8_fitNow_71 : decode cX8_fitNow 71 = .ok (.istore_n 3, 1) := by decide +kernel
theorem dX8_fitNow_72 : decode cX8_fitNow 72 = .ok (.iload_n 3, 1) := by decide +kernel
theorem dX8_fitNow_73 : decode cX8_fitNow 73 = .ok (.aload_n 1, 1) := by decide +kernel
theorem dX8_fitNow_74 : decode cX8_fitNow 74 = .ok (.getfield 46, 3) := by decide +kernel
theorem dX8_fitNow_77 : decode cX8_fitNow 77 = .ok (.getfield 50, 3) := by decide +kernel
theorem dX8_fitNow_8 : decode cX8_fitNow 8 = .ok (.iconst 0, 1) := by decide +kernel
theorem dX8_fitNow_80 : decode cX8_fitNow 80 = .ok (.if_icmp .ge 36, 3) := by decide +kernel
theorem dX8_fitNow_83 : decode cX8_fitNow 83 = .ok (.aload_n 0, 1) := by decide +kernel
theorem dX8_fitNow_84 : decode cX8_fitNow 84 = .ok (.getfield 9, 3) := by decide +kernel
theorem dX8_fitNow_87 : decode cX8_fitNow 87 = .ok (.iload_n 3, 1) := by decide +kernel
theorem dX8_fitNow_88 : decode cX8_fitNow 88 = .ok (.iaload, 1) := by decide +kernel
theorem dX8_fitNow_89 : decode cX8_fitNow 89 = .ok (.iconst (-1), 1) := by decide +kernel
theorem dX8_fitNow_9 : decode cX8_fitNow 9 = .ok (.istore_n 2, 1) := by decide +kernel
theorem dX8_fitNow_90 : decode cX8_fitNow 90 = .ok (.if_icmp .eq 20, 3) := by decide +kernel
theorem dX8_fitNow_93 : decode cX8_fitNow 93 = .ok (.iload_n 2, 1) := by decide +kernel
theorem dX8_fitNow_94 : decode cX8_fitNow 94 = .ok (.aload_n 1, 1) := by decide +kernel
theorem dX8_fitNow_95 : decode cX8_fitNow 95 = .ok (.getfield 28, 3) := by decide +kernel
theorem dX8_fitNow_98 : decode cX8_fitNow 98 = .ok (.getfield 68, 3) := by decide +kernel
theorem dX8_isMovable_0 : decode cX8_isMovable 0 = .ok (.aload_n 0, 1) := by decide +kernel
theorem dX8_isMovable_1 : decode cX8_isMovable 1 = .ok (.getfield 9, 3) := by decide +kernel
theorem dX8_isMovable_10 : decode cX8_isMovable 10 = .ok (.aload_n 0, 1) := by decide +kernel
theorem dX8_isMovable_11 : decode cX8_isMovable 11 = .ok (.getfield 18, 3) := by decide +kernel
theorem dX8_isMovable_14 : decode cX8_isMovable 14 = .ok (.getfield 22, 3) := by decide +kernel
theorem dX8_isMovable_17 : decode cX8_isMovable 17 = .ok (.getfield 46, 3) := by decide +kernel
theorem dX8_isMovable_20 : decode cX8_isMovable 20 = .ok (.getfield 57, 3) := by decide +kernel
theorem dX8_isMovable_23 : decode cX8_isMovable 23 = .ok (.iload_n 1, 1) := by decide +kernel
theorem dX8_isMovable_24 : decode cX8_isMovable 24 = .ok (.iaload, 1) := by decide +kernel
theorem dX8_isMovable_25 : decode cX8_isMovable 25 = .ok (.iconst (-1), 1) := by decide +kernel
theorem dX8_isMovable_26 : decode cX8_isMovable 26 = .ok (.if_icmp .ne 7, 3) := by decide +kernel
theorem dX8_isMovable_29 : decode cX8_isMovable 29 = .ok (.iconst 1, 1) := by decide +kernel
theorem dX8_isMovable_30 : decode cX8_isMovable 30 = .ok (.goto 4, 3) := by decide +kernel
theorem dX8_isMovable_33 : decode cX8_isMovable 33 = .ok (.iconst 0, 1) := by decide +kernel
theorem dX8_isMovable_34 : decode cX8_isMovable 34 = .ok (.ireturn, 1) := by decide +kernel
theorem dX8_isMovable_4 : decode cX8_isMovable 4 = .ok (.iload_n 1, 1) := by decide +kernel
theorem dX8_isMovable_5 : decode cX8_isMovable 5 = .ok (.iaload, 1) := by decide +kernel
theorem dX8_isMovable_6 : decode cX8_isMovable 6 = .ok (.iconst (-1), 1) := by decide +kernel
theorem dX8_isMovable_7 : decode cX8_isMovable 7 = .ok (.if_icmp .eq 26, 3) := by decide +kernel
theorem dX8_isOwnerIn_0 : decode cX8_isOwnerIn 0 = .ok (.aload_n 0, 1) := by decide +kernel
theorem dX8_isOwnerIn_1 : decode cX8_isOwnerIn 1 = .ok (.getfield 18, 3) := by decide +kernel
theorem dX8_isOwnerIn_11 : decode cX8_isOwnerIn 11 = .ok (.iload 4, 2) := by decide +kernel
theorem dX8_isOwnerIn_13 : decode cX8_isOwnerIn 13 = .ok (.aload_n 3, 1) := by decide +kernel
theorem dX8_isOwnerIn_14 : decode cX8_isOwnerIn 14 = .ok (.getfield 46, 3) := by decide +kernel
theorem dX8_isOwnerIn_17 : decode cX8_isOwnerIn 17 = .ok (.getfield 50, 3) := by decide +kernel
theorem dX8_isOwnerIn_20 : decode cX8_isOwnerIn 20 = .ok (.if_icmp .ge 38, 3) := by decide +kernel
theorem dX8_isOwnerIn_23 : decode cX8_isOwnerIn 23 = .ok (.aload_n 3, 1) := by decide +kernel
theorem dX8_isOwnerIn_24 : decode cX8_isOwnerIn 24 = .ok (.getfield 46, 3) := by decide +kernel
theorem dX8_isOwnerIn_27 : decode cX8_isOwnerIn 27 = .ok (.getfield 57, 3) := by decide +kernel
theorem dX8_isOwnerIn_30 : decode cX8_isOwnerIn 30 = .ok (.iload 4, 2) := by decide +kernel
theorem dX8_isOwnerIn_32 : decode cX8_isOwnerIn 32 = .ok (.iaload, 1) := by decide +kernel
theorem dX8_isOwnerIn_33 : decode cX8_isOwnerIn 33 = .ok (.iload_n 1, 1) := by decide +kernel
theorem dX8_isOwnerIn_34 : decode cX8_isOwnerIn 34 = .ok (.if_icmp .ne 18, 3) := by decide +kernel
theorem dX8_isOwnerIn_37 : decode cX8_isOwnerIn 37 = .ok (.aload_n 0, 1) := by decide +kernel
theorem dX8_isOwnerIn_38 : decode cX8_isOwnerIn 38 = .ok (.getfield 18, 3) := by decide +kernel
theorem dX8_isOwnerIn_4 : decode cX8_isOwnerIn 4 = .ok (.getfield 22, 3) := by decide +kernel
theorem dX8_isOwnerIn_41 : decode cX8_isOwnerIn 41 = .ok (.iload 4, 2) := by decide +kernel
theorem dX8_isOwnerIn_43 : decode cX8_isOwnerIn 43 = .ok (.iload_n 2, 1) := by decide +kernel
theorem dX8_isOwnerIn_44 : decode cX8_isOwnerIn 44 = .ok (.invokevirtual 53, 3) := by decide +kernel
theorem dX8_isOwnerIn_47 : decode cX8_isOwnerIn 47 = .ok (.ifCond .eq 5, 3) := by decide +kernel
theorem dX8_isOwnerIn_50 : decode cX8_isOwnerIn 50 = .ok (.iconst 1, 1) := by decide +kernel
theorem dX8_isOwnerIn_51 : decode cX8_isOwnerIn 51 = .ok (.ireturn, 1) := by decide +kernel
theorem dX8_isOwnerIn_52 : decode cX8_isOwnerIn 52 = .ok (.iinc 4 1, 3) := by decide +kernel
theorem dX8_isOwnerIn_55 : decode cX8_isOwnerIn 55 = .ok (.goto (-44), 3) := by decide +kernel
theorem dX8_isOwnerIn_58 : decode cX8_isOwnerIn 58 = .ok (.iconst 0, 1) := by decide +kernel
theorem dX8_isOwnerIn_59 : decode cX8_isOwnerIn 59 = .ok (.ireturn, 1) := by decide +kernel
theorem dX8_isOwnerIn_7 : decode cX8_isOwnerIn 7 = .ok (.astore_n 3, 1) := by decide +kernel
theorem dX8_isOwnerIn_8 : decode cX8_isOwnerIn 8 = .ok (.iconst 0, 1) := by decide +kernel
theorem dX8_isOwnerIn_9 : decode cX8_isOwnerIn 9 = .ok (.istore 4, 2) := by decide +kernel
theorem dX8_tiesThere_0 : decode cX8_tiesThere 0 = .ok (.aload_n 0, 1) := by decide +kernel
theorem dX8_tiesThere_1 : decode cX8_tiesThere 1 = .ok (.getfield 18, 3) := by decide +kernel
theorem dX8_tiesThere_100 : decode cX8_tiesThere 100 = .ok (.iadd, 1) := by decide +kernel
theorem dX8_tiesThere_101 : decode cX8_tiesThere 101 = .ok (.istore 4, 2) := by decide +kernel
theorem dX8_tiesThere_103 : decode cX8_tiesThere 103 = .ok (.iinc 5 1, 3) := by decide +kernel
theorem dX8_tiesThere_106 : decode cX8_tiesThere 106 = .ok (.goto (-92), 3) := by decide +kernel
theorem dX8_tiesThere_109 : decode cX8_tiesThere 109 = .ok (.iload 4, 2) := by decide +kernel
theorem dX8_tiesThere_11 : decode cX8_tiesThere 11 = .ok (.iconst 0, 1) := by decide +kernel
theorem dX8_tiesThere_111 : decode cX8_tiesThere 111 = .ok (.ireturn, 1) := by decide +kernel
theorem dX8_tiesThere_12 : decode cX8_tiesThere 12 = .ok (.istore 5, 2) := by decide +kernel
theorem dX8_tiesThere_14 : decode cX8_tiesThere 14 = .ok (.iload 5, 2) := by decide +kernel
theorem dX8_tiesThere_16 : decode cX8_tiesThere 16 = .ok (.aload_n 3, 1) := by decide +kernel
theorem dX8_tiesThere_17 : decode cX8_tiesThere 17 = .ok (.getfield 71, 3) := by decide +kernel
theorem dX8_tiesThere_20 : decode cX8_tiesThere 20 = .ok (.if_icmp .ge 89, 3) := by decide +kernel
theorem dX8_tiesThere_23 : decode cX8_tiesThere 23 = .ok (.aload_n 3, 1) := by decide +kernel
theorem dX8_tiesThere_24 : decode cX8_tiesThere 24 = .ok (.getfield 74, 3) := by decide +kernel
theorem dX8_tiesThere_27 : decode cX8_tiesThere 27 = .ok (.iload 5, 2) := by decide +kernel
theorem dX8_tiesThere_29 : decode cX8_tiesThere 29 = .ok (.iaload, 1) := by decide +kernel
theorem dX8_tiesThere_30 : decode cX8_tiesThere 30 = .ok (.istore 6, 2) := by decide +kernel
theorem dX8_tiesThere_32 : decode cX8_tiesThere 32 = .ok (.aload_n 3, 1) := by decide +kernel
theorem dX8_tiesThere_33 : decode cX8_tiesThere 33 = .ok (.getfield 77, 3) := by decide +kernel
theorem dX8_tiesThere_36 : decode cX8_tiesThere 36 = .ok (.iload 5, 2) := by decide +kernel
theorem dX8_tiesThere_38 : decode cX8_tiesThere 38 = .ok (.iaload, 1) := by decide +kernel
theorem dX8_tiesThere_39 : decode cX8_tiesThere 39 = .ok (.istore 7, 2) := by decide +kernel
theorem dX8_tiesThere_4 : decode cX8_tiesThere 4 = .ok (.getfield 22, 3) := by decide +kernel
theorem dX8_tiesThere_41 : decode cX8_tiesThere 41 = .ok (.iload 6, 2) := by decide +kernel
theorem dX8_tiesThere_43 : decode cX8_tiesThere 43 = .ok (.iload_n 1, 1) := by decide +kernel
theorem dX8_tiesThere_44 : decode cX8_tiesThere 44 = .ok (.if_icmp .ne 14, 3) := by decide +kernel
theorem dX8_tiesThere_47 : decode cX8_tiesThere 47 = .ok (.aload_n 0, 1) := by decide +kernel
theorem dX8_tiesThere_48 : decode cX8_tiesThere 48 = .ok (.getfield 9, 3) := by decide +kernel
theorem dX8_tiesThere_51 : decode cX8_tiesThere 51 = .ok (.iload 7, 2) := by decide +kernel
theorem dX8_tiesThere_53 : decode cX8_tiesThere 53 = .ok (.iaload, 1) := by decide +kernel
theorem dX8_tiesThere_54 : decode cX8_tiesThere 54 = .ok (.iload_n 2, 1) := by decide +kernel
theorem dX8_tiesThere_55 : decode cX8_tiesThere 55 = .ok (.if_icmp .eq 20, 3) := by decide +kernel
theorem dX8_tiesThere_58 : decode cX8_tiesThere 58 = .ok (.iload 7, 2) := by decide +kernel
theorem dX8_tiesThere_60 : decode cX8_tiesThere 60 = .ok (.iload_n 1, 1) := by decide +kernel
theorem dX8_tiesThere_61 : decode cX8_tiesThere 61 = .ok (.if_icmp .ne 18, 3) := by decide +kernel
theorem dX8_tiesThere_64 : decode cX8_tiesThere 64 = .ok (.aload_n 0, 1) := by decide +kernel
theorem dX8_tiesThere_65 : decode cX8_tiesThere 65 = .ok (.getfield 9, 3) := by decide +kernel
theorem dX8_tiesThere_68 : decode cX8_tiesThere 68 = .ok (.iload 6, 2) := by decide +kernel
theorem dX8_tiesThere_7 : decode cX8_tiesThere 7 = .ok (.astore_n 3, 1) := by decide +kernel
theorem dX8_tiesThere_70 : decode cX8_tiesThere 70 = .ok (.iaload, 1) := by decide +kernel
theorem dX8_tiesThere_71 : decode cX8_tiesThere 71 = .ok (.iload_n 2, 1) := by decide +kernel
theorem dX8_tiesThere_72 : decode cX8_tiesThere 72 = .ok (.if_icmp .ne 7, 3) := by decide +kernel
theorem dX8_tiesThere_75 : decode cX8_tiesThere 75 = .ok (.iconst 1, 1) := by decide +kernel
theorem dX8_tiesThere_76 : decode cX8_tiesThere 76 = .ok (.goto 4, 3) := by decide +kernel
theorem dX8_tiesThere_79 : decode cX8_tiesThere 79 = .ok (.iconst 0, 1) := by decide +kernel
theorem dX8_tiesThere_8 : decode cX8_tiesThere 8 = .ok (.iconst 0, 1) := by decide +kernel
theorem dX8_tiesThere_80 : decode cX8_tiesThere 80 = .ok (.istore 8, 2) := by decide +kernel
theorem dX8_tiesThere_82 : decode cX8_tiesThere 82 = .ok (.iload 4, 2) := by decide +kernel
theorem dX8_tiesThere_84 : decode cX8_tiesThere 84 = .ok (.iload 8, 2) := by decide +kernel
theorem dX8_tiesThere_86 : decode cX8_tiesThere 86 = .ok (.ifCond .eq 13, 3) := by decide +kernel
theorem dX8_tiesThere_89 : decode cX8_tiesThere 89 = .ok (.aload_n 3, 1) := by decide +kernel
theorem dX8_tiesThere_9 : decode cX8_tiesThere 9 = .ok (.istore 4, 2) := by decide +kernel
theorem dX8_tiesThere_90 : decode cX8_tiesThere 90 = .ok (.getfield 80, 3) := by decide +kernel
theorem dX8_tiesThere_93 : decode cX8_tiesThere 93 = .ok (.iload 5, 2) := by decide +kernel
theorem dX8_tiesThere_95 : decode cX8_tiesThere 95 = .ok (.iaload, 1) := by decide +kernel
theorem dX8_tiesThere_96 : decode cX8_tiesThere 96 = .ok (.goto 4, 3) := by decide +kernel
theorem dX8_tiesThere_99 : decode cX8_tiesThere 99 = .ok (.iconst 0, 1) := by decide +kernel
theorem dX9_isFitting_0 : decode cX9_isFitting 0 = .ok (.aload_n 0, 1) := by decide +kernel
theorem dX9_isFitting_1 : decode cX9_isFitting 1 = .ok (.getfield 25, 3) := by decide +kernel
theorem dX9_isFitting_100 : decode cX9_isFitting 100 = .ok (.iconst 0, 1) := by decide +kernel
theorem dX9_isFitting_101 : decode cX9_isFitting 101 = .ok (.istore 5, 2) := by decide +kernel
theorem dX9_isFitting_103 : decode cX9_isFitting 103 = .ok (.iload 5, 2) := by decide +kernel
theorem dX9_isFitting_105 : decode cX9_isFitting 105 = .ok (.ifCond .eq 19, 3) := by decide +kernel
theorem dX9_isFitting_108 : decode cX9_isFitting 108 = .ok (.aload_n 0, 1) := by decide +kernel
theorem dX9_isFitting_109 : decode cX9_isFitting 109 = .ok (.getfield 25, 3) := by decide +kernel
theorem dX9_isFitting_112 : decode cX9_isFitting 112 = .ok (.aload_n 0, 1) := by decide +kernel
theorem dX9_isFitting_113 : decode cX9_isFitting 113 = .ok (.getfield 15, 3) := by decide +kernel
theorem dX9_isFitting_116 : decode cX9_isFitting 116 = .ok (.iload 4, 2) := by decide +kernel
theorem dX9_isFitting_118 : decode cX9_isFitting 118 = .ok (.invokevirtual 80, 3) := by decide +kernel
theorem dX9_isFitting_12 : decode cX9_isFitting 12 = .ok (.getfield 67, 3) := by decide +kernel
theorem dX9_isFitting_121 : decode cX9_isFitting 121 = .ok (.ifCond .eq 7, 3) := by decide +kernel
theorem dX9_isFitting_124 : decode cX9_isFitting 124 = .ok (.iconst 1, 1) := by decide +kernel
theorem dX9_isFitting_125 : decode cX9_isFitting 125 = .ok (.goto 4, 3) := by decide +kernel
theorem dX9_isFitting_128 : decode cX9_isFitting 128 = .ok (.iconst 0, 1) := by decide +kernel
theorem dX9_isFitting_129 : decode cX9_isFitting 129 = .ok (.ireturn, 1) := by decide +kernel
theorem dX9_isFitting_15 : decode cX9_isFitting 15 = .ok (.iload_n 1, 1) := by decide +kernel
theorem dX9_isFitting_16 : decode cX9_isFitting 16 = .ok (.iaload, 1) := by decide +kernel
theorem dX9_isFitting_17 : decode cX9_isFitting 17 = .ok (.iconst (-1), 1) := by decide +kernel
theorem dX9_isFitting_18 : decode cX9_isFitting 18 = .ok (.if_icmp .ne 46, 3) := by decide +kernel
theorem dX9_isFitting_21 : decode cX9_isFitting 21 = .ok (.iconst 0, 1) := by decide +kernel
theorem dX9_isFitting_22 : decode cX9_isFitting 22 = .ok (.istore 4, 2) := by decide +kernel
theorem dX9_isFitting_24 : decode cX9_isFitting 24 = .ok (.iload 4, 2) := by decide +kernel
theorem dX9_isFitting_26 : decode cX9_isFitting 26 = .ok (.iconst 5, 1) := by decide +kernel
theorem dX9_isFitting_27 : decode cX9_isFitting 27 = .ok (.if_icmp .ge 37, 3) := by decide +kernel
theorem dX9_isFitting_30 : decode cX9_isFitting 30 = .ok (.aload_n 0, 1) := by decide +kernel
theorem dX9_isFitting_31 : decode cX9_isFitting 31 = .ok (.getfield 15, 3) := by decide +kernel
theorem dX9_isFitting_34 : decode cX9_isFitting 34 = .ok (.iload_n 1, 1) := by decide +kernel
theorem dX9_isFitting_35 : decode cX9_isFitting 35 = .ok (.iaload, 1) := by decide +kernel
theorem dX9_isFitting_36 : decode cX9_isFitting 36 = .ok (.iload 4, 2) := by decide +kernel
theorem dX9_isFitting_38 : decode cX9_isFitting 38 = .ok (.ishr, 1) := by decide +kernel
theorem dX9_isFitting_39 : decode cX9_isFitting 39 = .ok (.iconst 1, 1) := by decide +kernel
theorem dX9_isFitting_4 : decode cX9_isFitting 4 = .ok (.getfield 29, 3) := by decide +kernel
theorem dX9_isFitting_40 : decode cX9_isFitting 40 = .ok (.iand, 1) := by decide +kernel
theorem dX9_isFitting_41 : decode cX9_isFitting 41 = .ok (.iconst 1, 1) := by decide +kernel
theorem dX9_isFitting_42 : decode cX9_isFitting 42 = .ok (.if_icmp .ne 16, 3) := by decide +kernel
theorem dX9_isFitting_45 : decode cX9_isFitting 45 = .ok (.aload_n 0, 1) := by decide +kernel
theorem dX9_isFitting_46 : decode cX9_isFitting 46 = .ok (.getfield 22, 3) := by decide +kernel
theorem dX9_isFitting_49 : decode cX9_isFitting 49 = .ok (.iload 4, 2) := by decide +kernel
theorem dX9_isFitting_51 : decode cX9_isFitting 51 = .ok (.iaload, 1) := by decide +kernel
theorem dX9_isFitting_52 : decode cX9_isFitting 52 = .ok (.iload_n 2, 1) := by decide +kernel
theorem dX9_isFitting_53 : decode cX9_isFitting 53 = .ok (.if_icmp .lt 5, 3) := by decide +kernel
theorem dX9_isFitting_56 : decode cX9_isFitting 56 = .ok (.iconst 0, 1) := by decide +kernel
theorem dX9_isFitting_57 : decode cX9_isFitting 57 = .ok (.ireturn, 1) := by decide +kernel
theorem dX9_isFitting_58 : decode cX9_isFitting 58 = .ok (.iinc 4 1, 3) := by decide +kernel
theorem dX9_isFitting_61 : decode cX9_isFitting 61 = .ok (.goto (-37), 3) := by decide +kernel
theorem dX9_isFitting_64 : decode cX9_isFitting 64 = .ok (.aload_n 3, 1) := by decide +kernel
theorem dX9_isFitting_65 : decode cX9_isFitting 65 = .ok (.getfield 35, 3) := by decide +kernel
theorem dX9_isFitting_68 : decode cX9_isFitting 68 = .ok (.getfield 70, 3) := by decide +kernel
theorem dX9_isFitting_7 : decode cX9_isFitting 7 = .ok (.astore_n 3, 1) := by decide +kernel
theorem dX9_isFitting_71 : decode cX9_isFitting 71 = .ok (.iload_n 1, 1) := by decide +kernel
theorem dX9_isFitting_72 : decode cX9_isFitting 72 = .ok (.iaload, 1) := by decide +kernel
theorem dX9_isFitting_73 : decode cX9_isFitting 73 = .ok (.istore 4, 2) := by decide +kernel
theorem dX9_isFitting_75 : decode cX9_isFitting 75 = .ok (.aload_n 3, 1) := by decide +kernel
theorem dX9_isFitting_76 : decode cX9_isFitting 76 = .ok (.getfield 73, 3) := by decide +kernel
theorem dX9_isFitting_79 : decode cX9_isFitting 79 = .ok (.iload 4, 2) := by decide +kernel
theorem dX9_isFitting_8 : decode cX9_isFitting 8 = .ok (.aload_n 3, 1) := by decide +kernel
theorem dX9_isFitting_81 : decode cX9_isFitting 81 = .ok (.baload, 1) := by decide +kernel
theorem dX9_isFitting_82 : decode cX9_isFitting 82 = .ok (.ifCond .eq 18, 3) := by decide +kernel
theorem dX9_isFitting_85 : decode cX9_isFitting 85 = .ok (.aload_n 3, 1) := by decide +kernel
theorem dX9_isFitting_86 : decode cX9_isFitting 86 = .ok (.getfield 77, 3) := by decide +kernel
theorem dX9_isFitting_89 : decode cX9_isFitting 89 = .ok (.iload 4, 2) := by decide +kernel
theorem dX9_isFitting_9 : decode cX9_isFitting 9 = .ok (.getfield 35, 3) := by decide +kernel
theorem dX9_isFitting_91 : decode cX9_isFitting 91 = .ok (.iaload, 1) := by decide +kernel
theorem dX9_isFitting_92 : decode cX9_isFitting 92 = .ok (.iload_n 1, 1) := by decide +kernel
theorem dX9_isFitting_93 : decode cX9_isFitting 93 = .ok (.if_icmp .ne 7, 3) := by decide +kernel
theorem dX9_isFitting_96 : decode cX9_isFitting 96 = .ok (.iconst 1, 1) := by decide +kernel
theorem dX9_isFitting_97 : decode cX9_isFitting 97 = .ok (.goto 4, 3) := by decide +kernel
