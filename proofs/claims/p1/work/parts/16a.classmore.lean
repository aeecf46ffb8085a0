set_option maxRecDepth 100000 in
theorem inX5 : ∀ w ∈ u_ws RX5 TX5 10, w ∈ tb := fun w h => List.mem_filter.mpr ⟨(by decide +kernel : ∀ w ∈ u_ws RX5 TX5 10, w ∈ lw_tbl) w h, (by decide +kernel : ∀ w ∈ u_ws RX5 TX5 10, goodWord w = true) w h⟩
theorem clX5 : ClF 5 RX5 TX5 10 tyX5 := ⟨rfl, inX5, tyX5_ok, nmX5⟩
set_option maxRecDepth 100000 in
theorem inX10 : ∀ w ∈ u_ws RX10 TX10 4, w ∈ tb := fun w h => List.mem_filter.mpr ⟨(by decide +kernel : ∀ w ∈ u_ws RX10 TX10 4, w ∈ lw_tbl) w h, (by decide +kernel : ∀ w ∈ u_ws RX10 TX10 4, goodWord w = true) w h⟩
theorem clX10 : ClF 10 RX10 TX10 4 tyX10 := ⟨rfl, inX10, tyX10_ok, nmX10⟩
theorem flX11_9 : Cond.fieldLink RX11 9 (TX11 0).1 (TX11 0).2.1 (TX11 0).2.2.1 ∈ tb := tb_at 661 (by decide +kernel)
theorem mlX11_93 : Cond.methodLink RX11 93 yX11_addBytes ∈ tb := tb_at 712 (by decide +kernel)
theorem kmV_X11_addBytes : KmV yX11_addBytes cX11_addBytes 3 none 1 := ⟨tb_at (w := Cond.code yX11_addBytes cX11_addBytes 3 none) 715 (by decide +kernel), tb_at (w := Cond.initialized RX11) 148 (by decide +kernel), tb_at (w := Cond.instanceMethod yX11_addBytes) 714 (by decide +kernel), tb_at (w := Cond.selects yX11_addBytes.cls yX11_addBytes yX11_addBytes) 2 (by decide +kernel), ⟨by decide +kernel, by decide +kernel, by decide +kernel⟩⟩
theorem flX9_25 : Cond.fieldLink RX9 25 (TX9 0).1 (TX9 0).2.1 (TX9 0).2.2.1 ∈ tb := tb_at 613 (by decide +kernel)
theorem flX9_29 : Cond.fieldLink RX9 29 (TX4 0).1 (TX4 0).2.1 (TX4 0).2.2.1 ∈ tb := tb_at 580 (by decide +kernel)
theorem flX9_35 : Cond.fieldLink RX9 35 (TX2 1).1 (TX2 1).2.1 (TX2 1).2.2.1 ∈ tb := tb_at 356 (by decide +kernel)
theorem flX9_9 : Cond.fieldLink RX9 9 (TX9 1).1 (TX9 1).2.1 (TX9 1).2.2.1 ∈ tb := tb_at 614 (by decide +kernel)
theorem flX9_22 : Cond.fieldLink RX9 22 (TX9 4).1 (TX9 4).2.1 (TX9 4).2.2.1 ∈ tb := tb_at 618 (by decide +kernel)
theorem mlX9_41 : Cond.methodLink RX9 41 yJ7_fill_53178 ∈ tb := tb_at 1194 (by decide +kernel)
theorem kmS_J7_fill_53178 : KmS yJ7_fill_53178 cJ7_fill_53178 4 none 2 := ⟨tb_at (w := Cond.code yJ7_fill_53178 cJ7_fill_53178 4 none) 578 (by decide +kernel), tb_at (w := Cond.initialized RJ7) 161 (by decide +kernel), tb_at (w := Cond.static yJ7_fill_53178) 577 (by decide +kernel), ⟨by decide +kernel, by decide +kernel, by decide +kernel⟩⟩
theorem flX9_19 : Cond.fieldLink RX9 19 (TX9 3).1 (TX9 3).2.1 (TX9 3).2.2.1 ∈ tb := tb_at 617 (by decide +kernel)
theorem cnX9_47 : Cond.constant RX9 47 1000000 ∈ tb := tb_at 1195 (by decide +kernel)
theorem flX9_48 : Cond.fieldLink RX9 48 (TX3 0).1 (TX3 0).2.1 (TX3 0).2.2.1 ∈ tb := tb_at 246 (by decide +kernel)
theorem flX9_15 : Cond.fieldLink RX9 15 (TX9 2).1 (TX9 2).2.1 (TX9 2).2.2.1 ∈ tb := tb_at 616 (by decide +kernel)
theorem flX9_84 : Cond.fieldLink RX9 84 (TX4 1).1 (TX4 1).2.1 (TX4 1).2.2.1 ∈ tb := tb_at 585 (by decide +kernel)
theorem aclX9 : Cond.methodLink RX9 85 arraycopyName ∈ tb := tb_at 1209 (by decide +kernel)
theorem acn : Cond.native arraycopyName ∈ tb := tb_at 1211 (by decide +kernel)
theorem acs : Cond.static arraycopyName ∈ tb := tb_at 1210 (by decide +kernel)
theorem aci : Cond.initialized "java/lang/System" ∈ tb := tb_at 168 (by decide +kernel)
theorem mlX9_91 : Cond.methodLink RX9 91 yX9_search ∈ tb := tb_at 1224 (by decide +kernel)
theorem kmV_X9_search : KmV yX9_search cX9_search 5 (some .int) 1 := ⟨tb_at (w := Cond.code yX9_search cX9_search 5 (some .int)) 1193 (by decide +kernel), tb_at (w := Cond.initialized RX9) 162 (by decide +kernel), tb_at (w := Cond.instanceMethod yX9_search) 1191 (by decide +kernel), tb_at (w := Cond.selects yX9_search.cls yX9_search yX9_search) 1192 (by decide +kernel), ⟨by decide +kernel, by decide +kernel, by decide +kernel⟩⟩
theorem mlX9_95 : Cond.methodLink RX9 95 yX4_total ∈ tb := tb_at 1238 (by decide +kernel)
theorem mlX11_260 : Cond.methodLink RX11 260 yX9_search ∈ tb := tb_at 1190 (by decide +kernel)
theorem mlX11_263 : Cond.methodLink RX11 263 yX9_takeFound ∈ tb := tb_at 1205 (by decide +kernel)
theorem kmV_X9_takeFound : KmV yX9_takeFound cX9_takeFound 1 none 0 := ⟨tb_at (w := Cond.code yX9_takeFound cX9_takeFound 1 none) 1208 (by decide +kernel), tb_at (w := Cond.initialized RX9) 162 (by decide +kernel), tb_at (w := Cond.instanceMethod yX9_takeFound) 1206 (by decide +kernel), tb_at (w := Cond.selects yX9_takeFound.cls yX9_takeFound yX9_takeFound) 1207 (by decide +kernel), ⟨by decide +kernel, by decide +kernel, by decide +kernel⟩⟩
theorem mlX11_269 : Cond.methodLink RX11 269 yX9_fewestDesks ∈ tb := tb_at 1220 (by decide +kernel)
theorem kmV_X9_fewestDesks : KmV yX9_fewestDesks cX9_fewestDesks 3 (some .int) 0 := ⟨tb_at (w := Cond.code yX9_fewestDesks cX9_fewestDesks 3 (some .int)) 1223 (by decide +kernel), tb_at (w := Cond.initialized RX9) 162 (by decide +kernel), tb_at (w := Cond.instanceMethod yX9_fewestDesks) 1221 (by decide +kernel), tb_at (w := Cond.selects yX9_fewestDesks.cls yX9_fewestDesks yX9_fewestDesks) 1222 (by decide +kernel), ⟨by decide +kernel, by decide +kernel, by decide +kernel⟩⟩
theorem mlX11_272 : Cond.methodLink RX11 272 yX4_holds ∈ tb := tb_at 1229 (by decide +kernel)
theorem kmV_X4_holds : KmV yX4_holds cX4_holds 1 (some .boolean) 0 := ⟨tb_at (w := Cond.code yX4_holds cX4_holds 1 (some .boolean)) 1232 (by decide +kernel), tb_at (w := Cond.initialized RX4) 160 (by decide +kernel), tb_at (w := Cond.instanceMethod yX4_holds) 1230 (by decide +kernel), tb_at (w := Cond.selects yX4_holds.cls yX4_holds yX4_holds) 1231 (by decide +kernel), ⟨by decide +kernel, by decide +kernel, by decide +kernel⟩⟩
theorem mlX11_275 : Cond.methodLink RX11 275 yX9_improve ∈ tb := tb_at 1234 (by decide +kernel)
theorem kmV_X9_improve : KmV yX9_improve cX9_improve 12 (some .int) 1 := ⟨tb_at (w := Cond.code yX9_improve cX9_improve 12 (some .int)) 1237 (by decide +kernel), tb_at (w := Cond.initialized RX9) 162 (by decide +kernel), tb_at (w := Cond.instanceMethod yX9_improve) 1235 (by decide +kernel), tb_at (w := Cond.selects yX9_improve.cls yX9_improve yX9_improve) 1236 (by decide +kernel), ⟨by decide +kernel, by decide +kernel, by decide +kernel⟩⟩
theorem mlX4_172 : Cond.methodLink RX4 172 yX4_goRound ∈ tb := tb_at 1386 (by decide +kernel)
theorem kmV_X4_goRound : KmV yX4_goRound cX4_goRound 4 (some .boolean) 0 := ⟨tb_at (w := Cond.code yX4_goRound cX4_goRound 4 (some .boolean)) 1389 (by decide +kernel), tb_at (w := Cond.initialized RX4) 160 (by decide +kernel), tb_at (w := Cond.instanceMethod yX4_goRound) 1388 (by decide +kernel), tb_at (w := Cond.selects yX4_goRound.cls yX4_goRound yX4_goRound) 55 (by decide +kernel), ⟨by decide +kernel, by decide +kernel, by decide +kernel⟩⟩
theorem mlX11_347 : Cond.methodLink RX11 347 yX4_roundsTillRest ∈ tb := tb_at 1382 (by decide +kernel)
theorem kmV_X4_roundsTillRest : KmV yX4_roundsTillRest cX4_roundsTillRest 3 (some .int) 1 := ⟨tb_at (w := Cond.code yX4_roundsTillRest cX4_roundsTillRest 3 (some .int)) 1385 (by decide +kernel), tb_at (w := Cond.initialized RX4) 160 (by decide +kernel), tb_at (w := Cond.instanceMethod yX4_roundsTillRest) 1383 (by decide +kernel), tb_at (w := Cond.selects yX4_roundsTillRest.cls yX4_roundsTillRest yX4_roundsTillRest) 1384 (by decide +kernel), ⟨by decide +kernel, by decide +kernel, by decide +kernel⟩⟩
theorem flX11_80 : Cond.fieldLink RX11 80 (TX11 11).1 (TX11 11).2.1 (TX11 11).2.2.1 ∈ tb := tb_at 672 (by decide +kernel)
theorem mlX11_373 : Cond.methodLink RX11 373 yX11_checkByte ∈ tb := tb_at 1486 (by decide +kernel)
theorem kmS_X11_checkByte : KmS yX11_checkByte cX11_checkByte 4 (some .int) 2 := ⟨tb_at (w := Cond.code yX11_checkByte cX11_checkByte 4 (some .int)) 1488 (by decide +kernel), tb_at (w := Cond.initialized RX11) 148 (by decide +kernel), tb_at (w := Cond.static yX11_checkByte) 1487 (by decide +kernel), ⟨by decide +kernel, by decide +kernel, by decide +kernel⟩⟩
theorem mlX11_377 : Cond.methodLink RX11 377 yX11_isImage ∈ tb := tb_at 1497 (by decide +kernel)
theorem kmV_X11_isImage : KmV yX11_isImage cX11_isImage 2 (some .boolean) 0 := ⟨tb_at (w := Cond.code yX11_isImage cX11_isImage 2 (some .boolean)) 1500 (by decide +kernel), tb_at (w := Cond.initialized RX11) 148 (by decide +kernel), tb_at (w := Cond.instanceMethod yX11_isImage) 1499 (by decide +kernel), tb_at (w := Cond.selects yX11_isImage.cls yX11_isImage yX11_isImage) 64 (by decide +kernel), ⟨by decide +kernel, by decide +kernel, by decide +kernel⟩⟩
theorem flX1_9 : Cond.fieldLink RX1 9 (TX1 0).1 (TX1 0).2.1 (TX1 0).2.2.1 ∈ tb := tb_at 189 (by decide +kernel)
theorem flX1_15 : Cond.fieldLink RX1 15 (TX1 1).1 (TX1 1).2.1 (TX1 1).2.2.1 ∈ tb := tb_at 194 (by decide +kernel)
theorem flX1_18 : Cond.fieldLink RX1 18 (TX1 2).1 (TX1 2).2.1 (TX1 2).2.2.1 ∈ tb := tb_at 198 (by decide +kernel)
theorem flX7_9 : Cond.fieldLink RX7 9 (TX7 0).1 (TX7 0).2.1 (TX7 0).2.2.1 ∈ tb := tb_at 322 (by decide +kernel)
theorem flX7_15 : Cond.fieldLink RX7 15 (TX7 1).1 (TX7 1).2.1 (TX7 1).2.2.1 ∈ tb := tb_at 326 (by decide +kernel)
theorem flX2_12 : Cond.fieldLink RX2 12 (TX2 0).1 (TX2 0).2.1 (TX2 0).2.2.1 ∈ tb := tb_at 350 (by decide +kernel)
theorem mlX2_68 : Cond.methodLink RX2 68 yX1_clear ∈ tb := tb_at 732 (by decide +kernel)
theorem kmV_X1_clear : KmV yX1_clear cX1_clear 1 none 0 := ⟨tb_at (w := Cond.code yX1_clear cX1_clear 1 none) 735 (by decide +kernel), tb_at (w := Cond.initialized RX1) 150 (by decide +kernel), tb_at (w := Cond.instanceMethod yX1_clear) 733 (by decide +kernel), tb_at (w := Cond.selects yX1_clear.cls yX1_clear yX1_clear) 734 (by decide +kernel), ⟨by decide +kernel, by decide +kernel, by decide +kernel⟩⟩
theorem flX2_21 : Cond.fieldLink RX2 21 (TX2 1).1 (TX2 1).2.1 (TX2 1).2.2.1 ∈ tb := tb_at 355 (by decide +kernel)
theorem flX2_71 : Cond.fieldLink RX2 71 (TX3 0).1 (TX3 0).2.1 (TX3 0).2.2.1 ∈ tb := tb_at 245 (by decide +kernel)
theorem flX2_28 : Cond.fieldLink RX2 28 (TX2 2).1 (TX2 2).2.1 (TX2 2).2.2.1 ∈ tb := tb_at 363 (by decide +kernel)
theorem mlX2_74 : Cond.methodLink RX2 74 yX7_clear ∈ tb := tb_at 736 (by decide +kernel)
theorem kmV_X7_clear : KmV yX7_clear cX7_clear 1 none 0 := ⟨tb_at (w := Cond.code yX7_clear cX7_clear 1 none) 739 (by decide +kernel), tb_at (w := Cond.initialized RX7) 152 (by decide +kernel), tb_at (w := Cond.instanceMethod yX7_clear) 737 (by decide +kernel), tb_at (w := Cond.selects yX7_clear.cls yX7_clear yX7_clear) 738 (by decide +kernel), ⟨by decide +kernel, by decide +kernel, by decide +kernel⟩⟩
theorem flX2_65 : Cond.fieldLink RX2 65 (TX2 13).1 (TX2 13).2.1 (TX2 13).2.2.1 ∈ tb := tb_at 401 (by decide +kernel)
theorem flX2_59 : Cond.fieldLink RX2 59 (TX2 11).1 (TX2 11).2.1 (TX2 11).2.2.1 ∈ tb := tb_at 393 (by decide +kernel)
theorem flX2_62 : Cond.fieldLink RX2 62 (TX2 12).1 (TX2 12).2.1 (TX2 12).2.2.1 ∈ tb := tb_at 397 (by decide +kernel)
theorem flX3_9 : Cond.fieldLink RX3 9 (TX3 0).1 (TX3 0).2.1 (TX3 0).2.2.1 ∈ tb := tb_at 244 (by decide +kernel)
theorem mlX2_75 : Cond.methodLink RX2 75 yX3_listSuiting ∈ tb := tb_at 1013 (by decide +kernel)
theorem kmV_X3_listSuiting : KmV yX3_listSuiting cX3_listSuiting 4 none 0 := ⟨tb_at (w := Cond.code yX3_listSuiting cX3_listSuiting 4 none) 1016 (by decide +kernel), tb_at (w := Cond.initialized RX3) 151 (by decide +kernel), tb_at (w := Cond.instanceMethod yX3_listSuiting) 1014 (by decide +kernel), tb_at (w := Cond.selects yX3_listSuiting.cls yX3_listSuiting yX3_listSuiting) 1015 (by decide +kernel), ⟨by decide +kernel, by decide +kernel, by decide +kernel⟩⟩
theorem flX2_44 : Cond.fieldLink RX2 44 (TX2 6).1 (TX2 6).2.1 (TX2 6).2.2.1 ∈ tb := tb_at 376 (by decide +kernel)
theorem flX4_9 : Cond.fieldLink RX4 9 (TX4 1).1 (TX4 1).2.1 (TX4 1).2.2.1 ∈ tb := tb_at 584 (by decide +kernel)
theorem mlX4_33 : Cond.methodLink RX4 33 yJ7_fill_53178 ∈ tb := tb_at 576 (by decide +kernel)
theorem flX4_25 : Cond.fieldLink RX4 25 (TX4 5).1 (TX4 5).2.1 (TX4 5).2.2.1 ∈ tb := tb_at 593 (by decide +kernel)
theorem cnX4_32 : Cond.constant RX4 32 (-2000000) ∈ tb := tb_at 575 (by decide +kernel)
theorem flX5_30 : Cond.fieldLink RX5 30 (TX5 7).1 (TX5 7).2.1 (TX5 7).2.2.1 ∈ tb := tb_at 510 (by decide +kernel)
theorem flX5_21 : Cond.fieldLink RX5 21 (TX5 4).1 (TX5 4).2.1 (TX5 4).2.2.1 ∈ tb := tb_at 503 (by decide +kernel)
theorem mlX5_85 : Cond.methodLink RX5 85 yX5_isFailed ∈ tb := tb_at 754 (by decide +kernel)
theorem kmV_X5_isFailed : KmV yX5_isFailed cX5_isFailed 1 (some .boolean) 0 := ⟨tb_at (w := Cond.code yX5_isFailed cX5_isFailed 1 (some .boolean)) 757 (by decide +kernel), tb_at (w := Cond.initialized RX5) 154 (by decide +kernel), tb_at (w := Cond.instanceMethod yX5_isFailed) 755 (by decide +kernel), tb_at (w := Cond.selects yX5_isFailed.cls yX5_isFailed yX5_isFailed) 756 (by decide +kernel), ⟨by decide +kernel, by decide +kernel, by decide +kernel⟩⟩
theorem flX5_15 : Cond.fieldLink RX5 15 (TX5 2).1 (TX5 2).2.1 (TX5 2).2.2.1 ∈ tb := tb_at 501 (by decide +kernel)
theorem flX5_9 : Cond.fieldLink RX5 9 (TX5 1).1 (TX5 1).2.1 (TX5 1).2.2.1 ∈ tb := tb_at 500 (by decide +kernel)
theorem flX5_18 : Cond.fieldLink RX5 18 (TX5 3).1 (TX5 3).2.1 (TX5 3).2.2.1 ∈ tb := tb_at 502 (by decide +kernel)
theorem flX5_27 : Cond.fieldLink RX5 27 (TX5 6).1 (TX5 6).2.1 (TX5 6).2.2.1 ∈ tb := tb_at 507 (by decide +kernel)
theorem flX5_40 : Cond.fieldLink RX5 40 (TX5 0).1 (TX5 0).2.1 (TX5 0).2.2.1 ∈ tb := tb_at 499 (by decide +kernel)
theorem mlX5_62 : Cond.methodLink RX5 62 yJ9_min_7cf53 ∈ tb := tb_at 744 (by decide +kernel)
theorem mmX5_min : Cond.methodLink RX5 62 Lib.Math.min.name ∈ tb := tb_at 744 (by decide +kernel)
theorem mms_min : Cond.static Lib.Math.min.name ∈ tb := tb_at 745 (by decide +kernel)
theorem mmc_min : Cond.code Lib.Math.min.name Lib.Math.min.code 2 (some .int) ∈ tb := tb_at 746 (by decide +kernel)
theorem mlX5_67 : Cond.methodLink RX5 67 yJ9_max_7cf53 ∈ tb := tb_at 747 (by decide +kernel)
theorem mmX5_max : Cond.methodLink RX5 67 Lib.Math.max.name ∈ tb := tb_at 747 (by decide +kernel)
theorem flX5_33 : Cond.fieldLink RX5 33 (TX5 8).1 (TX5 8).2.1 (TX5 8).2.2.1 ∈ tb := tb_at 512 (by decide +kernel)
theorem mlX5_70 : Cond.methodLink RX5 70 yX5_take ∈ tb := tb_at 750 (by decide +kernel)
theorem kmV_X5_take : KmV yX5_take cX5_take 4 none 0 := ⟨tb_at (w := Cond.code yX5_take cX5_take 4 none) 753 (by decide +kernel), tb_at (w := Cond.initialized RX5) 154 (by decide +kernel), tb_at (w := Cond.instanceMethod yX5_take) 751 (by decide +kernel), tb_at (w := Cond.selects yX5_take.cls yX5_take yX5_take) 752 (by decide +kernel), ⟨by decide +kernel, by decide +kernel, by decide +kernel⟩⟩
theorem flX10_19 : Cond.fieldLink RX10 19 (TX10 2).1 (TX10 2).2.1 (TX10 2).2.2.1 ∈ tb := tb_at 557 (by decide +kernel)
theorem mlX10_38 : Cond.methodLink RX10 38 yX2_clear ∈ tb := tb_at 728 (by decide +kernel)
theorem kmV_X2_clear : KmV yX2_clear cX2_clear 2 none 0 := ⟨tb_at (w := Cond.code yX2_clear cX2_clear 2 none) 731 (by decide +kernel), tb_at (w := Cond.initialized RX2) 149 (by decide +kernel), tb_at (w := Cond.instanceMethod yX2_clear) 729 (by decide +kernel), tb_at (w := Cond.selects yX2_clear.cls yX2_clear yX2_clear) 730 (by decide +kernel), ⟨by decide +kernel, by decide +kernel, by decide +kernel⟩⟩
theorem flX10_9 : Cond.fieldLink RX10 9 (TX10 3).1 (TX10 3).2.1 (TX10 3).2.2.1 ∈ tb := tb_at 558 (by decide +kernel)
theorem flX10_15 : Cond.fieldLink RX10 15 (TX10 0).1 (TX10 0).2.1 (TX10 0).2.2.1 ∈ tb := tb_at 554 (by decide +kernel)
theorem mlX10_41 : Cond.methodLink RX10 41 yX5_begin ∈ tb := tb_at 740 (by decide +kernel)
theorem kmV_X5_begin : KmV yX5_begin cX5_begin 2 none 1 := ⟨tb_at (w := Cond.code yX5_begin cX5_begin 2 none) 743 (by decide +kernel), tb_at (w := Cond.initialized RX5) 154 (by decide +kernel), tb_at (w := Cond.instanceMethod yX5_begin) 741 (by decide +kernel), tb_at (w := Cond.selects yX5_begin.cls yX5_begin yX5_begin) 742 (by decide +kernel), ⟨by decide +kernel, by decide +kernel, by decide +kernel⟩⟩
theorem flX11_34 : Cond.fieldLink RX11 34 (TX11 3).1 (TX11 3).2.1 (TX11 3).2.2.1 ∈ tb := tb_at 664 (by decide +kernel)
theorem flX11_20 : Cond.fieldLink RX11 20 (TX11 2).1 (TX11 2).2.1 (TX11 2).2.2.1 ∈ tb := tb_at 663 (by decide +kernel)
theorem mlX11_97 : Cond.methodLink RX11 97 yX10_begin ∈ tb := tb_at 724 (by decide +kernel)
theorem kmV_X10_begin : KmV yX10_begin cX10_begin 3 none 2 := ⟨tb_at (w := Cond.code yX10_begin cX10_begin 3 none) 727 (by decide +kernel), tb_at (w := Cond.initialized RX10) 153 (by decide +kernel), tb_at (w := Cond.instanceMethod yX10_begin) 725 (by decide +kernel), tb_at (w := Cond.selects yX10_begin.cls yX10_begin yX10_begin) 726 (by decide +kernel), ⟨by decide +kernel, by decide +kernel, by decide +kernel⟩⟩
theorem flX11_101 : Cond.fieldLink RX11 101 (TX10 0).1 (TX10 0).2.1 (TX10 0).2.2.1 ∈ tb := tb_at 555 (by decide +kernel)
theorem mlX11_105 : Cond.methodLink RX11 105 yX5_isOver ∈ tb := tb_at 783 (by decide +kernel)
theorem kmV_X5_isOver : KmV yX5_isOver cX5_isOver 1 (some .boolean) 0 := ⟨tb_at (w := Cond.code yX5_isOver cX5_isOver 1 (some .boolean)) 786 (by decide +kernel), tb_at (w := Cond.initialized RX5) 154 (by decide +kernel), tb_at (w := Cond.instanceMethod yX5_isOver) 784 (by decide +kernel), tb_at (w := Cond.selects yX5_isOver.cls yX5_isOver yX5_isOver) 785 (by decide +kernel), ⟨by decide +kernel, by decide +kernel, by decide +kernel⟩⟩
theorem flX11_112 : Cond.fieldLink RX11 112 (TX5 7).1 (TX5 7).2.1 (TX5 7).2.2.1 ∈ tb := tb_at 511 (by decide +kernel)
theorem flX11_115 : Cond.fieldLink RX11 115 (TX5 8).1 (TX5 8).2.1 (TX5 8).2.2.1 ∈ tb := tb_at 513 (by decide +kernel)
theorem mlX11_118 : Cond.methodLink RX11 118 yX2_finish ∈ tb := tb_at 1009 (by decide +kernel)
theorem kmV_X2_finish : KmV yX2_finish cX2_finish 2 none 0 := ⟨tb_at (w := Cond.code yX2_finish cX2_finish 2 none) 1012 (by decide +kernel), tb_at (w := Cond.initialized RX2) 149 (by decide +kernel), tb_at (w := Cond.instanceMethod yX2_finish) 1010 (by decide +kernel), tb_at (w := Cond.selects yX2_finish.cls yX2_finish yX2_finish) 1011 (by decide +kernel), ⟨by decide +kernel, by decide +kernel, by decide +kernel⟩⟩
theorem mlX11_124 : Cond.methodLink RX11 124 yX4_begin ∈ tb := tb_at 1027 (by decide +kernel)
theorem kmV_X4_begin : KmV yX4_begin cX4_begin 2 none 1 := ⟨tb_at (w := Cond.code yX4_begin cX4_begin 2 none) 1030 (by decide +kernel), tb_at (w := Cond.initialized RX4) 160 (by decide +kernel), tb_at (w := Cond.instanceMethod yX4_begin) 1028 (by decide +kernel), tb_at (w := Cond.selects yX4_begin.cls yX4_begin yX4_begin) 1029 (by decide +kernel), ⟨by decide +kernel, by decide +kernel, by decide +kernel⟩⟩
theorem flX11_126 : Cond.fieldLink RX11 126 (TX10 3).1 (TX10 3).2.1 (TX10 3).2.2.1 ∈ tb := tb_at 559 (by decide +kernel)
theorem dX11_addBytes_0 : decode cX11_addBytes 0 = .ok (.bipush 24, 2) := by decide +kernel
theorem dX11_addBytes_11 : decode cX11_addBytes 11 = .ok (.aload_n 0, 1) := by decide +kernel
theorem dX11_addBytes_12 : decode cX11_addBytes 12 = .ok (.getfield 9, 3) := by decide +kernel
theorem dX11_addBytes_15 : decode cX11_addBytes 15 = .ok (.arraylength, 1) := by decide +kernel
theorem dX11_addBytes_16 : decode cX11_addBytes 16 = .ok (.if_icmp .ge 35, 3) := by decide +kernel
theorem dX11_addBytes_19 : decode cX11_addBytes 19 = .ok (.aload_n 0, 1) := by decide +kernel
theorem dX11_addBytes_2 : decode cX11_addBytes 2 = .ok (.istore_n 2, 1) := by decide +kernel
theorem dX11_addBytes_20 : decode cX11_addBytes 20 = .ok (.getfield 9, 3) := by decide +kernel
theorem dX11_addBytes_23 : decode cX11_addBytes 23 = .ok (.aload_n 0, 1) := by decide +kernel
theorem dX11_addBytes_24 : decode cX11_addBytes 24 = .ok (.getfield 13, 3) := by decide +kernel
theorem dX11_addBytes_27 : decode cX11_addBytes 27 = .ok (.iload_n 1, 1) := by decide +kernel
theorem dX11_addBytes_28 : decode cX11_addBytes 28 = .ok (.iload_n 2, 1) := by decide +kernel
theorem dX11_addBytes_29 : decode cX11_addBytes 29 = .ok (.ishr, 1) := by decide +kernel
theorem dX11_addBytes_3 : decode cX11_addBytes 3 = .ok (.iload_n 2, 1) := by decide +kernel
theorem dX11_addBytes_30 : decode cX11_addBytes 30 = .ok (.sipush 255, 3) := by decide +kernel
theorem dX11_addBytes_33 : decode cX11_addBytes 33 = .ok (.iand, 1) := by decide +kernel
theorem dX11_addBytes_34 : decode cX11_addBytes 34 = .ok (.iastore, 1) := by decide +kernel
theorem dX11_addBytes_35 : decode cX11_addBytes 35 = .ok (.aload_n 0, 1) := by decide +kernel
theorem dX11_addBytes_36 : decode cX11_addBytes 36 = .ok (.dup, 1) := by decide +kernel
theorem dX11_addBytes_37 : decode cX11_addBytes 37 = .ok (.getfield 13, 3) := by decide +kernel
theorem dX11_addBytes_4 : decode cX11_addBytes 4 = .ok (.ifCond .lt 47, 3) := by decide +kernel
theorem dX11_addBytes_40 : decode cX11_addBytes 40 = .ok (.iconst 1, 1) := by decide +kernel
theorem dX11_addBytes_41 : decode cX11_addBytes 41 = .ok (.iadd, 1) := by decide +kernel
theorem dX11_addBytes_42 : decode cX11_addBytes 42 = .ok (.putfield 13, 3) := by decide +kernel
theorem dX11_addBytes_45 : decode cX11_addBytes 45 = .ok (.iinc 2 (-8), 3) := by decide +kernel
theorem dX11_addBytes_48 : decode cX11_addBytes 48 = .ok (.goto (-45), 3) := by decide +kernel
theorem dX11_addBytes_51 : decode cX11_addBytes 51 = .ok (.return_, 1) := by decide +kernel
theorem dX11_addBytes_7 : decode cX11_addBytes 7 = .ok (.aload_n 0, 1) := by decide +kernel
theorem dX11_addBytes_8 : decode cX11_addBytes 8 = .ok (.getfield 13, 3) := by decide +kernel
theorem dX11_feed_0 : decode cX11_feed 0 = .ok (.aload_n 0, 1) := by decide +kernel
theorem dX11_feed_1 : decode cX11_feed 1 = .ok (.getfield 13, 3) := by decide +kernel
theorem dX11_feed_10 : decode cX11_feed 10 = .ok (.if_icmp .le 9, 3) := by decide +kernel
theorem dX11_feed_19 : decode cX11_feed 19 = .ok (.aload_n 0, 1) := by decide +kernel
theorem dX11_feed_20 : decode cX11_feed 20 = .ok (.iload_n 1, 1) := by decide +kernel
theorem dX11_feed_21 : decode cX11_feed 21 = .ok (.invokevirtual 93, 3) := by decide +kernel
theorem dX11_feed_24 : decode cX11_feed 24 = .ok (.aload_n 0, 1) := by decide +kernel
theorem dX11_feed_25 : decode cX11_feed 25 = .ok (.iload_n 2, 1) := by decide +kernel
theorem dX11_feed_26 : decode cX11_feed 26 = .ok (.invokevirtual 93, 3) := by decide +kernel
theorem dX11_feed_29 : decode cX11_feed 29 = .ok (.aload_n 0, 1) := by decide +kernel
theorem dX11_feed_30 : decode cX11_feed 30 = .ok (.iload_n 3, 1) := by decide +kernel
theorem dX11_feed_31 : decode cX11_feed 31 = .ok (.invokevirtual 93, 3) := by decide +kernel
theorem dX11_feed_34 : decode cX11_feed 34 = .ok (.aload_n 0, 1) := by decide +kernel
theorem dX11_feed_35 : decode cX11_feed 35 = .ok (.iload 4, 2) := by decide +kernel
theorem dX11_feed_37 : decode cX11_feed 37 = .ok (.invokevirtual 93, 3) := by decide +kernel
theorem dX11_feed_4 : decode cX11_feed 4 = .ok (.bipush 20, 2) := by decide +kernel
theorem dX11_feed_40 : decode cX11_feed 40 = .ok (.aload_n 0, 1) := by decide +kernel
theorem dX11_feed_41 : decode cX11_feed 41 = .ok (.iload 5, 2) := by decide +kernel
theorem dX11_feed_43 : decode cX11_feed 43 = .ok (.invokevirtual 93, 3) := by decide +kernel
theorem dX11_feed_46 : decode cX11_feed 46 = .ok (.aload_n 0, 1) := by decide +kernel
theorem dX11_feed_47 : decode cX11_feed 47 = .ok (.getfield 13, 3) := by decide +kernel
theorem dX11_feed_50 : decode cX11_feed 50 = .ok (.ireturn, 1) := by decide +kernel
theorem dX11_feed_6 : decode cX11_feed 6 = .ok (.iadd, 1) := by decide +kernel
theorem dX11_feed_7 : decode cX11_feed 7 = .ok (.sipush 1800, 3) := by decide +kernel
theorem dX9_search_0 : decode cX9_search 0 = .ok (.aload_n 0, 1) := by decide +kernel
theorem dX9_search_1 : decode cX9_search 1 = .ok (.getfield 25, 3) := by decide +kernel
theorem dX9_search_10 : decode cX9_search 10 = .ok (.astore_n 2, 1) := by decide +kernel
theorem dX9_search_11 : decode cX9_search 11 = .ok (.aload_n 0, 1) := by decide +kernel
theorem dX9_search_12 : decode cX9_search 12 = .ok (.iconst 0, 1) := by decide +kernel
theorem dX9_search_13 : decode cX9_search 13 = .ok (.putfield 9, 3) := by decide +kernel
theorem dX9_search_16 : decode cX9_search 16 = .ok (.aload_n 0, 1) := by decide +kernel
theorem dX9_search_17 : decode cX9_search 17 = .ok (.getfield 22, 3) := by decide +kernel
theorem dX9_search_178 : decode cX9_search 178 = .ok (.iconst 1, 1) := by decide +kernel
theorem dX9_search_179 : decode cX9_search 179 = .ok (.ireturn, 1) := by decide +kernel
theorem dX9_search_20 : decode cX9_search 20 = .ok (.iconst 0, 1) := by decide +kernel
theorem dX9_search_21 : decode cX9_search 21 = .ok (.invokestatic 41, 3) := by decide +kernel
theorem dX9_search_24 : decode cX9_search 24 = .ok (.aload_n 0, 1) := by decide +kernel
theorem dX9_search_25 : decode cX9_search 25 = .ok (.getfield 19, 3) := by decide +kernel
theorem dX9_search_28 : decode cX9_search 28 = .ok (.iconst 0, 1) := by decide +kernel
theorem dX9_search_29 : decode cX9_search 29 = .ok (.iconst 0, 1) := by decide +kernel
theorem dX9_search_30 : decode cX9_search 30 = .ok (.iastore, 1) := by decide +kernel
theorem dX9_search_31 : decode cX9_search 31 = .ok (.iconst 0, 1) := by decide +kernel
theorem dX9_search_32 : decode cX9_search 32 = .ok (.istore_n 3, 1) := by decide +kernel
theorem dX9_search_33 : decode cX9_search 33 = .ok (.iconst 0, 1) := by decide +kernel
theorem dX9_search_34 : decode cX9_search 34 = .ok (.istore 4, 2) := by decide +kernel
theorem dX9_search_36 : decode cX9_search 36 = .ok (.iload 4, 2) := by decide +kernel
theorem dX9_search_38 : decode cX9_search 38 = .ok (.ldc 47, 2) := by decide +kernel
theorem dX9_search_4 : decode cX9_search 4 = .ok (.getfield 29, 3) := by decide +kernel
theorem dX9_search_40 : decode cX9_search 40 = .ok (.if_icmp .ge 138, 3) := by decide +kernel
theorem dX9_search_43 : decode cX9_search 43 = .ok (.iload_n 3, 1) := by decide +kernel
theorem dX9_search_44 : decode cX9_search 44 = .ok (.aload_n 2, 1) := by decide +kernel
theorem dX9_search_45 : decode cX9_search 45 = .ok (.getfield 48, 3) := by decide +kernel
theorem dX9_search_48 : decode cX9_search 48 = .ok (.if_icmp .ge 130, 3) := by decide +kernel
theorem dX9_search_7 : decode cX9_search 7 = .ok (.getfield 35, 3) := by decide +kernel
theorem dX9_takeFound_0 : decode cX9_takeFound 0 = .ok (.aload_n 0, 1) := by decide +kernel
theorem dX9_takeFound_1 : decode cX9_takeFound 1 = .ok (.getfield 15, 3) := by decide +kernel
theorem dX9_takeFound_12 : decode cX9_takeFound 12 = .ok (.iconst 0, 1) := by decide +kernel
theorem dX9_takeFound_13 : decode cX9_takeFound 13 = .ok (.aload_n 0, 1) := by decide +kernel
theorem dX9_takeFound_14 : decode cX9_takeFound 14 = .ok (.getfield 25, 3) := by decide +kernel
theorem dX9_takeFound_17 : decode cX9_takeFound 17 = .ok (.getfield 29, 3) := by decide +kernel
theorem dX9_takeFound_20 : decode cX9_takeFound 20 = .ok (.getfield 35, 3) := by decide +kernel
theorem dX9_takeFound_23 : decode cX9_takeFound 23 = .ok (.getfield 48, 3) := by decide +kernel
theorem dX9_takeFound_26 : decode cX9_takeFound 26 = .ok (.invokestatic 85, 3) := by decide +kernel
theorem dX9_takeFound_29 : decode cX9_takeFound 29 = .ok (.return_, 1) := by decide +kernel
theorem dX9_takeFound_4 : decode cX9_takeFound 4 = .ok (.iconst 0, 1) := by decide +kernel
theorem dX9_takeFound_5 : decode cX9_takeFound 5 = .ok (.aload_n 0, 1) := by decide +kernel
theorem dX9_takeFound_6 : decode cX9_takeFound 6 = .ok (.getfield 25, 3) := by decide +kernel
theorem dX9_takeFound_9 : decode cX9_takeFound 9 = .ok (.getfield 84, 3) := by decide +kernel
theorem dX9_fewestDesks_0 : decode cX9_fewestDesks 0 = .ok (.iconst 0, 1) := by decide +kernel
theorem dX9_fewestDesks_1 : decode cX9_fewestDesks 1 = .ok (.istore_n 1, 1) := by decide +kernel
theorem dX9_fewestDesks_10 : decode cX9_fewestDesks 10 = .ok (.invokevirtual 91, 3) := by decide +kernel
theorem dX9_fewestDesks_13 : decode cX9_fewestDesks 13 = .ok (.istore_n 2, 1) := by decide +kernel
theorem dX9_fewestDesks_14 : decode cX9_fewestDesks 14 = .ok (.iload_n 2, 1) := by decide +kernel
theorem dX9_fewestDesks_15 : decode cX9_fewestDesks 15 = .ok (.iconst 1, 1) := by decide +kernel
theorem dX9_fewestDesks_16 : decode cX9_fewestDesks 16 = .ok (.if_icmp .ne 5, 3) := by decide +kernel
theorem dX9_fewestDesks_19 : decode cX9_fewestDesks 19 = .ok (.iload_n 1, 1) := by decide +kernel
theorem dX9_fewestDesks_2 : decode cX9_fewestDesks 2 = .ok (.iload_n 1, 1) := by decide +kernel
theorem dX9_fewestDesks_20 : decode cX9_fewestDesks 20 = .ok (.ireturn, 1) := by decide +kernel
theorem dX9_fewestDesks_3 : decode cX9_fewestDesks 3 = .ok (.bipush 20, 2) := by decide +kernel
theorem dX9_fewestDesks_5 : decode cX9_fewestDesks 5 = .ok (.if_icmp .gt 50, 3) := by decide +kernel
theorem dX9_fewestDesks_8 : decode cX9_fewestDesks 8 = .ok (.aload_n 0, 1) := by decide +kernel
theorem dX9_fewestDesks_9 : decode cX9_fewestDesks 9 = .ok (.iload_n 1, 1) := by decide +kernel
theorem dX9_improve_0 : decode cX9_improve 0 = .ok (.aload_n 0, 1) := by decide +kernel
theorem dX9_improve_1 : decode cX9_improve 1 = .ok (.getfield 25, 3) := by decide +kernel
theorem dX9_improve_10 : decode cX9_improve 10 = .ok (.astore_n 2, 1) := by decide +kernel
theorem dX9_improve_11 : decode cX9_improve 11 = .ok (.aload_n 0, 1) := by decide +kernel
theorem dX9_improve_12 : decode cX9_improve 12 = .ok (.getfield 25, 3) := by decide +kernel
theorem dX9_improve_15 : decode cX9_improve 15 = .ok (.invokevirtual 95, 3) := by decide +kernel
theorem dX9_improve_18 : decode cX9_improve 18 = .ok (.istore_n 3, 1) := by decide +kernel
theorem dX9_improve_19 : decode cX9_improve 19 = .ok (.iconst 0, 1) := by decide +kernel
theorem dX9_improve_195 : decode cX9_improve 195 = .ok (.iload 4, 2) := by decide +kernel
theorem dX9_improve_197 : decode cX9_improve 197 = .ok (.ireturn, 1) := by decide +kernel
theorem dX9_improve_20 : decode cX9_improve 20 = .ok (.istore 4, 2) := by decide +kernel
theorem dX9_improve_22 : decode cX9_improve 22 = .ok (.iconst 0, 1) := by decide +kernel
theorem dX9_improve_23 : decode cX9_improve 23 = .ok (.istore 5, 2) := by decide +kernel
theorem dX9_improve_25 : decode cX9_improve 25 = .ok (.iconst 0, 1) := by decide +kernel
theorem dX9_improve_26 : decode cX9_improve 26 = .ok (.istore 6, 2) := by decide +kernel
theorem dX9_improve_28 : decode cX9_improve 28 = .ok (.iconst 0, 1) := by decide +kernel
theorem dX9_improve_29 : decode cX9_improve 29 = .ok (.istore 7, 2) := by decide +kernel
theorem dX9_improve_31 : decode cX9_improve 31 = .ok (.iconst 0, 1) := by decide +kernel
theorem dX9_improve_32 : decode cX9_improve 32 = .ok (.istore 8, 2) := by decide +kernel
theorem dX9_improve_34 : decode cX9_improve 34 = .ok (.iload 8, 2) := by decide +kernel
theorem dX9_improve_36 : decode cX9_improve 36 = .ok (.ldc 47, 2) := by decide +kernel
theorem dX9_improve_38 : decode cX9_improve 38 = .ok (.if_icmp .ge 157, 3) := by decide +kernel
theorem dX9_improve_4 : decode cX9_improve 4 = .ok (.getfield 29, 3) := by decide +kernel
theorem dX9_improve_41 : decode cX9_improve 41 = .ok (.iload 6, 2) := by decide +kernel
theorem dX9_improve_43 : decode cX9_improve 43 = .ok (.aload_n 2, 1) := by decide +kernel
theorem dX9_improve_44 : decode cX9_improve 44 = .ok (.getfield 48, 3) := by decide +kernel
theorem dX9_improve_47 : decode cX9_improve 47 = .ok (.if_icmp .ge 148, 3) := by decide +kernel
theorem dX9_improve_7 : decode cX9_improve 7 = .ok (.getfield 35, 3) := by decide +kernel
theorem dX11_seek_0 : decode cX11_seek 0 = .ok (.aload_n 0, 1) := by decide +kernel
theorem dX11_seek_1 : decode cX11_seek 1 = .ok (.getfield 52, 3) := by decide +kernel
theorem dX11_seek_11 : decode cX11_seek 11 = .ok (.getfield 129, 3) := by decide +kernel
theorem dX11_seek_14 : decode cX11_seek 14 = .ok (.getfield 149, 3) := by decide +kernel
theorem dX11_seek_17 : decode cX11_seek 17 = .ok (.aload_n 0, 1) := by decide +kernel
theorem dX11_seek_18 : decode cX11_seek 18 = .ok (.getfield 43, 3) := by decide +kernel
theorem dX11_seek_21 : decode cX11_seek 21 = .ok (.getfield 121, 3) := by decide +kernel
theorem dX11_seek_24 : decode cX11_seek 24 = .ok (.getfield 129, 3) := by decide +kernel
theorem dX11_seek_27 : decode cX11_seek 27 = .ok (.getfield 152, 3) := by decide +kernel
theorem dX11_seek_30 : decode cX11_seek 30 = .ok (.isub, 1) := by decide +kernel
theorem dX11_seek_31 : decode cX11_seek 31 = .ok (.invokevirtual 260, 3) := by decide +kernel
theorem dX11_seek_34 : decode cX11_seek 34 = .ok (.istore_n 1, 1) := by decide +kernel
theorem dX11_seek_35 : decode cX11_seek 35 = .ok (.iload_n 1, 1) := by decide +kernel
theorem dX11_seek_36 : decode cX11_seek 36 = .ok (.iconst 1, 1) := by decide +kernel
theorem dX11_seek_37 : decode cX11_seek 37 = .ok (.if_icmp .ne 10, 3) := by decide +kernel
theorem dX11_seek_4 : decode cX11_seek 4 = .ok (.aload_n 0, 1) := by decide +kernel
theorem dX11_seek_40 : decode cX11_seek 40 = .ok (.aload_n 0, 1) := by decide +kernel
theorem dX11_seek_41 : decode cX11_seek 41 = .ok (.getfield 52, 3) := by decide +kernel
theorem dX11_seek_44 : decode cX11_seek 44 = .ok (.invokevirtual 263, 3) := by decide +kernel
theorem dX11_seek_47 : decode cX11_seek 47 = .ok (.iload_n 1, 1) := by decide +kernel
theorem dX11_seek_48 : decode cX11_seek 48 = .ok (.ireturn, 1) := by decide +kernel
theorem dX11_seek_5 : decode cX11_seek 5 = .ok (.getfield 43, 3) := by decide +kernel
theorem dX11_seek_8 : decode cX11_seek 8 = .ok (.getfield 121, 3) := by decide +kernel
theorem dX11_fewest_0 : decode cX11_fewest 0 = .ok (.aload_n 0, 1) := by decide +kernel
theorem dX11_fewest_1 : decode cX11_fewest 1 = .ok (.getfield 52, 3) := by decide +kernel
theorem dX11_fewest_4 : decode cX11_fewest 4 = .ok (.invokevirtual 269, 3) := by decide +kernel
theorem dX11_fewest_7 : decode cX11_fewest 7 = .ok (.ireturn, 1) := by decide +kernel
theorem dX11_better_0 : decode cX11_better 0 = .ok (.iload_n 1, 1) := by decide +kernel
theorem dX11_better_1 : decode cX11_better 1 = .ok (.iconst 1, 1) := by decide +kernel
theorem dX11_better_12 : decode cX11_better 12 = .ok (.aload_n 0, 1) := by decide +kernel
theorem dX11_better_13 : decode cX11_better 13 = .ok (.getfield 43, 3) := by decide +kernel
theorem dX11_better_16 : decode cX11_better 16 = .ok (.invokevirtual 272, 3) := by decide +kernel
theorem dX11_better_19 : decode cX11_better 19 = .ok (.ifCond .ne 9, 3) := by decide +kernel
theorem dX11_better_2 : decode cX11_better 2 = .ok (.if_icmp .lt 20, 3) := by decide +kernel
theorem dX11_better_22 : decode cX11_better 22 = .ok (.aload_n 0, 1) := by decide +kernel
theorem dX11_better_23 : decode cX11_better 23 = .ok (.iconst 3, 1) := by decide +kernel
theorem dX11_better_24 : decode cX11_better 24 = .ok (.invokevirtual 89, 3) := by decide +kernel
theorem dX11_better_27 : decode cX11_better 27 = .ok (.ireturn, 1) := by decide +kernel
theorem dX11_better_28 : decode cX11_better 28 = .ok (.aload_n 0, 1) := by decide +kernel
theorem dX11_better_29 : decode cX11_better 29 = .ok (.getfield 52, 3) := by decide +kernel
theorem dX11_better_32 : decode cX11_better 32 = .ok (.iload_n 1, 1) := by decide +kernel
theorem dX11_better_33 : decode cX11_better 33 = .ok (.invokevirtual 275, 3) := by decide +kernel
theorem dX11_better_36 : decode cX11_better 36 = .ok (.ireturn, 1) := by decide +kernel
theorem dX11_better_5 : decode cX11_better 5 = .ok (.iload_n 1, 1) := by decide +kernel
theorem dX11_better_6 : decode cX11_better 6 = .ok (.sipush 2000, 3) := by decide +kernel
theorem dX11_better_9 : decode cX11_better 9 = .ok (.if_icmp .gt 13, 3) := by decide +kernel
theorem dX4_roundsTillRest_0 : decode cX4_roundsTillRest 0 = .ok (.iconst 1, 1) := by decide +kernel
theorem dX4_roundsTillRest_1 : decode cX4_roundsTillRest 1 = .ok (.istore_n 2, 1) := by decide +kernel
theorem dX4_roundsTillRest_11 : decode cX4_roundsTillRest 11 = .ok (.ifCond .ne 5, 3) := by decide +kernel
theorem dX4_roundsTillRest_14 : decode cX4_roundsTillRest 14 = .ok (.iload_n 2, 1) := by decide +kernel
theorem dX4_roundsTillRest_15 : decode cX4_roundsTillRest 15 = .ok (.ireturn, 1) := by decide +kernel
theorem dX4_roundsTillRest_2 : decode cX4_roundsTillRest 2 = .ok (.iload_n 2, 1) := by decide +kernel
theorem dX4_roundsTillRest_3 : decode cX4_roundsTillRest 3 = .ok (.iload_n 1, 1) := by decide +kernel
theorem dX4_roundsTillRest_4 : decode cX4_roundsTillRest 4 = .ok (.if_icmp .gt 18, 3) := by decide +kernel
theorem dX4_roundsTillRest_7 : decode cX4_roundsTillRest 7 = .ok (.aload_n 0, 1) := by decide +kernel
theorem dX4_roundsTillRest_8 : decode cX4_roundsTillRest 8 = .ok (.invokevirtual 172, 3) := by decide +kernel
theorem dX11_free_0 : decode cX11_free 0 = .ok (.iload_n 1, 1) := by decide +kernel
theorem dX11_free_1 : decode cX11_free 1 = .ok (.iconst 1, 1) := by decide +kernel
theorem dX11_free_11 : decode cX11_free 11 = .ok (.aload_n 0, 1) := by decide +kernel
theorem dX11_free_12 : decode cX11_free 12 = .ok (.iconst 3, 1) := by decide +kernel
theorem dX11_free_13 : decode cX11_free 13 = .ok (.invokevirtual 89, 3) := by decide +kernel
theorem dX11_free_16 : decode cX11_free 16 = .ok (.ireturn, 1) := by decide +kernel
theorem dX11_free_17 : decode cX11_free 17 = .ok (.aload_n 0, 1) := by decide +kernel
theorem dX11_free_18 : decode cX11_free 18 = .ok (.getfield 43, 3) := by decide +kernel
theorem dX11_free_2 : decode cX11_free 2 = .ok (.if_icmp .lt 9, 3) := by decide +kernel
theorem dX11_free_21 : decode cX11_free 21 = .ok (.iload_n 1, 1) := by decide +kernel
theorem dX11_free_22 : decode cX11_free 22 = .ok (.invokevirtual 347, 3) := by decide +kernel
theorem dX11_free_25 : decode cX11_free 25 = .ok (.ireturn, 1) := by decide +kernel
theorem dX11_free_5 : decode cX11_free 5 = .ok (.iload_n 1, 1) := by decide +kernel
theorem dX11_free_6 : decode cX11_free 6 = .ok (.bipush 60, 2) := by decide +kernel
theorem dX11_free_8 : decode cX11_free 8 = .ok (.if_icmp .le 9, 3) := by decide +kernel
theorem dX11_checkByte_0 : decode cX11_checkByte 0 = .ok (.bipush 31, 2) := by decide +kernel
theorem dX11_checkByte_10 : decode cX11_checkByte 10 = .ok (.iload_n 3, 1) := by decide +kernel
theorem dX11_checkByte_11 : decode cX11_checkByte 11 = .ok (.aload_n 0, 1) := by decide +kernel
theorem dX11_checkByte_12 : decode cX11_checkByte 12 = .ok (.arraylength, 1) := by decide +kernel
theorem dX11_checkByte_13 : decode cX11_checkByte 13 = .ok (.if_icmp .ge 21, 3) := by decide +kernel
theorem dX11_checkByte_16 : decode cX11_checkByte 16 = .ok (.iconst 5, 1) := by decide +kernel
theorem dX11_checkByte_17 : decode cX11_checkByte 17 = .ok (.iload_n 2, 1) := by decide +kernel
theorem dX11_checkByte_18 : decode cX11_checkByte 18 = .ok (.imul, 1) := by decide +kernel
theorem dX11_checkByte_19 : decode cX11_checkByte 19 = .ok (.aload_n 0, 1) := by decide +kernel
theorem dX11_checkByte_2 : decode cX11_checkByte 2 = .ok (.istore_n 2, 1) := by decide +kernel
theorem dX11_checkByte_20 : decode cX11_checkByte 20 = .ok (.iload_n 3, 1) := by decide +kernel
theorem dX11_checkByte_21 : decode cX11_checkByte 21 = .ok (.iaload, 1) := by decide +kernel
theorem dX11_checkByte_22 : decode cX11_checkByte 22 = .ok (.iadd, 1) := by decide +kernel
theorem dX11_checkByte_23 : decode cX11_checkByte 23 = .ok (.sipush 227, 3) := by decide +kernel
theorem dX11_checkByte_26 : decode cX11_checkByte 26 = .ok (.irem, 1) := by decide +kernel
theorem dX11_checkByte_27 : decode cX11_checkByte 27 = .ok (.istore_n 2, 1) := by decide +kernel
theorem dX11_checkByte_28 : decode cX11_checkByte 28 = .ok (.iinc 3 1, 3) := by decide +kernel
theorem dX11_checkByte_3 : decode cX11_checkByte 3 = .ok (.iconst 0, 1) := by decide +kernel
theorem dX11_checkByte_31 : decode cX11_checkByte 31 = .ok (.goto (-26), 3) := by decide +kernel
theorem dX11_checkByte_34 : decode cX11_checkByte 34 = .ok (.iload_n 2, 1) := by decide +kernel
theorem dX11_checkByte_35 : decode cX11_checkByte 35 = .ok (.ireturn, 1) := by decide +kernel
theorem dX11_checkByte_4 : decode cX11_checkByte 4 = .ok (.istore_n 3, 1) := by decide +kernel
theorem dX11_checkByte_5 : decode cX11_checkByte 5 = .ok (.iload_n 3, 1) := by decide +kernel
theorem dX11_checkByte_6 : decode cX11_checkByte 6 = .ok (.iload_n 1, 1) := by decide +kernel
theorem dX11_checkByte_7 : decode cX11_checkByte 7 = .ok (.if_icmp .ge 27, 3) := by decide +kernel
theorem dX11_image_0 : decode cX11_image 0 = .ok (.aload_n 0, 1) := by decide +kernel
theorem dX11_image_1 : decode cX11_image 1 = .ok (.getfield 43, 3) := by decide +kernel
theorem dX11_image_10 : decode cX11_image 10 = .ok (.getfield 143, 3) := by decide +kernel
theorem dX11_image_13 : decode cX11_image 13 = .ok (.istore_n 1, 1) := by decide +kernel
theorem dX11_image_14 : decode cX11_image 14 = .ok (.aload_n 0, 1) := by decide +kernel
theorem dX11_image_15 : decode cX11_image 15 = .ok (.getfield 80, 3) := by decide +kernel
theorem dX11_image_18 : decode cX11_image 18 = .ok (.iconst 0, 1) := by decide +kernel
theorem dX11_image_19 : decode cX11_image 19 = .ok (.iload_n 1, 1) := by decide +kernel
theorem dX11_image_20 : decode cX11_image 20 = .ok (.iastore, 1) := by decide +kernel
theorem dX11_image_21 : decode cX11_image 21 = .ok (.iconst 0, 1) := by decide +kernel
theorem dX11_image_22 : decode cX11_image 22 = .ok (.istore_n 2, 1) := by decide +kernel
theorem dX11_image_23 : decode cX11_image 23 = .ok (.iload_n 2, 1) := by decide +kernel
theorem dX11_image_24 : decode cX11_image 24 = .ok (.iload_n 1, 1) := by decide +kernel
theorem dX11_image_25 : decode cX11_image 25 = .ok (.if_icmp .ge 26, 3) := by decide +kernel
theorem dX11_image_4 : decode cX11_image 4 = .ok (.getfield 121, 3) := by decide +kernel
theorem dX11_image_51 : decode cX11_image 51 = .ok (.aload_n 0, 1) := by decide +kernel
theorem dX11_image_52 : decode cX11_image 52 = .ok (.getfield 80, 3) := by decide +kernel
theorem dX11_image_55 : decode cX11_image 55 = .ok (.iload_n 1, 1) := by decide +kernel
theorem dX11_image_56 : decode cX11_image 56 = .ok (.iconst 1, 1) := by decide +kernel
theorem dX11_image_57 : decode cX11_image 57 = .ok (.iadd, 1) := by decide +kernel
theorem dX11_image_58 : decode cX11_image 58 = .ok (.aload_n 0, 1) := by decide +kernel
theorem dX11_image_59 : decode cX11_image 59 = .ok (.getfield 80, 3) := by decide +kernel
theorem dX11_image_62 : decode cX11_image 62 = .ok (.iload_n 1, 1) := by decide +kernel
theorem dX11_image_63 : decode cX11_image 63 = .ok (.iconst 1, 1) := by decide +kernel
theorem dX11_image_64 : decode cX11_image 64 = .ok (.iadd, 1) := by decide +kernel
theorem dX11_image_65 : decode cX11_image 65 = .ok (.invokestatic 373, 3) := by decide +kernel
theorem dX11_image_68 : decode cX11_image 68 = .ok (.iastore, 1) := by decide +kernel
theorem dX11_image_69 : decode cX11_image 69 = .ok (.aload_n 0, 1) := by decide +kernel
theorem dX11_image_7 : decode cX11_image 7 = .ok (.getfield 139, 3) := by decide +kernel
theorem dX11_image_70 : decode cX11_image 70 = .ok (.iload_n 1, 1) := by decide +kernel
theorem dX11_image_71 : decode cX11_image 71 = .ok (.iconst 2, 1) := by decide +kernel
theorem dX11_image_72 : decode cX11_image 72 = .ok (.iadd, 1) := by decide +kernel
theorem dX11_image_73 : decode cX11_image 73 = .ok (.putfield 83, 3) := by decide +kernel
theorem dX11_image_76 : decode cX11_image 76 = .ok (.aload_n 0, 1) := by decide +kernel
theorem dX11_image_77 : decode cX11_image 77 = .ok (.getfield 83, 3) := by decide +kernel
theorem dX11_image_80 : decode cX11_image 80 = .ok (.ireturn, 1) := by decide +kernel
theorem dX11_isImage_0 : decode cX11_isImage 0 = .ok (.aload_n 0, 1) := by decide +kernel
theorem dX11_isImage_1 : decode cX11_isImage 1 = .ok (.getfield 43, 3) := by decide +kernel
theorem dX11_isImage_10 : decode cX11_isImage 10 = .ok (.getfield 143, 3) := by decide +kernel
theorem dX11_isImage_13 : decode cX11_isImage 13 = .ok (.istore_n 1, 1) := by decide +kernel
theorem dX11_isImage_14 : decode cX11_isImage 14 = .ok (.aload_n 0, 1) := by decide +kernel
theorem dX11_isImage_15 : decode cX11_isImage 15 = .ok (.getfield 13, 3) := by decide +kernel
theorem dX11_isImage_18 : decode cX11_isImage 18 = .ok (.iload_n 1, 1) := by decide +kernel
theorem dX11_isImage_19 : decode cX11_isImage 19 = .ok (.iconst 2, 1) := by decide +kernel
theorem dX11_isImage_20 : decode cX11_isImage 20 = .ok (.iadd, 1) := by decide +kernel
theorem dX11_isImage_21 : decode cX11_isImage 21 = .ok (.if_icmp .ne 21, 3) := by decide +kernel
theorem dX11_isImage_4 : decode cX11_isImage 4 = .ok (.getfield 121, 3) := by decide +kernel
theorem dX11_isImage_42 : decode cX11_isImage 42 = .ok (.iconst 0, 1) := by decide +kernel
theorem dX11_isImage_43 : decode cX11_isImage 43 = .ok (.ireturn, 1) := by decide +kernel
theorem dX11_isImage_7 : decode cX11_isImage 7 = .ok (.getfield 139, 3) := by decide +kernel
theorem dX11_on_0 : decode cX11_on 0 = .ok (.aload_n 0, 1) := by decide +kernel
theorem dX11_on_1 : decode cX11_on 1 = .ok (.invokevirtual 377, 3) := by decide +kernel
theorem dX11_on_17 : decode cX11_on 17 = .ok (.aload_n 0, 1) := by decide +kernel
theorem dX11_on_18 : decode cX11_on 18 = .ok (.iconst 5, 1) := by decide +kernel
theorem dX11_on_19 : decode cX11_on 19 = .ok (.invokevirtual 89, 3) := by decide +kernel
theorem dX11_on_22 : decode cX11_on 22 = .ok (.pop, 1) := by decide +kernel
theorem dX11_on_23 : decode cX11_on 23 = .ok (.aload_n 0, 1) := by decide +kernel
theorem dX11_on_24 : decode cX11_on 24 = .ok (.iconst 0, 1) := by decide +kernel
theorem dX11_on_25 : decode cX11_on 25 = .ok (.putfield 13, 3) := by decide +kernel
theorem dX11_on_28 : decode cX11_on 28 = .ok (.iload_n 1, 1) := by decide +kernel
theorem dX11_on_29 : decode cX11_on 29 = .ok (.ireturn, 1) := by decide +kernel
theorem dX11_on_4 : decode cX11_on 4 = .ok (.istore_n 1, 1) := by decide +kernel
theorem dX11_on_5 : decode cX11_on 5 = .ok (.iload_n 1, 1) := by decide +kernel
theorem dX11_on_6 : decode cX11_on 6 = .ok (.ifCond .eq 11, 3) := by decide +kernel
theorem dX1_clear_0 : decode cX1_clear 0 = .ok (.aload_n 0, 1) := by decide +kernel
theorem dX1_clear_1 : decode cX1_clear 1 = .ok (.iconst 0, 1) := by decide +kernel
theorem dX1_clear_10 : decode cX1_clear 10 = .ok (.aload_n 0, 1) := by decide +kernel
theorem dX1_clear_11 : decode cX1_clear 11 = .ok (.iconst 0, 1) := by decide +kernel
theorem dX1_clear_12 : decode cX1_clear 12 = .ok (.putfield 18, 3) := by decide +kernel
theorem dX1_clear_15 : decode cX1_clear 15 = .ok (.return_, 1) := by decide +kernel
theorem dX1_clear_2 : decode cX1_clear 2 = .ok (.putfield 9, 3) := by decide +kernel
theorem dX1_clear_5 : decode cX1_clear 5 = .ok (.aload_n 0, 1) := by decide +kernel
theorem dX1_clear_6 : decode cX1_clear 6 = .ok (.iconst 0, 1) := by decide +kernel
theorem dX1_clear_7 : decode cX1_clear 7 = .ok (.putfield 15, 3) := by decide +kernel
theorem dX7_clear_0 : decode cX7_clear 0 = .ok (.aload_n 0, 1) := by decide +kernel
theorem dX7_clear_1 : decode cX7_clear 1 = .ok (.iconst 0, 1) := by decide +kernel
theorem dX7_clear_10 : decode cX7_clear 10 = .ok (.return_, 1) := by decide +kernel
theorem dX7_clear_2 : decode cX7_clear 2 = .ok (.putfield 9, 3) := by decide +kernel
theorem dX7_clear_5 : decode cX7_clear 5 = .ok (.aload_n 0, 1) := by decide +kernel
theorem dX7_clear_6 : decode cX7_clear 6 = .ok (.iconst 0, 1) := by decide +kernel
theorem dX7_clear_7 : decode cX7_clear 7 = .ok (.putfield 15, 3) := by decide +kernel
theorem dX2_clear_0 : decode cX2_clear 0 = .ok (.aload_n 0, 1) := by decide +kernel
theorem dX2_clear_1 : decode cX2_clear 1 = .ok (.getfield 12, 3) := by decide +kernel
theorem dX2_clear_11 : decode cX2_clear 11 = .ok (.iconst 0, 1) := by decide +kernel
theorem dX2_clear_12 : decode cX2_clear 12 = .ok (.putfield 71, 3) := by decide +kernel
theorem dX2_clear_15 : decode cX2_clear 15 = .ok (.aload_n 0, 1) := by decide +kernel
theorem dX2_clear_16 : decode cX2_clear 16 = .ok (.getfield 28, 3) := by decide +kernel
theorem dX2_clear_19 : decode cX2_clear 19 = .ok (.invokevirtual 74, 3) := by decide +kernel
theorem dX2_clear_22 : decode cX2_clear 22 = .ok (.aload_n 0, 1) := by decide +kernel
theorem dX2_clear_23 : decode cX2_clear 23 = .ok (.iconst 0, 1) := by decide +kernel
theorem dX2_clear_24 : decode cX2_clear 24 = .ok (.putfield 32, 3) := by decide +kernel
theorem dX2_clear_27 : decode cX2_clear 27 = .ok (.aload_n 0, 1) := by decide +kernel
theorem dX2_clear_28 : decode cX2_clear 28 = .ok (.iconst 0, 1) := by decide +kernel
theorem dX2_clear_29 : decode cX2_clear 29 = .ok (.putfield 47, 3) := by decide +kernel
theorem dX2_clear_32 : decode cX2_clear 32 = .ok (.aload_n 0, 1) := by decide +kernel
theorem dX2_clear_33 : decode cX2_clear 33 = .ok (.bipush 50, 2) := by decide +kernel
theorem dX2_clear_35 : decode cX2_clear 35 = .ok (.putfield 65, 3) := by decide +kernel
theorem dX2_clear_38 : decode cX2_clear 38 = .ok (.iconst 0, 1) := by decide +kernel
theorem dX2_clear_39 : decode cX2_clear 39 = .ok (.istore_n 1, 1) := by decide +kernel
theorem dX2_clear_4 : decode cX2_clear 4 = .ok (.invokevirtual 68, 3) := by decide +kernel
theorem dX2_clear_40 : decode cX2_clear 40 = .ok (.iload_n 1, 1) := by decide +kernel
theorem dX2_clear_41 : decode cX2_clear 41 = .ok (.iconst 5, 1) := by decide +kernel
theorem dX2_clear_42 : decode cX2_clear 42 = .ok (.if_icmp .ge 23, 3) := by decide +kernel
theorem dX2_clear_45 : decode cX2_clear 45 = .ok (.aload_n 0, 1) := by decide +kernel
theorem dX2_clear_46 : decode cX2_clear 46 = .ok (.getfield 59, 3) := by decide +kernel
theorem dX2_clear_49 : decode cX2_clear 49 = .ok (.iload_n 1, 1) := by decide +kernel
theorem dX2_clear_50 : decode cX2_clear 50 = .ok (.iconst 0, 1) := by decide +kernel
theorem dX2_clear_51 : decode cX2_clear 51 = .ok (.iastore, 1) := by decide +kernel
theorem dX2_clear_52 : decode cX2_clear 52 = .ok (.aload_n 0, 1) := by decide +kernel
theorem dX2_clear_53 : decode cX2_clear 53 = .ok (.getfield 62, 3) := by decide +kernel
theorem dX2_clear_56 : decode cX2_clear 56 = .ok (.iload_n 1, 1) := by decide +kernel
theorem dX2_clear_57 : decode cX2_clear 57 = .ok (.iconst 0, 1) := by decide +kernel
theorem dX2_clear_58 : decode cX2_clear 58 = .ok (.iastore, 1) := by decide +kernel
theorem dX2_clear_59 : decode cX2_clear 59 = .ok (.iinc 1 1, 3) := by decide +kernel
theorem dX2_clear_62 : decode cX2_clear 62 = .ok (.goto (-22), 3) := by decide +kernel
theorem dX2_clear_65 : decode cX2_clear 65 = .ok (.return_, 1) := by decide +kernel
theorem dX2_clear_7 : decode cX2_clear 7 = .ok (.aload_n 0, 1) := by decide +kernel
theorem dX2_clear_8 : decode cX2_clear 8 = .ok (.getfield 21, 3) := by decide +kernel
theorem dX3_listSuiting_0 : decode cX3_listSuiting 0 = .ok (.iconst 0, 1) := by decide +kernel
theorem dX3_listSuiting_1 : decode cX3_listSuiting 1 = .ok (.istore_n 1, 1) := by decide +kernel
theorem dX3_listSuiting_2 : decode cX3_listSuiting 2 = .ok (.iload_n 1, 1) := by decide +kernel
theorem dX3_listSuiting_3 : decode cX3_listSuiting 3 = .ok (.aload_n 0, 1) := by decide +kernel
theorem dX3_listSuiting_4 : decode cX3_listSuiting 4 = .ok (.getfield 9, 3) := by decide +kernel
theorem dX3_listSuiting_69 : decode cX3_listSuiting 69 = .ok (.return_, 1) := by decide +kernel
theorem dX3_listSuiting_7 : decode cX3_listSuiting 7 = .ok (.if_icmp .ge 62, 3) := by decide +kernel
theorem dX2_finish_0 : decode cX2_finish 0 = .ok (.aload_n 0, 1) := by decide +kernel
theorem dX2_finish_1 : decode cX2_finish 1 = .ok (.getfield 21, 3) := by decide +kernel
theorem dX2_finish_10 : decode cX2_finish 10 = .ok (.bipush 6, 2) := by decide +kernel
theorem dX2_finish_12 : decode cX2_finish 12 = .ok (.if_icmp .ge 16, 3) := by decide +kernel
theorem dX2_finish_15 : decode cX2_finish 15 = .ok (.aload_n 0, 1) := by decide +kernel
theorem dX2_finish_16 : decode cX2_finish 16 = .ok (.getfield 44, 3) := by decide +kernel
theorem dX2_finish_19 : decode cX2_finish 19 = .ok (.iload_n 1, 1) := by decide +kernel
theorem dX2_finish_20 : decode cX2_finish 20 = .ok (.iconst (-1), 1) := by decide +kernel
theorem dX2_finish_21 : decode cX2_finish 21 = .ok (.iastore, 1) := by decide +kernel
theorem dX2_finish_22 : decode cX2_finish 22 = .ok (.iinc 1 1, 3) := by decide +kernel
theorem dX2_finish_25 : decode cX2_finish 25 = .ok (.goto (-16), 3) := by decide +kernel
theorem dX2_finish_28 : decode cX2_finish 28 = .ok (.iconst 0, 1) := by decide +kernel
theorem dX2_finish_29 : decode cX2_finish 29 = .ok (.istore_n 1, 1) := by decide +kernel
theorem dX2_finish_30 : decode cX2_finish 30 = .ok (.iload_n 1, 1) := by decide +kernel
theorem dX2_finish_31 : decode cX2_finish 31 = .ok (.aload_n 0, 1) := by decide +kernel
theorem dX2_finish_32 : decode cX2_finish 32 = .ok (.getfield 21, 3) := by decide +kernel
theorem dX2_finish_35 : decode cX2_finish 35 = .ok (.getfield 71, 3) := by decide +kernel
theorem dX2_finish_38 : decode cX2_finish 38 = .ok (.if_icmp .ge 24, 3) := by decide +kernel
theorem dX2_finish_4 : decode cX2_finish 4 = .ok (.invokevirtual 75, 3) := by decide +kernel
theorem dX2_finish_62 : decode cX2_finish 62 = .ok (.return_, 1) := by decide +kernel
theorem dX2_finish_7 : decode cX2_finish 7 = .ok (.iconst 0, 1) := by decide +kernel
theorem dX2_finish_8 : decode cX2_finish 8 = .ok (.istore_n 1, 1) := by decide +kernel
theorem dX2_finish_9 : decode cX2_finish 9 = .ok (.iload_n 1, 1) := by decide +kernel
theorem dX4_begin_0 : decode cX4_begin 0 = .ok (.aload_n 0, 1) := by decide +kernel
theorem dX4_begin_1 : decode cX4_begin 1 = .ok (.aload_n 1, 1) := by decide +kernel
theorem dX4_begin_10 : decode cX4_begin 10 = .ok (.invokestatic 33, 3) := by decide +kernel
theorem dX4_begin_13 : decode cX4_begin 13 = .ok (.aload_n 0, 1) := by decide +kernel
theorem dX4_begin_14 : decode cX4_begin 14 = .ok (.getfield 25, 3) := by decide +kernel
theorem dX4_begin_17 : decode cX4_begin 17 = .ok (.ldc 32, 2) := by decide +kernel
theorem dX4_begin_19 : decode cX4_begin 19 = .ok (.invokestatic 33, 3) := by decide +kernel
theorem dX4_begin_2 : decode cX4_begin 2 = .ok (.putfield 28, 3) := by decide +kernel
theorem dX4_begin_22 : decode cX4_begin 22 = .ok (.return_, 1) := by decide +kernel
theorem dX4_begin_5 : decode cX4_begin 5 = .ok (.aload_n 0, 1) := by decide +kernel
theorem dX4_begin_6 : decode cX4_begin 6 = .ok (.getfield 9, 3) := by decide +kernel
theorem dX4_begin_9 : decode cX4_begin 9 = .ok (.iconst 0, 1) := by decide +kernel
theorem dX5_isFailed_0 : decode cX5_isFailed 0 = .ok (.aload_n 0, 1) := by decide +kernel
theorem dX5_isFailed_1 : decode cX5_isFailed 1 = .ok (.getfield 30, 3) := by decide +kernel
theorem dX5_isFailed_11 : decode cX5_isFailed 11 = .ok (.iconst 0, 1) := by decide +kernel
theorem dX5_isFailed_12 : decode cX5_isFailed 12 = .ok (.ireturn, 1) := by decide +kernel
theorem dX5_isFailed_4 : decode cX5_isFailed 4 = .ok (.ifCond .eq 7, 3) := by decide +kernel
theorem dX5_isOver_0 : decode cX5_isOver 0 = .ok (.aload_n 0, 1) := by decide +kernel
theorem dX5_isOver_1 : decode cX5_isOver 1 = .ok (.getfield 21, 3) := by decide +kernel
theorem dX5_isOver_12 : decode cX5_isOver 12 = .ok (.ireturn, 1) := by decide +kernel
theorem dX5_isOver_4 : decode cX5_isOver 4 = .ok (.ifCond .ne 7, 3) := by decide +kernel
theorem dX5_isOver_7 : decode cX5_isOver 7 = .ok (.iconst 1, 1) := by decide +kernel
theorem dX5_isOver_8 : decode cX5_isOver 8 = .ok (.goto 4, 3) := by decide +kernel
theorem dX5_take_0 : decode cX5_take 0 = .ok (.aload_n 0, 1) := by decide +kernel
theorem dX5_take_1 : decode cX5_take 1 = .ok (.invokevirtual 85, 3) := by decide +kernel
theorem dX5_take_100 : decode cX5_take 100 = .ok (.if_icmp .lt 4, 3) := by decide +kernel
theorem dX5_take_103 : decode cX5_take 103 = .ok (.return_, 1) := by decide +kernel
theorem dX5_take_12 : decode cX5_take 12 = .ok (.iconst 1, 1) := by decide +kernel
theorem dX5_take_13 : decode cX5_take 13 = .ok (.if_icmp .eq 11, 3) := by decide +kernel
theorem dX5_take_16 : decode cX5_take 16 = .ok (.aload_n 0, 1) := by decide +kernel
theorem dX5_take_17 : decode cX5_take 17 = .ok (.getfield 21, 3) := by decide +kernel
theorem dX5_take_20 : decode cX5_take 20 = .ok (.iconst 2, 1) := by decide +kernel
theorem dX5_take_21 : decode cX5_take 21 = .ok (.if_icmp .ne 7, 3) := by decide +kernel
theorem dX5_take_28 : decode cX5_take 28 = .ok (.iconst 0, 1) := by decide +kernel
theorem dX5_take_29 : decode cX5_take 29 = .ok (.istore_n 1, 1) := by decide +kernel
theorem dX5_take_30 : decode cX5_take 30 = .ok (.aload_n 0, 1) := by decide +kernel
theorem dX5_take_31 : decode cX5_take 31 = .ok (.getfield 15, 3) := by decide +kernel
theorem dX5_take_34 : decode cX5_take 34 = .ok (.istore_n 2, 1) := by decide +kernel
theorem dX5_take_35 : decode cX5_take 35 = .ok (.aload_n 0, 1) := by decide +kernel
theorem dX5_take_36 : decode cX5_take 36 = .ok (.getfield 15, 3) := by decide +kernel
theorem dX5_take_39 : decode cX5_take 39 = .ok (.aload_n 0, 1) := by decide +kernel
theorem dX5_take_4 : decode cX5_take 4 = .ok (.ifCond .eq 4, 3) := by decide +kernel
theorem dX5_take_40 : decode cX5_take 40 = .ok (.getfield 9, 3) := by decide +kernel
theorem dX5_take_43 : decode cX5_take 43 = .ok (.if_icmp .ge 31, 3) := by decide +kernel
theorem dX5_take_74 : decode cX5_take 74 = .ok (.aload_n 0, 1) := by decide +kernel
theorem dX5_take_75 : decode cX5_take 75 = .ok (.aload_n 0, 1) := by decide +kernel
theorem dX5_take_76 : decode cX5_take 76 = .ok (.getfield 15, 3) := by decide +kernel
theorem dX5_take_79 : decode cX5_take 79 = .ok (.putfield 18, 3) := by decide +kernel
theorem dX5_take_8 : decode cX5_take 8 = .ok (.aload_n 0, 1) := by decide +kernel
theorem dX5_take_82 : decode cX5_take 82 = .ok (.aload_n 0, 1) := by decide +kernel
theorem dX5_take_83 : decode cX5_take 83 = .ok (.iconst 0, 1) := by decide +kernel
theorem dX5_take_84 : decode cX5_take 84 = .ok (.putfield 21, 3) := by decide +kernel
theorem dX5_take_87 : decode cX5_take 87 = .ok (.aload_n 0, 1) := by decide +kernel
theorem dX5_take_88 : decode cX5_take 88 = .ok (.iconst (-1), 1) := by decide +kernel
theorem dX5_take_89 : decode cX5_take 89 = .ok (.putfield 27, 3) := by decide +kernel
theorem dX5_take_9 : decode cX5_take 9 = .ok (.getfield 21, 3) := by decide +kernel
theorem dX5_take_92 : decode cX5_take 92 = .ok (.aload_n 0, 1) := by decide +kernel
theorem dX5_take_93 : decode cX5_take 93 = .ok (.getfield 15, 3) := by decide +kernel
theorem dX5_take_96 : decode cX5_take 96 = .ok (.aload_n 0, 1) := by decide +kernel
theorem dX5_take_97 : decode cX5_take 97 = .ok (.getfield 9, 3) := by decide +kernel
theorem dX5_begin_0 : decode cX5_begin 0 = .ok (.aload_n 0, 1) := by decide +kernel
theorem dX5_begin_1 : decode cX5_begin 1 = .ok (.iconst 0, 1) := by decide +kernel
theorem dX5_begin_11 : decode cX5_begin 11 = .ok (.invokestatic 67, 3) := by decide +kernel
theorem dX5_begin_14 : decode cX5_begin 14 = .ok (.putfield 9, 3) := by decide +kernel
theorem dX5_begin_17 : decode cX5_begin 17 = .ok (.aload_n 0, 1) := by decide +kernel
theorem dX5_begin_18 : decode cX5_begin 18 = .ok (.iconst 0, 1) := by decide +kernel
theorem dX5_begin_19 : decode cX5_begin 19 = .ok (.putfield 15, 3) := by decide +kernel
theorem dX5_begin_2 : decode cX5_begin 2 = .ok (.iload_n 1, 1) := by decide +kernel
theorem dX5_begin_22 : decode cX5_begin 22 = .ok (.aload_n 0, 1) := by decide +kernel
theorem dX5_begin_23 : decode cX5_begin 23 = .ok (.iconst 0, 1) := by decide +kernel
theorem dX5_begin_24 : decode cX5_begin 24 = .ok (.putfield 21, 3) := by decide +kernel
theorem dX5_begin_27 : decode cX5_begin 27 = .ok (.aload_n 0, 1) := by decide +kernel
theorem dX5_begin_28 : decode cX5_begin 28 = .ok (.iconst 0, 1) := by decide +kernel
theorem dX5_begin_29 : decode cX5_begin 29 = .ok (.putfield 30, 3) := by decide +kernel
theorem dX5_begin_3 : decode cX5_begin 3 = .ok (.aload_n 0, 1) := by decide +kernel
theorem dX5_begin_32 : decode cX5_begin 32 = .ok (.aload_n 0, 1) := by decide +kernel
theorem dX5_begin_33 : decode cX5_begin 33 = .ok (.iconst (-1), 1) := by decide +kernel
theorem dX5_begin_34 : decode cX5_begin 34 = .ok (.putfield 33, 3) := by decide +kernel
theorem dX5_begin_37 : decode cX5_begin 37 = .ok (.aload_n 0, 1) := by decide +kernel
theorem dX5_begin_38 : decode cX5_begin 38 = .ok (.invokevirtual 70, 3) := by decide +kernel
theorem dX5_begin_4 : decode cX5_begin 4 = .ok (.getfield 40, 3) := by decide +kernel
theorem dX5_begin_41 : decode cX5_begin 41 = .ok (.return_, 1) := by decide +kernel
theorem dX5_begin_7 : decode cX5_begin 7 = .ok (.arraylength, 1) := by decide +kernel
theorem dX5_begin_8 : decode cX5_begin 8 = .ok (.invokestatic 62, 3) := by decide +kernel
theorem dX10_begin_0 : decode cX10_begin 0 = .ok (.aload_n 0, 1) := by decide +kernel
theorem dX10_begin_1 : decode cX10_begin 1 = .ok (.aload_n 1, 1) := by decide +kernel
theorem dX10_begin_12 : decode cX10_begin 12 = .ok (.aload_n 0, 1) := by decide +kernel
theorem dX10_begin_13 : decode cX10_begin 13 = .ok (.iconst 0, 1) := by decide +kernel
theorem dX10_begin_14 : decode cX10_begin 14 = .ok (.putfield 9, 3) := by decide +kernel
theorem dX10_begin_17 : decode cX10_begin 17 = .ok (.aload_n 0, 1) := by decide +kernel
theorem dX10_begin_18 : decode cX10_begin 18 = .ok (.getfield 15, 3) := by decide +kernel
theorem dX10_begin_2 : decode cX10_begin 2 = .ok (.putfield 19, 3) := by decide +kernel
theorem dX10_begin_21 : decode cX10_begin 21 = .ok (.iload_n 2, 1) := by decide +kernel
theorem dX10_begin_22 : decode cX10_begin 22 = .ok (.invokevirtual 41, 3) := by decide +kernel
theorem dX10_begin_25 : decode cX10_begin 25 = .ok (.return_, 1) := by decide +kernel
theorem dX10_begin_5 : decode cX10_begin 5 = .ok (.aload_n 0, 1) := by decide +kernel
theorem dX10_begin_6 : decode cX10_begin 6 = .ok (.getfield 19, 3) := by decide +kernel
theorem dX10_begin_9 : decode cX10_begin 9 = .ok (.invokevirtual 38, 3) := by decide +kernel
theorem dX11_house_0 : decode cX11_house 0 = .ok (.aload_n 0, 1) := by decide +kernel
theorem dX11_house_1 : decode cX11_house 1 = .ok (.getfield 34, 3) := by decide +kernel
theorem dX11_house_100 : decode cX11_house 100 = .ok (.invokevirtual 118, 3) := by decide +kernel
theorem dX11_house_103 : decode cX11_house 103 = .ok (.aload_n 0, 1) := by decide +kernel
theorem dX11_house_104 : decode cX11_house 104 = .ok (.getfield 20, 3) := by decide +kernel
theorem dX11_house_107 : decode cX11_house 107 = .ok (.astore_n 1, 1) := by decide +kernel
theorem dX11_house_108 : decode cX11_house 108 = .ok (.aload_n 0, 1) := by decide +kernel
theorem dX11_house_109 : decode cX11_house 109 = .ok (.aload_n 0, 1) := by decide +kernel
theorem dX11_house_110 : decode cX11_house 110 = .ok (.getfield 43, 3) := by decide +kernel
theorem dX11_house_113 : decode cX11_house 113 = .ok (.getfield 121, 3) := by decide +kernel
theorem dX11_house_116 : decode cX11_house 116 = .ok (.putfield 20, 3) := by decide +kernel
theorem dX11_house_119 : decode cX11_house 119 = .ok (.aload_n 0, 1) := by decide +kernel
theorem dX11_house_12 : decode cX11_house 12 = .ok (.invokevirtual 97, 3) := by decide +kernel
theorem dX11_house_120 : decode cX11_house 120 = .ok (.getfield 43, 3) := by decide +kernel
theorem dX11_house_123 : decode cX11_house 123 = .ok (.aload_n 1, 1) := by decide +kernel
theorem dX11_house_124 : decode cX11_house 124 = .ok (.invokevirtual 124, 3) := by decide +kernel
theorem dX11_house_127 : decode cX11_house 127 = .ok (.aload_n 0, 1) := by decide +kernel
theorem dX11_house_128 : decode cX11_house 128 = .ok (.getfield 34, 3) := by decide +kernel
theorem dX11_house_131 : decode cX11_house 131 = .ok (.getfield 126, 3) := by decide +kernel
theorem dX11_house_134 : decode cX11_house 134 = .ok (.ireturn, 1) := by decide +kernel
theorem dX11_house_15 : decode cX11_house 15 = .ok (.aload_n 0, 1) := by decide +kernel
theorem dX11_house_16 : decode cX11_house 16 = .ok (.iconst 0, 1) := by decide +kernel
theorem dX11_house_17 : decode cX11_house 17 = .ok (.putfield 13, 3) := by decide +kernel
theorem dX11_house_20 : decode cX11_house 20 = .ok (.iconst 0, 1) := by decide +kernel
theorem dX11_house_21 : decode cX11_house 21 = .ok (.istore_n 1, 1) := by decide +kernel
theorem dX11_house_22 : decode cX11_house 22 = .ok (.iload_n 1, 1) := by decide +kernel
theorem dX11_house_23 : decode cX11_house 23 = .ok (.sipush 1800, 3) := by decide +kernel
theorem dX11_house_26 : decode cX11_house 26 = .ok (.if_icmp .ge 29, 3) := by decide +kernel
theorem dX11_house_29 : decode cX11_house 29 = .ok (.aload_n 0, 1) := by decide +kernel
theorem dX11_house_30 : decode cX11_house 30 = .ok (.getfield 34, 3) := by decide +kernel
theorem dX11_house_33 : decode cX11_house 33 = .ok (.getfield 101, 3) := by decide +kernel
theorem dX11_house_36 : decode cX11_house 36 = .ok (.invokevirtual 105, 3) := by decide +kernel
theorem dX11_house_39 : decode cX11_house 39 = .ok (.ifCond .ne 16, 3) := by decide +kernel
theorem dX11_house_4 : decode cX11_house 4 = .ok (.aload_n 0, 1) := by decide +kernel
theorem dX11_house_5 : decode cX11_house 5 = .ok (.getfield 20, 3) := by decide +kernel
theorem dX11_house_55 : decode cX11_house 55 = .ok (.aload_n 0, 1) := by decide +kernel
theorem dX11_house_56 : decode cX11_house 56 = .ok (.aload_n 0, 1) := by decide +kernel
theorem dX11_house_57 : decode cX11_house 57 = .ok (.getfield 34, 3) := by decide +kernel
theorem dX11_house_60 : decode cX11_house 60 = .ok (.getfield 101, 3) := by decide +kernel
theorem dX11_house_63 : decode cX11_house 63 = .ok (.getfield 112, 3) := by decide +kernel
theorem dX11_house_66 : decode cX11_house 66 = .ok (.putfield 70, 3) := by decide +kernel
theorem dX11_house_69 : decode cX11_house 69 = .ok (.aload_n 0, 1) := by decide +kernel
theorem dX11_house_70 : decode cX11_house 70 = .ok (.aload_n 0, 1) := by decide +kernel
theorem dX11_house_71 : decode cX11_house 71 = .ok (.getfield 34, 3) := by decide +kernel
theorem dX11_house_74 : decode cX11_house 74 = .ok (.getfield 101, 3) := by decide +kernel
theorem dX11_house_77 : decode cX11_house 77 = .ok (.getfield 115, 3) := by decide +kernel
theorem dX11_house_8 : decode cX11_house 8 = .ok (.aload_n 0, 1) := by decide +kernel
theorem dX11_house_80 : decode cX11_house 80 = .ok (.putfield 73, 3) := by decide +kernel
theorem dX11_house_83 : decode cX11_house 83 = .ok (.aload_n 0, 1) := by decide +kernel
theorem dX11_house_84 : decode cX11_house 84 = .ok (.getfield 70, 3) := by decide +kernel
theorem dX11_house_87 : decode cX11_house 87 = .ok (.ifCond .eq 9, 3) := by decide +kernel
theorem dX11_house_9 : decode cX11_house 9 = .ok (.getfield 13, 3) := by decide +kernel
theorem dX11_house_96 : decode cX11_house 96 = .ok (.aload_n 0, 1) := by decide +kernel
theorem dX11_house_97 : decode cX11_house 97 = .ok (.getfield 20, 3) := by decide +kernel
