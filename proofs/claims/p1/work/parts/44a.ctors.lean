set_option maxRecDepth 100000 in
theorem fs_X1 : ∀ j, j < 8 → defaultValue (tyX1 j) = vp_V [.int 0, .int 0, .int 0, .null, .null, .null, .null, .null] j := by decide +kernel
set_option maxRecDepth 100000 in
theorem fs_X3 : ∀ j, j < 11 → defaultValue (tyX3 j) = vp_V [.int 0, .null, .null, .null, .null, .null, .null, .null, .null, .null, .null] j := by decide +kernel
set_option maxRecDepth 100000 in
theorem fs_X7 : ∀ j, j < 8 → defaultValue (tyX7 j) = vp_V [.int 0, .int 0, .null, .null, .null, .null, .null, .null] j := by decide +kernel
set_option maxRecDepth 100000 in
theorem inX6 : ∀ w ∈ u_ws RX6 TX6 2, w ∈ tb := fun w h => List.mem_filter.mpr ⟨(by decide +kernel : ∀ w ∈ u_ws RX6 TX6 2, w ∈ lw_tbl) w h, (by decide +kernel : ∀ w ∈ u_ws RX6 TX6 2, goodWord w = true) w h⟩
theorem clX6 : ClF 6 RX6 TX6 2 tyX6 := ⟨rfl, inX6, tyX6_ok, nmX6⟩
set_option maxRecDepth 100000 in
theorem fs_X6 : ∀ j, j < 2 → defaultValue (tyX6 j) = vp_V [.null, .null] j := by decide +kernel
set_option maxRecDepth 100000 in
theorem fs_X2 : ∀ j, j < 14 → defaultValue (tyX2 j) = vp_V [.null, .null, .null, .int 0, .null, .null, .null, .int 0, .null, .null, .null, .null, .null, .int 0] j := by decide +kernel
set_option maxRecDepth 100000 in
theorem fs_X10 : ∀ j, j < 4 → defaultValue (tyX10 j) = vp_V [.null, .null, .null, .int 0] j := by decide +kernel
set_option maxRecDepth 100000 in
theorem fs_X5 : ∀ j, j < 10 → defaultValue (tyX5 j) = vp_V [.null, .int 0, .int 0, .int 0, .int 0, .int 0, .int 0, .int 0, .int 0, .null] j := by decide +kernel
set_option maxRecDepth 100000 in
theorem fs_X4 : ∀ j, j < 6 → defaultValue (tyX4 j) = vp_V [.null, .null, .int 0, .int 0, .int 0, .null] j := by decide +kernel
set_option maxRecDepth 100000 in
theorem fs_X9 : ∀ j, j < 5 → defaultValue (tyX9 j) = vp_V [.null, .int 0, .null, .null, .null] j := by decide +kernel
set_option maxRecDepth 100000 in
theorem fs_X8 : ∀ j, j < 3 → defaultValue (tyX8 j) = vp_V [.null, .null, .null] j := by decide +kernel
set_option maxRecDepth 100000 in
theorem fs_X0 : ∀ j, j < 2 → defaultValue (tyX0 j) = vp_V [.null, .int 0] j := by decide +kernel
theorem mlX1_3 : Cond.methodLink RX1 3 objectInit ∈ tb := tb_at 188 (by decide +kernel)
theorem oi : Cond.instanceMethod objectInit ∈ tb := tb_at 175 (by decide +kernel)
theorem oc : Cond.code objectInit ⟨#[0xb1]⟩ 1 none ∈ tb := tb_at 176 (by decide +kernel)
theorem ac_I : Cond.arrayClass .int ∈ tb := tb_at 237 (by decide +kernel)
theorem flX1_21 : Cond.fieldLink RX1 21 (TX1 3).1 (TX1 3).2.1 (TX1 3).2.2.1 ∈ tb := tb_at 203 (by decide +kernel)
theorem flX1_25 : Cond.fieldLink RX1 25 (TX1 4).1 (TX1 4).2.1 (TX1 4).2.2.1 ∈ tb := tb_at 206 (by decide +kernel)
theorem flX1_28 : Cond.fieldLink RX1 28 (TX1 5).1 (TX1 5).2.1 (TX1 5).2.2.1 ∈ tb := tb_at 210 (by decide +kernel)
theorem flX1_31 : Cond.fieldLink RX1 31 (TX1 6).1 (TX1 6).2.1 (TX1 6).2.2.1 ∈ tb := tb_at 213 (by decide +kernel)
theorem flX1_34 : Cond.fieldLink RX1 34 (TX1 7).1 (TX1 7).2.1 (TX1 7).2.2.1 ∈ tb := tb_at 216 (by decide +kernel)
theorem mlX3_3 : Cond.methodLink RX3 3 objectInit ∈ tb := tb_at 243 (by decide +kernel)
theorem flX3_15 : Cond.fieldLink RX3 15 (TX3 1).1 (TX3 1).2.1 (TX3 1).2.2.1 ∈ tb := tb_at 252 (by decide +kernel)
theorem flX3_19 : Cond.fieldLink RX3 19 (TX3 2).1 (TX3 2).2.1 (TX3 2).2.2.1 ∈ tb := tb_at 255 (by decide +kernel)
theorem flX3_22 : Cond.fieldLink RX3 22 (TX3 3).1 (TX3 3).2.1 (TX3 3).2.2.1 ∈ tb := tb_at 260 (by decide +kernel)
theorem flX3_25 : Cond.fieldLink RX3 25 (TX3 4).1 (TX3 4).2.1 (TX3 4).2.2.1 ∈ tb := tb_at 264 (by decide +kernel)
theorem flX3_28 : Cond.fieldLink RX3 28 (TX3 5).1 (TX3 5).2.1 (TX3 5).2.2.1 ∈ tb := tb_at 269 (by decide +kernel)
theorem flX3_31 : Cond.fieldLink RX3 31 (TX3 6).1 (TX3 6).2.1 (TX3 6).2.2.1 ∈ tb := tb_at 273 (by decide +kernel)
theorem flX3_34 : Cond.fieldLink RX3 34 (TX3 7).1 (TX3 7).2.1 (TX3 7).2.2.1 ∈ tb := tb_at 279 (by decide +kernel)
theorem flX3_37 : Cond.fieldLink RX3 37 (TX3 8).1 (TX3 8).2.1 (TX3 8).2.2.1 ∈ tb := tb_at 283 (by decide +kernel)
theorem flX3_40 : Cond.fieldLink RX3 40 (TX3 9).1 (TX3 9).2.1 (TX3 9).2.2.1 ∈ tb := tb_at 286 (by decide +kernel)
theorem flX3_43 : Cond.fieldLink RX3 43 (TX3 10).1 (TX3 10).2.1 (TX3 10).2.2.1 ∈ tb := tb_at 289 (by decide +kernel)
theorem mlX7_3 : Cond.methodLink RX7 3 objectInit ∈ tb := tb_at 321 (by decide +kernel)
theorem flX7_18 : Cond.fieldLink RX7 18 (TX7 2).1 (TX7 2).2.1 (TX7 2).2.2.1 ∈ tb := tb_at 327 (by decide +kernel)
theorem flX7_22 : Cond.fieldLink RX7 22 (TX7 3).1 (TX7 3).2.1 (TX7 3).2.2.1 ∈ tb := tb_at 328 (by decide +kernel)
theorem flX7_25 : Cond.fieldLink RX7 25 (TX7 4).1 (TX7 4).2.1 (TX7 4).2.2.1 ∈ tb := tb_at 329 (by decide +kernel)
theorem flX7_28 : Cond.fieldLink RX7 28 (TX7 5).1 (TX7 5).2.1 (TX7 5).2.2.1 ∈ tb := tb_at 330 (by decide +kernel)
theorem flX7_31 : Cond.fieldLink RX7 31 (TX7 6).1 (TX7 6).2.1 (TX7 6).2.2.1 ∈ tb := tb_at 331 (by decide +kernel)
theorem flX7_34 : Cond.fieldLink RX7 34 (TX7 7).1 (TX7 7).2.1 (TX7 7).2.2.1 ∈ tb := tb_at 332 (by decide +kernel)
theorem mlX2_3 : Cond.methodLink RX2 3 objectInit ∈ tb := tb_at 182 (by decide +kernel)
theorem lkX2_9 : Cond.classLink RX2 9 RX1 ∈ tb := tb_at 183 (by decide +kernel)
theorem it_X1 : Cond.instantiable RX1 8 ∈ tb := tb_at 184 (by decide +kernel)
theorem ini_X1 : Cond.initialized RX1 ∈ tb := tb_at 150 (by decide +kernel)
theorem kmI_X1_init : KmI yX1_init cX1_init 1 0 := ⟨tb_at (w := Cond.code yX1_init cX1_init 1 none) 187 (by decide +kernel), tb_at (w := Cond.initialized RX1) 150 (by decide +kernel), tb_at (w := Cond.instanceMethod yX1_init) 186 (by decide +kernel), rfl, ⟨by decide +kernel, by decide +kernel, by decide +kernel⟩⟩
theorem lkX2_18 : Cond.classLink RX2 18 RX3 ∈ tb := tb_at 238 (by decide +kernel)
theorem it_X3 : Cond.instantiable RX3 11 ∈ tb := tb_at 239 (by decide +kernel)
theorem ini_X3 : Cond.initialized RX3 ∈ tb := tb_at 151 (by decide +kernel)
theorem kmI_X3_init : KmI yX3_init cX3_init 1 0 := ⟨tb_at (w := Cond.code yX3_init cX3_init 1 none) 242 (by decide +kernel), tb_at (w := Cond.initialized RX3) 151 (by decide +kernel), tb_at (w := Cond.instanceMethod yX3_init) 241 (by decide +kernel), rfl, ⟨by decide +kernel, by decide +kernel, by decide +kernel⟩⟩
theorem lkX2_25 : Cond.classLink RX2 25 RX7 ∈ tb := tb_at 316 (by decide +kernel)
theorem it_X7 : Cond.instantiable RX7 8 ∈ tb := tb_at 317 (by decide +kernel)
theorem ini_X7 : Cond.initialized RX7 ∈ tb := tb_at 152 (by decide +kernel)
theorem kmI_X7_init : KmI yX7_init cX7_init 1 0 := ⟨tb_at (w := Cond.code yX7_init cX7_init 1 none) 320 (by decide +kernel), tb_at (w := Cond.initialized RX7) 152 (by decide +kernel), tb_at (w := Cond.instanceMethod yX7_init) 319 (by decide +kernel), rfl, ⟨by decide +kernel, by decide +kernel, by decide +kernel⟩⟩
theorem flX2_36 : Cond.fieldLink RX2 36 (TX2 4).1 (TX2 4).2.1 (TX2 4).2.2.1 ∈ tb := tb_at 370 (by decide +kernel)
theorem ac_Z : Cond.arrayClass .boolean ∈ tb := tb_at 434 (by decide +kernel)
theorem flX2_40 : Cond.fieldLink RX2 40 (TX2 5).1 (TX2 5).2.1 (TX2 5).2.2.1 ∈ tb := tb_at 372 (by decide +kernel)
theorem flX2_50 : Cond.fieldLink RX2 50 (TX2 8).1 (TX2 8).2.1 (TX2 8).2.2.1 ∈ tb := tb_at 384 (by decide +kernel)
theorem flX2_53 : Cond.fieldLink RX2 53 (TX2 9).1 (TX2 9).2.1 (TX2 9).2.2.1 ∈ tb := tb_at 387 (by decide +kernel)
theorem flX2_56 : Cond.fieldLink RX2 56 (TX2 10).1 (TX2 10).2.1 (TX2 10).2.2.1 ∈ tb := tb_at 390 (by decide +kernel)
theorem mlX5_3 : Cond.methodLink RX5 3 objectInit ∈ tb := tb_at 442 (by decide +kernel)
theorem flX5_24 : Cond.fieldLink RX5 24 (TX5 5).1 (TX5 5).2.1 (TX5 5).2.2.1 ∈ tb := tb_at 504 (by decide +kernel)
theorem mlX5_43 : Cond.methodLink RX5 43 yX5_listOwnWords ∈ tb := tb_at 443 (by decide +kernel)
theorem kmV_X5_listOwnWords : KmV yX5_listOwnWords cX5_listOwnWords 4 none 0 := ⟨tb_at (w := Cond.code yX5_listOwnWords cX5_listOwnWords 4 none) 446 (by decide +kernel), tb_at (w := Cond.initialized RX5) 154 (by decide +kernel), tb_at (w := Cond.instanceMethod yX5_listOwnWords) 445 (by decide +kernel), tb_at (w := Cond.selects yX5_listOwnWords.cls yX5_listOwnWords yX5_listOwnWords) 0 (by decide +kernel), ⟨by decide +kernel, by decide +kernel, by decide +kernel⟩⟩
theorem mlX6_3 : Cond.methodLink RX6 3 objectInit ∈ tb := tb_at 546 (by decide +kernel)
theorem flX6_9 : Cond.fieldLink RX6 9 (TX6 0).1 (TX6 0).2.1 (TX6 0).2.2.1 ∈ tb := tb_at 547 (by decide +kernel)
theorem flX6_15 : Cond.fieldLink RX6 15 (TX6 1).1 (TX6 1).2.1 (TX6 1).2.2.1 ∈ tb := tb_at 548 (by decide +kernel)
theorem mlX10_3 : Cond.methodLink RX10 3 objectInit ∈ tb := tb_at 540 (by decide +kernel)
theorem lkX10_23 : Cond.classLink RX10 23 RX6 ∈ tb := tb_at 541 (by decide +kernel)
theorem it_X6 : Cond.instantiable RX6 2 ∈ tb := tb_at 542 (by decide +kernel)
theorem ini_X6 : Cond.initialized RX6 ∈ tb := tb_at 159 (by decide +kernel)
theorem flX10_25 : Cond.fieldLink RX10 25 (TX2 2).1 (TX2 2).2.1 (TX2 2).2.2.1 ∈ tb := tb_at 362 (by decide +kernel)
theorem mlX10_31 : Cond.methodLink RX10 31 yX6_init ∈ tb := tb_at 543 (by decide +kernel)
theorem kmI_X6_init : KmI yX6_init cX6_init 3 2 := ⟨tb_at (w := Cond.code yX6_init cX6_init 3 none) 545 (by decide +kernel), tb_at (w := Cond.initialized RX6) 159 (by decide +kernel), tb_at (w := Cond.instanceMethod yX6_init) 544 (by decide +kernel), rfl, ⟨by decide +kernel, by decide +kernel, by decide +kernel⟩⟩
theorem flX10_34 : Cond.fieldLink RX10 34 (TX10 1).1 (TX10 1).2.1 (TX10 1).2.2.1 ∈ tb := tb_at 556 (by decide +kernel)
theorem mlX4_3 : Cond.methodLink RX4 3 objectInit ∈ tb := tb_at 574 (by decide +kernel)
theorem mlX9_3 : Cond.methodLink RX9 3 objectInit ∈ tb := tb_at 612 (by decide +kernel)
theorem mlX8_3 : Cond.methodLink RX8 3 objectInit ∈ tb := tb_at 635 (by decide +kernel)
theorem flX8_9 : Cond.fieldLink RX8 9 (TX8 1).1 (TX8 1).2.1 (TX8 1).2.2.1 ∈ tb := tb_at 637 (by decide +kernel)
theorem flX8_15 : Cond.fieldLink RX8 15 (TX8 2).1 (TX8 2).2.1 (TX8 2).2.2.1 ∈ tb := tb_at 639 (by decide +kernel)
theorem mlX0_1 : Cond.methodLink RX0 1 objectInit ∈ tb := tb_at 652 (by decide +kernel)
theorem ac_J : Cond.arrayClass .long ∈ tb := tb_at 660 (by decide +kernel)
theorem mlX11_1 : Cond.methodLink RX11 1 objectInit ∈ tb := tb_at 174 (by decide +kernel)
theorem lkX11_17 : Cond.classLink RX11 17 RX2 ∈ tb := tb_at 177 (by decide +kernel)
theorem it_X2 : Cond.instantiable RX2 14 ∈ tb := tb_at 178 (by decide +kernel)
theorem ini_X2 : Cond.initialized RX2 ∈ tb := tb_at 149 (by decide +kernel)
theorem kmI_X2_init : KmI yX2_init cX2_init 1 0 := ⟨tb_at (w := Cond.code yX2_init cX2_init 1 none) 181 (by decide +kernel), tb_at (w := Cond.initialized RX2) 149 (by decide +kernel), tb_at (w := Cond.instanceMethod yX2_init) 180 (by decide +kernel), rfl, ⟨by decide +kernel, by decide +kernel, by decide +kernel⟩⟩
theorem lkX11_24 : Cond.classLink RX11 24 RX10 ∈ tb := tb_at 435 (by decide +kernel)
theorem it_X10 : Cond.instantiable RX10 4 ∈ tb := tb_at 436 (by decide +kernel)
theorem ini_X10 : Cond.initialized RX10 ∈ tb := tb_at 153 (by decide +kernel)
theorem lkX11_26 : Cond.classLink RX11 26 RX5 ∈ tb := tb_at 437 (by decide +kernel)
theorem it_X5 : Cond.instantiable RX5 10 ∈ tb := tb_at 438 (by decide +kernel)
theorem ini_X5 : Cond.initialized RX5 ∈ tb := tb_at 154 (by decide +kernel)
theorem mlX11_28 : Cond.methodLink RX11 28 yX5_init ∈ tb := tb_at 439 (by decide +kernel)
theorem kmI_X5_init : KmI yX5_init cX5_init 2 1 := ⟨tb_at (w := Cond.code yX5_init cX5_init 2 none) 441 (by decide +kernel), tb_at (w := Cond.initialized RX5) 154 (by decide +kernel), tb_at (w := Cond.instanceMethod yX5_init) 440 (by decide +kernel), rfl, ⟨by decide +kernel, by decide +kernel, by decide +kernel⟩⟩
theorem mlX11_31 : Cond.methodLink RX11 31 yX10_init ∈ tb := tb_at 537 (by decide +kernel)
theorem kmI_X10_init : KmI yX10_init cX10_init 3 2 := ⟨tb_at (w := Cond.code yX10_init cX10_init 3 none) 539 (by decide +kernel), tb_at (w := Cond.initialized RX10) 153 (by decide +kernel), tb_at (w := Cond.instanceMethod yX10_init) 538 (by decide +kernel), rfl, ⟨by decide +kernel, by decide +kernel, by decide +kernel⟩⟩
theorem lkX11_38 : Cond.classLink RX11 38 RX4 ∈ tb := tb_at 569 (by decide +kernel)
theorem it_X4 : Cond.instantiable RX4 6 ∈ tb := tb_at 570 (by decide +kernel)
theorem ini_X4 : Cond.initialized RX4 ∈ tb := tb_at 160 (by decide +kernel)
theorem mlX11_40 : Cond.methodLink RX11 40 yX4_init ∈ tb := tb_at 571 (by decide +kernel)
theorem kmI_X4_init : KmI yX4_init cX4_init 2 1 := ⟨tb_at (w := Cond.code yX4_init cX4_init 2 none) 573 (by decide +kernel), tb_at (w := Cond.initialized RX4) 160 (by decide +kernel), tb_at (w := Cond.instanceMethod yX4_init) 572 (by decide +kernel), rfl, ⟨by decide +kernel, by decide +kernel, by decide +kernel⟩⟩
theorem lkX11_47 : Cond.classLink RX11 47 RX9 ∈ tb := tb_at 607 (by decide +kernel)
theorem it_X9 : Cond.instantiable RX9 5 ∈ tb := tb_at 608 (by decide +kernel)
theorem ini_X9 : Cond.initialized RX9 ∈ tb := tb_at 162 (by decide +kernel)
theorem mlX11_49 : Cond.methodLink RX11 49 yX9_init ∈ tb := tb_at 609 (by decide +kernel)
theorem kmI_X9_init : KmI yX9_init cX9_init 2 1 := ⟨tb_at (w := Cond.code yX9_init cX9_init 2 none) 611 (by decide +kernel), tb_at (w := Cond.initialized RX9) 162 (by decide +kernel), tb_at (w := Cond.instanceMethod yX9_init) 610 (by decide +kernel), rfl, ⟨by decide +kernel, by decide +kernel, by decide +kernel⟩⟩
theorem lkX11_56 : Cond.classLink RX11 56 RX8 ∈ tb := tb_at 630 (by decide +kernel)
theorem it_X8 : Cond.instantiable RX8 3 ∈ tb := tb_at 631 (by decide +kernel)
theorem ini_X8 : Cond.initialized RX8 ∈ tb := tb_at 163 (by decide +kernel)
theorem mlX11_58 : Cond.methodLink RX11 58 yX8_init ∈ tb := tb_at 632 (by decide +kernel)
theorem kmI_X8_init : KmI yX8_init cX8_init 2 1 := ⟨tb_at (w := Cond.code yX8_init cX8_init 2 none) 634 (by decide +kernel), tb_at (w := Cond.initialized RX8) 163 (by decide +kernel), tb_at (w := Cond.instanceMethod yX8_init) 633 (by decide +kernel), rfl, ⟨by decide +kernel, by decide +kernel, by decide +kernel⟩⟩
theorem lkX11_63 : Cond.classLink RX11 63 RX0 ∈ tb := tb_at 647 (by decide +kernel)
theorem it_X0 : Cond.instantiable RX0 2 ∈ tb := tb_at 648 (by decide +kernel)
theorem ini_X0 : Cond.initialized RX0 ∈ tb := tb_at 164 (by decide +kernel)
theorem kmI_X0_init : KmI yX0_init cX0_init 1 0 := ⟨tb_at (w := Cond.code yX0_init cX0_init 1 none) 651 (by decide +kernel), tb_at (w := Cond.initialized RX0) 164 (by decide +kernel), tb_at (w := Cond.instanceMethod yX0_init) 650 (by decide +kernel), rfl, ⟨by decide +kernel, by decide +kernel, by decide +kernel⟩⟩
theorem dX1_init_0 : decode cX1_init 0 = .ok (.aload_n 0, 1) := by decide +kernel
theorem dX1_init_1 : decode cX1_init 1 = .ok (.invokespecial 3, 3) := by decide +kernel
theorem dX1_init_10 : decode cX1_init 10 = .ok (.iconst 0, 1) := by decide +kernel
theorem dX1_init_11 : decode cX1_init 11 = .ok (.putfield 15, 3) := by decide +kernel
theorem dX1_init_14 : decode cX1_init 14 = .ok (.aload_n 0, 1) := by decide +kernel
theorem dX1_init_15 : decode cX1_init 15 = .ok (.iconst 0, 1) := by decide +kernel
theorem dX1_init_16 : decode cX1_init 16 = .ok (.putfield 18, 3) := by decide +kernel
theorem dX1_init_19 : decode cX1_init 19 = .ok (.aload_n 0, 1) := by decide +kernel
theorem dX1_init_20 : decode cX1_init 20 = .ok (.iconst 5, 1) := by decide +kernel
theorem dX1_init_21 : decode cX1_init 21 = .ok (.newarray .int, 2) := by decide +kernel
theorem dX1_init_23 : decode cX1_init 23 = .ok (.putfield 21, 3) := by decide +kernel
theorem dX1_init_26 : decode cX1_init 26 = .ok (.aload_n 0, 1) := by decide +kernel
theorem dX1_init_27 : decode cX1_init 27 = .ok (.iconst 5, 1) := by decide +kernel
theorem dX1_init_28 : decode cX1_init 28 = .ok (.newarray .int, 2) := by decide +kernel
theorem dX1_init_30 : decode cX1_init 30 = .ok (.putfield 25, 3) := by decide +kernel
theorem dX1_init_33 : decode cX1_init 33 = .ok (.aload_n 0, 1) := by decide +kernel
theorem dX1_init_34 : decode cX1_init 34 = .ok (.iconst 5, 1) := by decide +kernel
theorem dX1_init_35 : decode cX1_init 35 = .ok (.newarray .int, 2) := by decide +kernel
theorem dX1_init_37 : decode cX1_init 37 = .ok (.putfield 28, 3) := by decide +kernel
theorem dX1_init_4 : decode cX1_init 4 = .ok (.aload_n 0, 1) := by decide +kernel
theorem dX1_init_40 : decode cX1_init 40 = .ok (.aload_n 0, 1) := by decide +kernel
theorem dX1_init_41 : decode cX1_init 41 = .ok (.iconst 5, 1) := by decide +kernel
theorem dX1_init_42 : decode cX1_init 42 = .ok (.newarray .int, 2) := by decide +kernel
theorem dX1_init_44 : decode cX1_init 44 = .ok (.putfield 31, 3) := by decide +kernel
theorem dX1_init_47 : decode cX1_init 47 = .ok (.aload_n 0, 1) := by decide +kernel
theorem dX1_init_48 : decode cX1_init 48 = .ok (.iconst 5, 1) := by decide +kernel
theorem dX1_init_49 : decode cX1_init 49 = .ok (.newarray .int, 2) := by decide +kernel
theorem dX1_init_5 : decode cX1_init 5 = .ok (.iconst 0, 1) := by decide +kernel
theorem dX1_init_51 : decode cX1_init 51 = .ok (.putfield 34, 3) := by decide +kernel
theorem dX1_init_54 : decode cX1_init 54 = .ok (.return_, 1) := by decide +kernel
theorem dX1_init_6 : decode cX1_init 6 = .ok (.putfield 9, 3) := by decide +kernel
theorem dX1_init_9 : decode cX1_init 9 = .ok (.aload_n 0, 1) := by decide +kernel
theorem dX3_init_0 : decode cX3_init 0 = .ok (.aload_n 0, 1) := by decide +kernel
theorem dX3_init_1 : decode cX3_init 1 = .ok (.invokespecial 3, 3) := by decide +kernel
theorem dX3_init_10 : decode cX3_init 10 = .ok (.bipush 12, 2) := by decide +kernel
theorem dX3_init_12 : decode cX3_init 12 = .ok (.newarray .int, 2) := by decide +kernel
theorem dX3_init_14 : decode cX3_init 14 = .ok (.putfield 15, 3) := by decide +kernel
theorem dX3_init_17 : decode cX3_init 17 = .ok (.aload_n 0, 1) := by decide +kernel
theorem dX3_init_18 : decode cX3_init 18 = .ok (.bipush 12, 2) := by decide +kernel
theorem dX3_init_20 : decode cX3_init 20 = .ok (.newarray .int, 2) := by decide +kernel
theorem dX3_init_22 : decode cX3_init 22 = .ok (.putfield 19, 3) := by decide +kernel
theorem dX3_init_25 : decode cX3_init 25 = .ok (.aload_n 0, 1) := by decide +kernel
theorem dX3_init_26 : decode cX3_init 26 = .ok (.bipush 12, 2) := by decide +kernel
theorem dX3_init_28 : decode cX3_init 28 = .ok (.newarray .int, 2) := by decide +kernel
theorem dX3_init_30 : decode cX3_init 30 = .ok (.putfield 22, 3) := by decide +kernel
theorem dX3_init_33 : decode cX3_init 33 = .ok (.aload_n 0, 1) := by decide +kernel
theorem dX3_init_34 : decode cX3_init 34 = .ok (.bipush 12, 2) := by decide +kernel
theorem dX3_init_36 : decode cX3_init 36 = .ok (.newarray .int, 2) := by decide +kernel
theorem dX3_init_38 : decode cX3_init 38 = .ok (.putfield 25, 3) := by decide +kernel
theorem dX3_init_4 : decode cX3_init 4 = .ok (.aload_n 0, 1) := by decide +kernel
theorem dX3_init_41 : decode cX3_init 41 = .ok (.aload_n 0, 1) := by decide +kernel
theorem dX3_init_42 : decode cX3_init 42 = .ok (.bipush 12, 2) := by decide +kernel
theorem dX3_init_44 : decode cX3_init 44 = .ok (.newarray .int, 2) := by decide +kernel
theorem dX3_init_46 : decode cX3_init 46 = .ok (.putfield 28, 3) := by decide +kernel
theorem dX3_init_49 : decode cX3_init 49 = .ok (.aload_n 0, 1) := by decide +kernel
theorem dX3_init_5 : decode cX3_init 5 = .ok (.iconst 0, 1) := by decide +kernel
theorem dX3_init_50 : decode cX3_init 50 = .ok (.bipush 12, 2) := by decide +kernel
theorem dX3_init_52 : decode cX3_init 52 = .ok (.newarray .int, 2) := by decide +kernel
theorem dX3_init_54 : decode cX3_init 54 = .ok (.putfield 31, 3) := by decide +kernel
theorem dX3_init_57 : decode cX3_init 57 = .ok (.aload_n 0, 1) := by decide +kernel
theorem dX3_init_58 : decode cX3_init 58 = .ok (.bipush 12, 2) := by decide +kernel
theorem dX3_init_6 : decode cX3_init 6 = .ok (.putfield 9, 3) := by decide +kernel
theorem dX3_init_60 : decode cX3_init 60 = .ok (.newarray .int, 2) := by decide +kernel
theorem dX3_init_62 : decode cX3_init 62 = .ok (.putfield 34, 3) := by decide +kernel
theorem dX3_init_65 : decode cX3_init 65 = .ok (.aload_n 0, 1) := by decide +kernel
theorem dX3_init_66 : decode cX3_init 66 = .ok (.bipush 60, 2) := by decide +kernel
theorem dX3_init_68 : decode cX3_init 68 = .ok (.newarray .int, 2) := by decide +kernel
theorem dX3_init_70 : decode cX3_init 70 = .ok (.putfield 37, 3) := by decide +kernel
theorem dX3_init_73 : decode cX3_init 73 = .ok (.aload_n 0, 1) := by decide +kernel
theorem dX3_init_74 : decode cX3_init 74 = .ok (.bipush 120, 2) := by decide +kernel
theorem dX3_init_76 : decode cX3_init 76 = .ok (.newarray .int, 2) := by decide +kernel
theorem dX3_init_78 : decode cX3_init 78 = .ok (.putfield 40, 3) := by decide +kernel
theorem dX3_init_81 : decode cX3_init 81 = .ok (.aload_n 0, 1) := by decide +kernel
theorem dX3_init_82 : decode cX3_init 82 = .ok (.bipush 12, 2) := by decide +kernel
theorem dX3_init_84 : decode cX3_init 84 = .ok (.newarray .int, 2) := by decide +kernel
theorem dX3_init_86 : decode cX3_init 86 = .ok (.putfield 43, 3) := by decide +kernel
theorem dX3_init_89 : decode cX3_init 89 = .ok (.return_, 1) := by decide +kernel
theorem dX3_init_9 : decode cX3_init 9 = .ok (.aload_n 0, 1) := by decide +kernel
theorem dX7_init_0 : decode cX7_init 0 = .ok (.aload_n 0, 1) := by decide +kernel
theorem dX7_init_1 : decode cX7_init 1 = .ok (.invokespecial 3, 3) := by decide +kernel
theorem dX7_init_10 : decode cX7_init 10 = .ok (.iconst 0, 1) := by decide +kernel
theorem dX7_init_11 : decode cX7_init 11 = .ok (.putfield 15, 3) := by decide +kernel
theorem dX7_init_14 : decode cX7_init 14 = .ok (.aload_n 0, 1) := by decide +kernel
theorem dX7_init_15 : decode cX7_init 15 = .ok (.sipush 1800, 3) := by decide +kernel
theorem dX7_init_18 : decode cX7_init 18 = .ok (.newarray .int, 2) := by decide +kernel
theorem dX7_init_20 : decode cX7_init 20 = .ok (.putfield 18, 3) := by decide +kernel
theorem dX7_init_23 : decode cX7_init 23 = .ok (.aload_n 0, 1) := by decide +kernel
theorem dX7_init_24 : decode cX7_init 24 = .ok (.bipush 12, 2) := by decide +kernel
theorem dX7_init_26 : decode cX7_init 26 = .ok (.newarray .int, 2) := by decide +kernel
theorem dX7_init_28 : decode cX7_init 28 = .ok (.putfield 22, 3) := by decide +kernel
theorem dX7_init_31 : decode cX7_init 31 = .ok (.aload_n 0, 1) := by decide +kernel
theorem dX7_init_32 : decode cX7_init 32 = .ok (.bipush 12, 2) := by decide +kernel
theorem dX7_init_34 : decode cX7_init 34 = .ok (.newarray .int, 2) := by decide +kernel
theorem dX7_init_36 : decode cX7_init 36 = .ok (.putfield 25, 3) := by decide +kernel
theorem dX7_init_39 : decode cX7_init 39 = .ok (.aload_n 0, 1) := by decide +kernel
theorem dX7_init_4 : decode cX7_init 4 = .ok (.aload_n 0, 1) := by decide +kernel
theorem dX7_init_40 : decode cX7_init 40 = .ok (.bipush 12, 2) := by decide +kernel
theorem dX7_init_42 : decode cX7_init 42 = .ok (.newarray .int, 2) := by decide +kernel
theorem dX7_init_44 : decode cX7_init 44 = .ok (.putfield 28, 3) := by decide +kernel
theorem dX7_init_47 : decode cX7_init 47 = .ok (.aload_n 0, 1) := by decide +kernel
theorem dX7_init_48 : decode cX7_init 48 = .ok (.bipush 6, 2) := by decide +kernel
theorem dX7_init_5 : decode cX7_init 5 = .ok (.iconst 0, 1) := by decide +kernel
theorem dX7_init_50 : decode cX7_init 50 = .ok (.newarray .int, 2) := by decide +kernel
theorem dX7_init_52 : decode cX7_init 52 = .ok (.putfield 31, 3) := by decide +kernel
theorem dX7_init_55 : decode cX7_init 55 = .ok (.aload_n 0, 1) := by decide +kernel
theorem dX7_init_56 : decode cX7_init 56 = .ok (.bipush 64, 2) := by decide +kernel
theorem dX7_init_58 : decode cX7_init 58 = .ok (.newarray .int, 2) := by decide +kernel
theorem dX7_init_6 : decode cX7_init 6 = .ok (.putfield 9, 3) := by decide +kernel
theorem dX7_init_60 : decode cX7_init 60 = .ok (.putfield 34, 3) := by decide +kernel
theorem dX7_init_63 : decode cX7_init 63 = .ok (.return_, 1) := by decide +kernel
theorem dX7_init_9 : decode cX7_init 9 = .ok (.aload_n 0, 1) := by decide +kernel
theorem dX2_init_0 : decode cX2_init 0 = .ok (.aload_n 0, 1) := by decide +kernel
theorem dX2_init_1 : decode cX2_init 1 = .ok (.invokespecial 3, 3) := by decide +kernel
theorem dX2_init_102 : decode cX2_init 102 = .ok (.aload_n 0, 1) := by decide +kernel
theorem dX2_init_103 : decode cX2_init 103 = .ok (.iconst 5, 1) := by decide +kernel
theorem dX2_init_104 : decode cX2_init 104 = .ok (.newarray .int, 2) := by decide +kernel
theorem dX2_init_106 : decode cX2_init 106 = .ok (.putfield 62, 3) := by decide +kernel
theorem dX2_init_109 : decode cX2_init 109 = .ok (.aload_n 0, 1) := by decide +kernel
theorem dX2_init_110 : decode cX2_init 110 = .ok (.bipush 50, 2) := by decide +kernel
theorem dX2_init_112 : decode cX2_init 112 = .ok (.putfield 65, 3) := by decide +kernel
theorem dX2_init_115 : decode cX2_init 115 = .ok (.return_, 1) := by decide +kernel
theorem dX2_init_12 : decode cX2_init 12 = .ok (.putfield 12, 3) := by decide +kernel
theorem dX2_init_15 : decode cX2_init 15 = .ok (.aload_n 0, 1) := by decide +kernel
theorem dX2_init_16 : decode cX2_init 16 = .ok (.new 18, 3) := by decide +kernel
theorem dX2_init_19 : decode cX2_init 19 = .ok (.dup, 1) := by decide +kernel
theorem dX2_init_20 : decode cX2_init 20 = .ok (.invokespecial 20, 3) := by decide +kernel
theorem dX2_init_23 : decode cX2_init 23 = .ok (.putfield 21, 3) := by decide +kernel
theorem dX2_init_26 : decode cX2_init 26 = .ok (.aload_n 0, 1) := by decide +kernel
theorem dX2_init_27 : decode cX2_init 27 = .ok (.new 25, 3) := by decide +kernel
theorem dX2_init_30 : decode cX2_init 30 = .ok (.dup, 1) := by decide +kernel
theorem dX2_init_31 : decode cX2_init 31 = .ok (.invokespecial 27, 3) := by decide +kernel
theorem dX2_init_34 : decode cX2_init 34 = .ok (.putfield 28, 3) := by decide +kernel
theorem dX2_init_37 : decode cX2_init 37 = .ok (.aload_n 0, 1) := by decide +kernel
theorem dX2_init_38 : decode cX2_init 38 = .ok (.iconst 0, 1) := by decide +kernel
theorem dX2_init_39 : decode cX2_init 39 = .ok (.putfield 32, 3) := by decide +kernel
theorem dX2_init_4 : decode cX2_init 4 = .ok (.aload_n 0, 1) := by decide +kernel
theorem dX2_init_42 : decode cX2_init 42 = .ok (.aload_n 0, 1) := by decide +kernel
theorem dX2_init_43 : decode cX2_init 43 = .ok (.bipush 6, 2) := by decide +kernel
theorem dX2_init_45 : decode cX2_init 45 = .ok (.newarray .int, 2) := by decide +kernel
theorem dX2_init_47 : decode cX2_init 47 = .ok (.putfield 36, 3) := by decide +kernel
theorem dX2_init_5 : decode cX2_init 5 = .ok (.new 9, 3) := by decide +kernel
theorem dX2_init_50 : decode cX2_init 50 = .ok (.aload_n 0, 1) := by decide +kernel
theorem dX2_init_51 : decode cX2_init 51 = .ok (.bipush 6, 2) := by decide +kernel
theorem dX2_init_53 : decode cX2_init 53 = .ok (.newarray .boolean, 2) := by decide +kernel
theorem dX2_init_55 : decode cX2_init 55 = .ok (.putfield 40, 3) := by decide +kernel
theorem dX2_init_58 : decode cX2_init 58 = .ok (.aload_n 0, 1) := by decide +kernel
theorem dX2_init_59 : decode cX2_init 59 = .ok (.bipush 6, 2) := by decide +kernel
theorem dX2_init_61 : decode cX2_init 61 = .ok (.newarray .int, 2) := by decide +kernel
theorem dX2_init_63 : decode cX2_init 63 = .ok (.putfield 44, 3) := by decide +kernel
theorem dX2_init_66 : decode cX2_init 66 = .ok (.aload_n 0, 1) := by decide +kernel
theorem dX2_init_67 : decode cX2_init 67 = .ok (.iconst 0, 1) := by decide +kernel
theorem dX2_init_68 : decode cX2_init 68 = .ok (.putfield 47, 3) := by decide +kernel
theorem dX2_init_71 : decode cX2_init 71 = .ok (.aload_n 0, 1) := by decide +kernel
theorem dX2_init_72 : decode cX2_init 72 = .ok (.bipush 30, 2) := by decide +kernel
theorem dX2_init_74 : decode cX2_init 74 = .ok (.newarray .int, 2) := by decide +kernel
theorem dX2_init_76 : decode cX2_init 76 = .ok (.putfield 50, 3) := by decide +kernel
theorem dX2_init_79 : decode cX2_init 79 = .ok (.aload_n 0, 1) := by decide +kernel
theorem dX2_init_8 : decode cX2_init 8 = .ok (.dup, 1) := by decide +kernel
theorem dX2_init_80 : decode cX2_init 80 = .ok (.bipush 30, 2) := by decide +kernel
theorem dX2_init_82 : decode cX2_init 82 = .ok (.newarray .int, 2) := by decide +kernel
theorem dX2_init_84 : decode cX2_init 84 = .ok (.putfield 53, 3) := by decide +kernel
theorem dX2_init_87 : decode cX2_init 87 = .ok (.aload_n 0, 1) := by decide +kernel
theorem dX2_init_88 : decode cX2_init 88 = .ok (.bipush 30, 2) := by decide +kernel
theorem dX2_init_9 : decode cX2_init 9 = .ok (.invokespecial 11, 3) := by decide +kernel
theorem dX2_init_90 : decode cX2_init 90 = .ok (.newarray .int, 2) := by decide +kernel
theorem dX2_init_92 : decode cX2_init 92 = .ok (.putfield 56, 3) := by decide +kernel
theorem dX2_init_95 : decode cX2_init 95 = .ok (.aload_n 0, 1) := by decide +kernel
theorem dX2_init_96 : decode cX2_init 96 = .ok (.iconst 5, 1) := by decide +kernel
theorem dX2_init_97 : decode cX2_init 97 = .ok (.newarray .int, 2) := by decide +kernel
theorem dX2_init_99 : decode cX2_init 99 = .ok (.putfield 59, 3) := by decide +kernel
theorem dX5_init_0 : decode cX5_init 0 = .ok (.aload_n 0, 1) := by decide +kernel
theorem dX5_init_1 : decode cX5_init 1 = .ok (.invokespecial 3, 3) := by decide +kernel
theorem dX5_init_10 : decode cX5_init 10 = .ok (.iconst 0, 1) := by decide +kernel
theorem dX5_init_11 : decode cX5_init 11 = .ok (.putfield 15, 3) := by decide +kernel
theorem dX5_init_14 : decode cX5_init 14 = .ok (.aload_n 0, 1) := by decide +kernel
theorem dX5_init_15 : decode cX5_init 15 = .ok (.iconst 0, 1) := by decide +kernel
theorem dX5_init_16 : decode cX5_init 16 = .ok (.putfield 18, 3) := by decide +kernel
theorem dX5_init_19 : decode cX5_init 19 = .ok (.aload_n 0, 1) := by decide +kernel
theorem dX5_init_20 : decode cX5_init 20 = .ok (.iconst 0, 1) := by decide +kernel
theorem dX5_init_21 : decode cX5_init 21 = .ok (.putfield 21, 3) := by decide +kernel
theorem dX5_init_24 : decode cX5_init 24 = .ok (.aload_n 0, 1) := by decide +kernel
theorem dX5_init_25 : decode cX5_init 25 = .ok (.iconst 0, 1) := by decide +kernel
theorem dX5_init_26 : decode cX5_init 26 = .ok (.putfield 24, 3) := by decide +kernel
theorem dX5_init_29 : decode cX5_init 29 = .ok (.aload_n 0, 1) := by decide +kernel
theorem dX5_init_30 : decode cX5_init 30 = .ok (.iconst (-1), 1) := by decide +kernel
theorem dX5_init_31 : decode cX5_init 31 = .ok (.putfield 27, 3) := by decide +kernel
theorem dX5_init_34 : decode cX5_init 34 = .ok (.aload_n 0, 1) := by decide +kernel
theorem dX5_init_35 : decode cX5_init 35 = .ok (.iconst 0, 1) := by decide +kernel
theorem dX5_init_36 : decode cX5_init 36 = .ok (.putfield 30, 3) := by decide +kernel
theorem dX5_init_39 : decode cX5_init 39 = .ok (.aload_n 0, 1) := by decide +kernel
theorem dX5_init_4 : decode cX5_init 4 = .ok (.aload_n 0, 1) := by decide +kernel
theorem dX5_init_40 : decode cX5_init 40 = .ok (.iconst (-1), 1) := by decide +kernel
theorem dX5_init_41 : decode cX5_init 41 = .ok (.putfield 33, 3) := by decide +kernel
theorem dX5_init_44 : decode cX5_init 44 = .ok (.aload_n 0, 1) := by decide +kernel
theorem dX5_init_45 : decode cX5_init 45 = .ok (.bipush 33, 2) := by decide +kernel
theorem dX5_init_47 : decode cX5_init 47 = .ok (.newarray .int, 2) := by decide +kernel
theorem dX5_init_49 : decode cX5_init 49 = .ok (.putfield 36, 3) := by decide +kernel
theorem dX5_init_5 : decode cX5_init 5 = .ok (.iconst 0, 1) := by decide +kernel
theorem dX5_init_52 : decode cX5_init 52 = .ok (.aload_n 0, 1) := by decide +kernel
theorem dX5_init_53 : decode cX5_init 53 = .ok (.aload_n 1, 1) := by decide +kernel
theorem dX5_init_54 : decode cX5_init 54 = .ok (.putfield 40, 3) := by decide +kernel
theorem dX5_init_57 : decode cX5_init 57 = .ok (.aload_n 0, 1) := by decide +kernel
theorem dX5_init_58 : decode cX5_init 58 = .ok (.invokevirtual 43, 3) := by decide +kernel
theorem dX5_init_6 : decode cX5_init 6 = .ok (.putfield 9, 3) := by decide +kernel
theorem dX5_init_61 : decode cX5_init 61 = .ok (.return_, 1) := by decide +kernel
theorem dX5_init_9 : decode cX5_init 9 = .ok (.aload_n 0, 1) := by decide +kernel
theorem dX6_init_0 : decode cX6_init 0 = .ok (.aload_n 0, 1) := by decide +kernel
theorem dX6_init_1 : decode cX6_init 1 = .ok (.invokespecial 3, 3) := by decide +kernel
theorem dX6_init_10 : decode cX6_init 10 = .ok (.aload_n 2, 1) := by decide +kernel
theorem dX6_init_11 : decode cX6_init 11 = .ok (.putfield 15, 3) := by decide +kernel
theorem dX6_init_14 : decode cX6_init 14 = .ok (.return_, 1) := by decide +kernel
theorem dX6_init_4 : decode cX6_init 4 = .ok (.aload_n 0, 1) := by decide +kernel
theorem dX6_init_5 : decode cX6_init 5 = .ok (.aload_n 1, 1) := by decide +kernel
theorem dX6_init_6 : decode cX6_init 6 = .ok (.putfield 9, 3) := by decide +kernel
theorem dX6_init_9 : decode cX6_init 9 = .ok (.aload_n 0, 1) := by decide +kernel
theorem dX10_init_0 : decode cX10_init 0 = .ok (.aload_n 0, 1) := by decide +kernel
theorem dX10_init_1 : decode cX10_init 1 = .ok (.invokespecial 3, 3) := by decide +kernel
theorem dX10_init_10 : decode cX10_init 10 = .ok (.aload_n 1, 1) := by decide +kernel
theorem dX10_init_11 : decode cX10_init 11 = .ok (.putfield 15, 3) := by decide +kernel
theorem dX10_init_14 : decode cX10_init 14 = .ok (.aload_n 0, 1) := by decide +kernel
theorem dX10_init_15 : decode cX10_init 15 = .ok (.aload_n 2, 1) := by decide +kernel
theorem dX10_init_16 : decode cX10_init 16 = .ok (.putfield 19, 3) := by decide +kernel
theorem dX10_init_19 : decode cX10_init 19 = .ok (.aload_n 0, 1) := by decide +kernel
theorem dX10_init_20 : decode cX10_init 20 = .ok (.new 23, 3) := by decide +kernel
theorem dX10_init_23 : decode cX10_init 23 = .ok (.dup, 1) := by decide +kernel
theorem dX10_init_24 : decode cX10_init 24 = .ok (.aload_n 1, 1) := by decide +kernel
theorem dX10_init_25 : decode cX10_init 25 = .ok (.aload_n 2, 1) := by decide +kernel
theorem dX10_init_26 : decode cX10_init 26 = .ok (.getfield 25, 3) := by decide +kernel
theorem dX10_init_29 : decode cX10_init 29 = .ok (.invokespecial 31, 3) := by decide +kernel
theorem dX10_init_32 : decode cX10_init 32 = .ok (.putfield 34, 3) := by decide +kernel
theorem dX10_init_35 : decode cX10_init 35 = .ok (.return_, 1) := by decide +kernel
theorem dX10_init_4 : decode cX10_init 4 = .ok (.aload_n 0, 1) := by decide +kernel
theorem dX10_init_5 : decode cX10_init 5 = .ok (.iconst 0, 1) := by decide +kernel
theorem dX10_init_6 : decode cX10_init 6 = .ok (.putfield 9, 3) := by decide +kernel
theorem dX10_init_9 : decode cX10_init 9 = .ok (.aload_n 0, 1) := by decide +kernel
theorem dX4_init_0 : decode cX4_init 0 = .ok (.aload_n 0, 1) := by decide +kernel
theorem dX4_init_1 : decode cX4_init 1 = .ok (.invokespecial 3, 3) := by decide +kernel
theorem dX4_init_12 : decode cX4_init 12 = .ok (.aload_n 0, 1) := by decide +kernel
theorem dX4_init_13 : decode cX4_init 13 = .ok (.iconst 0, 1) := by decide +kernel
theorem dX4_init_14 : decode cX4_init 14 = .ok (.putfield 15, 3) := by decide +kernel
theorem dX4_init_17 : decode cX4_init 17 = .ok (.aload_n 0, 1) := by decide +kernel
theorem dX4_init_18 : decode cX4_init 18 = .ok (.iconst (-1), 1) := by decide +kernel
theorem dX4_init_19 : decode cX4_init 19 = .ok (.putfield 19, 3) := by decide +kernel
theorem dX4_init_22 : decode cX4_init 22 = .ok (.aload_n 0, 1) := by decide +kernel
theorem dX4_init_23 : decode cX4_init 23 = .ok (.iconst (-1), 1) := by decide +kernel
theorem dX4_init_24 : decode cX4_init 24 = .ok (.putfield 22, 3) := by decide +kernel
theorem dX4_init_27 : decode cX4_init 27 = .ok (.aload_n 0, 1) := by decide +kernel
theorem dX4_init_28 : decode cX4_init 28 = .ok (.sipush 780, 3) := by decide +kernel
theorem dX4_init_31 : decode cX4_init 31 = .ok (.newarray .int, 2) := by decide +kernel
theorem dX4_init_33 : decode cX4_init 33 = .ok (.putfield 25, 3) := by decide +kernel
theorem dX4_init_36 : decode cX4_init 36 = .ok (.aload_n 0, 1) := by decide +kernel
theorem dX4_init_37 : decode cX4_init 37 = .ok (.aload_n 1, 1) := by decide +kernel
theorem dX4_init_38 : decode cX4_init 38 = .ok (.putfield 28, 3) := by decide +kernel
theorem dX4_init_4 : decode cX4_init 4 = .ok (.aload_n 0, 1) := by decide +kernel
theorem dX4_init_41 : decode cX4_init 41 = .ok (.aload_n 0, 1) := by decide +kernel
theorem dX4_init_42 : decode cX4_init 42 = .ok (.getfield 25, 3) := by decide +kernel
theorem dX4_init_45 : decode cX4_init 45 = .ok (.ldc 32, 2) := by decide +kernel
theorem dX4_init_47 : decode cX4_init 47 = .ok (.invokestatic 33, 3) := by decide +kernel
theorem dX4_init_5 : decode cX4_init 5 = .ok (.bipush 12, 2) := by decide +kernel
theorem dX4_init_50 : decode cX4_init 50 = .ok (.return_, 1) := by decide +kernel
theorem dX4_init_7 : decode cX4_init 7 = .ok (.newarray .int, 2) := by decide +kernel
theorem dX4_init_9 : decode cX4_init 9 = .ok (.putfield 9, 3) := by decide +kernel
theorem dX9_init_0 : decode cX9_init 0 = .ok (.aload_n 0, 1) := by decide +kernel
theorem dX9_init_1 : decode cX9_init 1 = .ok (.invokespecial 3, 3) := by decide +kernel
theorem dX9_init_10 : decode cX9_init 10 = .ok (.bipush 12, 2) := by decide +kernel
theorem dX9_init_12 : decode cX9_init 12 = .ok (.newarray .int, 2) := by decide +kernel
theorem dX9_init_14 : decode cX9_init 14 = .ok (.putfield 15, 3) := by decide +kernel
theorem dX9_init_17 : decode cX9_init 17 = .ok (.aload_n 0, 1) := by decide +kernel
theorem dX9_init_18 : decode cX9_init 18 = .ok (.bipush 12, 2) := by decide +kernel
theorem dX9_init_20 : decode cX9_init 20 = .ok (.newarray .int, 2) := by decide +kernel
theorem dX9_init_22 : decode cX9_init 22 = .ok (.putfield 19, 3) := by decide +kernel
theorem dX9_init_25 : decode cX9_init 25 = .ok (.aload_n 0, 1) := by decide +kernel
theorem dX9_init_26 : decode cX9_init 26 = .ok (.iconst 5, 1) := by decide +kernel
theorem dX9_init_27 : decode cX9_init 27 = .ok (.newarray .int, 2) := by decide +kernel
theorem dX9_init_29 : decode cX9_init 29 = .ok (.putfield 22, 3) := by decide +kernel
theorem dX9_init_32 : decode cX9_init 32 = .ok (.aload_n 0, 1) := by decide +kernel
theorem dX9_init_33 : decode cX9_init 33 = .ok (.aload_n 1, 1) := by decide +kernel
theorem dX9_init_34 : decode cX9_init 34 = .ok (.putfield 25, 3) := by decide +kernel
theorem dX9_init_37 : decode cX9_init 37 = .ok (.return_, 1) := by decide +kernel
theorem dX9_init_4 : decode cX9_init 4 = .ok (.aload_n 0, 1) := by decide +kernel
theorem dX9_init_5 : decode cX9_init 5 = .ok (.iconst 0, 1) := by decide +kernel
theorem dX9_init_6 : decode cX9_init 6 = .ok (.putfield 9, 3) := by decide +kernel
theorem dX9_init_9 : decode cX9_init 9 = .ok (.aload_n 0, 1) := by decide +kernel
theorem dX8_init_0 : decode cX8_init 0 = .ok (.aload_n 0, 1) := by decide +kernel
theorem dX8_init_1 : decode cX8_init 1 = .ok (.invokespecial 3, 3) := by decide +kernel
theorem dX8_init_12 : decode cX8_init 12 = .ok (.aload_n 0, 1) := by decide +kernel
theorem dX8_init_13 : decode cX8_init 13 = .ok (.iconst 5, 1) := by decide +kernel
theorem dX8_init_14 : decode cX8_init 14 = .ok (.newarray .int, 2) := by decide +kernel
theorem dX8_init_16 : decode cX8_init 16 = .ok (.putfield 15, 3) := by decide +kernel
theorem dX8_init_19 : decode cX8_init 19 = .ok (.aload_n 0, 1) := by decide +kernel
theorem dX8_init_20 : decode cX8_init 20 = .ok (.aload_n 1, 1) := by decide +kernel
theorem dX8_init_21 : decode cX8_init 21 = .ok (.putfield 18, 3) := by decide +kernel
theorem dX8_init_24 : decode cX8_init 24 = .ok (.return_, 1) := by decide +kernel
theorem dX8_init_4 : decode cX8_init 4 = .ok (.aload_n 0, 1) := by decide +kernel
theorem dX8_init_5 : decode cX8_init 5 = .ok (.bipush 12, 2) := by decide +kernel
theorem dX8_init_7 : decode cX8_init 7 = .ok (.newarray .int, 2) := by decide +kernel
theorem dX8_init_9 : decode cX8_init 9 = .ok (.putfield 9, 3) := by decide +kernel
theorem dX0_init_0 : decode cX0_init 0 = .ok (.aload_n 0, 1) := by decide +kernel
theorem dX0_init_1 : decode cX0_init 1 = .ok (.invokespecial 1, 3) := by decide +kernel
theorem dX0_init_12 : decode cX0_init 12 = .ok (.aload_n 0, 1) := by decide +kernel
theorem dX0_init_13 : decode cX0_init 13 = .ok (.iconst 0, 1) := by decide +kernel
theorem dX0_init_14 : decode cX0_init 14 = .ok (.putfield 13, 3) := by decide +kernel
theorem dX0_init_17 : decode cX0_init 17 = .ok (.return_, 1) := by decide +kernel
theorem dX0_init_4 : decode cX0_init 4 = .ok (.aload_n 0, 1) := by decide +kernel
theorem dX0_init_5 : decode cX0_init 5 = .ok (.bipush 41, 2) := by decide +kernel
theorem dX0_init_7 : decode cX0_init 7 = .ok (.newarray .long, 2) := by decide +kernel
theorem dX0_init_9 : decode cX0_init 9 = .ok (.putfield 9, 3) := by decide +kernel
theorem dX11_init_0 : decode cX11_init 0 = .ok (.aload_n 0, 1) := by decide +kernel
theorem dX11_init_1 : decode cX11_init 1 = .ok (.invokespecial 1, 3) := by decide +kernel
theorem dX11_init_10 : decode cX11_init 10 = .ok (.putfield 9, 3) := by decide +kernel
theorem dX11_init_100 : decode cX11_init 100 = .ok (.putfield 59, 3) := by decide +kernel
theorem dX11_init_103 : decode cX11_init 103 = .ok (.aload_n 0, 1) := by decide +kernel
theorem dX11_init_104 : decode cX11_init 104 = .ok (.new 63, 3) := by decide +kernel
theorem dX11_init_107 : decode cX11_init 107 = .ok (.dup, 1) := by decide +kernel
theorem dX11_init_108 : decode cX11_init 108 = .ok (.invokespecial 65, 3) := by decide +kernel
theorem dX11_init_111 : decode cX11_init 111 = .ok (.putfield 66, 3) := by decide +kernel
theorem dX11_init_114 : decode cX11_init 114 = .ok (.aload_n 0, 1) := by decide +kernel
theorem dX11_init_115 : decode cX11_init 115 = .ok (.iconst 0, 1) := by decide +kernel
theorem dX11_init_116 : decode cX11_init 116 = .ok (.putfield 70, 3) := by decide +kernel
theorem dX11_init_119 : decode cX11_init 119 = .ok (.aload_n 0, 1) := by decide +kernel
theorem dX11_init_120 : decode cX11_init 120 = .ok (.iconst (-1), 1) := by decide +kernel
theorem dX11_init_121 : decode cX11_init 121 = .ok (.putfield 73, 3) := by decide +kernel
theorem dX11_init_124 : decode cX11_init 124 = .ok (.aload_n 0, 1) := by decide +kernel
theorem dX11_init_125 : decode cX11_init 125 = .ok (.lconst 1, 1) := by decide +kernel
theorem dX11_init_126 : decode cX11_init 126 = .ok (.putfield 76, 3) := by decide +kernel
theorem dX11_init_129 : decode cX11_init 129 = .ok (.aload_n 0, 1) := by decide +kernel
theorem dX11_init_13 : decode cX11_init 13 = .ok (.aload_n 0, 1) := by decide +kernel
theorem dX11_init_130 : decode cX11_init 130 = .ok (.bipush 14, 2) := by decide +kernel
theorem dX11_init_132 : decode cX11_init 132 = .ok (.newarray .int, 2) := by decide +kernel
theorem dX11_init_134 : decode cX11_init 134 = .ok (.putfield 80, 3) := by decide +kernel
theorem dX11_init_137 : decode cX11_init 137 = .ok (.aload_n 0, 1) := by decide +kernel
theorem dX11_init_138 : decode cX11_init 138 = .ok (.iconst 0, 1) := by decide +kernel
theorem dX11_init_139 : decode cX11_init 139 = .ok (.putfield 83, 3) := by decide +kernel
theorem dX11_init_14 : decode cX11_init 14 = .ok (.iconst 0, 1) := by decide +kernel
theorem dX11_init_142 : decode cX11_init 142 = .ok (.aload_n 0, 1) := by decide +kernel
theorem dX11_init_143 : decode cX11_init 143 = .ok (.bipush 6, 2) := by decide +kernel
theorem dX11_init_145 : decode cX11_init 145 = .ok (.newarray .int, 2) := by decide +kernel
theorem dX11_init_147 : decode cX11_init 147 = .ok (.putfield 86, 3) := by decide +kernel
theorem dX11_init_15 : decode cX11_init 15 = .ok (.putfield 13, 3) := by decide +kernel
theorem dX11_init_150 : decode cX11_init 150 = .ok (.return_, 1) := by decide +kernel
theorem dX11_init_18 : decode cX11_init 18 = .ok (.aload_n 0, 1) := by decide +kernel
theorem dX11_init_19 : decode cX11_init 19 = .ok (.new 17, 3) := by decide +kernel
theorem dX11_init_22 : decode cX11_init 22 = .ok (.dup, 1) := by decide +kernel
theorem dX11_init_23 : decode cX11_init 23 = .ok (.invokespecial 19, 3) := by decide +kernel
theorem dX11_init_26 : decode cX11_init 26 = .ok (.putfield 20, 3) := by decide +kernel
theorem dX11_init_29 : decode cX11_init 29 = .ok (.aload_n 0, 1) := by decide +kernel
theorem dX11_init_30 : decode cX11_init 30 = .ok (.new 24, 3) := by decide +kernel
theorem dX11_init_33 : decode cX11_init 33 = .ok (.dup, 1) := by decide +kernel
theorem dX11_init_34 : decode cX11_init 34 = .ok (.new 26, 3) := by decide +kernel
theorem dX11_init_37 : decode cX11_init 37 = .ok (.dup, 1) := by decide +kernel
theorem dX11_init_38 : decode cX11_init 38 = .ok (.aload_n 0, 1) := by decide +kernel
theorem dX11_init_39 : decode cX11_init 39 = .ok (.getfield 9, 3) := by decide +kernel
theorem dX11_init_4 : decode cX11_init 4 = .ok (.aload_n 0, 1) := by decide +kernel
theorem dX11_init_42 : decode cX11_init 42 = .ok (.invokespecial 28, 3) := by decide +kernel
theorem dX11_init_45 : decode cX11_init 45 = .ok (.aload_n 0, 1) := by decide +kernel
theorem dX11_init_46 : decode cX11_init 46 = .ok (.getfield 20, 3) := by decide +kernel
theorem dX11_init_49 : decode cX11_init 49 = .ok (.invokespecial 31, 3) := by decide +kernel
theorem dX11_init_5 : decode cX11_init 5 = .ok (.sipush 1800, 3) := by decide +kernel
theorem dX11_init_52 : decode cX11_init 52 = .ok (.putfield 34, 3) := by decide +kernel
theorem dX11_init_55 : decode cX11_init 55 = .ok (.aload_n 0, 1) := by decide +kernel
theorem dX11_init_56 : decode cX11_init 56 = .ok (.new 38, 3) := by decide +kernel
theorem dX11_init_59 : decode cX11_init 59 = .ok (.dup, 1) := by decide +kernel
theorem dX11_init_60 : decode cX11_init 60 = .ok (.new 17, 3) := by decide +kernel
theorem dX11_init_63 : decode cX11_init 63 = .ok (.dup, 1) := by decide +kernel
theorem dX11_init_64 : decode cX11_init 64 = .ok (.invokespecial 19, 3) := by decide +kernel
theorem dX11_init_67 : decode cX11_init 67 = .ok (.invokespecial 40, 3) := by decide +kernel
theorem dX11_init_70 : decode cX11_init 70 = .ok (.putfield 43, 3) := by decide +kernel
theorem dX11_init_73 : decode cX11_init 73 = .ok (.aload_n 0, 1) := by decide +kernel
theorem dX11_init_74 : decode cX11_init 74 = .ok (.new 47, 3) := by decide +kernel
theorem dX11_init_77 : decode cX11_init 77 = .ok (.dup, 1) := by decide +kernel
theorem dX11_init_78 : decode cX11_init 78 = .ok (.aload_n 0, 1) := by decide +kernel
theorem dX11_init_79 : decode cX11_init 79 = .ok (.getfield 43, 3) := by decide +kernel
theorem dX11_init_8 : decode cX11_init 8 = .ok (.newarray .int, 2) := by decide +kernel
theorem dX11_init_82 : decode cX11_init 82 = .ok (.invokespecial 49, 3) := by decide +kernel
theorem dX11_init_85 : decode cX11_init 85 = .ok (.putfield 52, 3) := by decide +kernel
theorem dX11_init_88 : decode cX11_init 88 = .ok (.aload_n 0, 1) := by decide +kernel
theorem dX11_init_89 : decode cX11_init 89 = .ok (.new 56, 3) := by decide +kernel
theorem dX11_init_92 : decode cX11_init 92 = .ok (.dup, 1) := by decide +kernel
theorem dX11_init_93 : decode cX11_init 93 = .ok (.aload_n 0, 1) := by decide +kernel
theorem dX11_init_94 : decode cX11_init 94 = .ok (.getfield 43, 3) := by decide +kernel
theorem dX11_init_97 : decode cX11_init 97 = .ok (.invokespecial 58, 3) := by decide +kernel
