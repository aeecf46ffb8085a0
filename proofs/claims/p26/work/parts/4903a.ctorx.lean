set_option maxRecDepth 100000 in
theorem fs_X0 : ∀ j, j < 2 → defaultValue (tyX0 j) = vp_V [.null, .int 0] j := by decide +kernel
set_option maxRecDepth 100000 in
theorem fs_X2 : ∀ j, j < 14 → defaultValue (tyX2 j) = vp_V [.null, .null, .null, .int 0, .null, .null, .null, .int 0, .null, .null, .null, .null, .null, .int 0] j := by decide +kernel
set_option maxRecDepth 100000 in
theorem fs_X4 : ∀ j, j < 6 → defaultValue (tyX4 j) = vp_V [.null, .null, .int 0, .int 0, .int 0, .null] j := by decide +kernel
set_option maxRecDepth 100000 in
theorem fs_X5 : ∀ j, j < 10 → defaultValue (tyX5 j) = vp_V [.null, .int 0, .int 0, .int 0, .int 0, .int 0, .int 0, .int 0, .int 0, .null] j := by decide +kernel
set_option maxRecDepth 100000 in
theorem fs_X8 : ∀ j, j < 3 → defaultValue (tyX8 j) = vp_V [.null, .null, .null] j := by decide +kernel
set_option maxRecDepth 100000 in
theorem fs_X9 : ∀ j, j < 5 → defaultValue (tyX9 j) = vp_V [.null, .int 0, .null, .null, .null] j := by decide +kernel
set_option maxRecDepth 100000 in
theorem fs_X10 : ∀ j, j < 4 → defaultValue (tyX10 j) = vp_V [.null, .null, .null, .int 0] j := by decide +kernel
theorem ini_X0 : Cond.initialized RX0 ∈ tb := tb_at 164 (by decide +kernel)
theorem ini_X10 : Cond.initialized RX10 ∈ tb := tb_at 153 (by decide +kernel)
theorem ini_X2 : Cond.initialized RX2 ∈ tb := tb_at 149 (by decide +kernel)
theorem ini_X4 : Cond.initialized RX4 ∈ tb := tb_at 160 (by decide +kernel)
theorem ini_X5 : Cond.initialized RX5 ∈ tb := tb_at 154 (by decide +kernel)
theorem ini_X8 : Cond.initialized RX8 ∈ tb := tb_at 163 (by decide +kernel)
theorem ini_X9 : Cond.initialized RX9 ∈ tb := tb_at 162 (by decide +kernel)
theorem it_X0 : Cond.instantiable RX0 2 ∈ tb := tb_at 648 (by decide +kernel)
theorem it_X10 : Cond.instantiable RX10 4 ∈ tb := tb_at 436 (by decide +kernel)
theorem it_X2 : Cond.instantiable RX2 14 ∈ tb := tb_at 178 (by decide +kernel)
theorem it_X4 : Cond.instantiable RX4 6 ∈ tb := tb_at 570 (by decide +kernel)
theorem it_X5 : Cond.instantiable RX5 10 ∈ tb := tb_at 438 (by decide +kernel)
theorem it_X8 : Cond.instantiable RX8 3 ∈ tb := tb_at 631 (by decide +kernel)
theorem it_X9 : Cond.instantiable RX9 5 ∈ tb := tb_at 608 (by decide +kernel)
theorem kmI_X0_init : KmI yX0_init cX0_init 1 0 := ⟨tb_at (w := Cond.code yX0_init cX0_init 1 none) 651 (by decide +kernel), tb_at (w := Cond.initialized RX0) 164 (by decide +kernel), tb_at (w := Cond.instanceMethod yX0_init) 650 (by decide +kernel), rfl, ⟨by decide +kernel, by decide +kernel, by decide +kernel⟩⟩
theorem kmI_X10_init : KmI yX10_init cX10_init 3 2 := ⟨tb_at (w := Cond.code yX10_init cX10_init 3 none) 539 (by decide +kernel), tb_at (w := Cond.initialized RX10) 153 (by decide +kernel), tb_at (w := Cond.instanceMethod yX10_init) 538 (by decide +kernel), rfl, ⟨by decide +kernel, by decide +kernel, by decide +kernel⟩⟩
theorem kmI_X2_init : KmI yX2_init cX2_init 1 0 := ⟨tb_at (w := Cond.code yX2_init cX2_init 1 none) 181 (by decide +kernel), tb_at (w := Cond.initialized RX2) 149 (by decide +kernel), tb_at (w := Cond.instanceMethod yX2_init) 180 (by decide +kernel), rfl, ⟨by decide +kernel, by decide +kernel, by decide +kernel⟩⟩
theorem kmI_X4_init : KmI yX4_init cX4_init 2 1 := ⟨tb_at (w := Cond.code yX4_init cX4_init 2 none) 573 (by decide +kernel), tb_at (w := Cond.initialized RX4) 160 (by decide +kernel), tb_at (w := Cond.instanceMethod yX4_init) 572 (by decide +kernel), rfl, ⟨by decide +kernel, by decide +kernel, by decide +kernel⟩⟩
theorem kmI_X5_init : KmI yX5_init cX5_init 2 1 := ⟨tb_at (w := Cond.code yX5_init cX5_init 2 none) 441 (by decide +kernel), tb_at (w := Cond.initialized RX5) 154 (by decide +kernel), tb_at (w := Cond.instanceMethod yX5_init) 440 (by decide +kernel), rfl, ⟨by decide +kernel, by decide +kernel, by decide +kernel⟩⟩
theorem kmI_X8_init : KmI yX8_init cX8_init 2 1 := ⟨tb_at (w := Cond.code yX8_init cX8_init 2 none) 634 (by decide +kernel), tb_at (w := Cond.initialized RX8) 163 (by decide +kernel), tb_at (w := Cond.instanceMethod yX8_init) 633 (by decide +kernel), rfl, ⟨by decide +kernel, by decide +kernel, by decide +kernel⟩⟩
theorem kmI_X9_init : KmI yX9_init cX9_init 2 1 := ⟨tb_at (w := Cond.code yX9_init cX9_init 2 none) 611 (by decide +kernel), tb_at (w := Cond.initialized RX9) 162 (by decide +kernel), tb_at (w := Cond.instanceMethod yX9_init) 610 (by decide +kernel), rfl, ⟨by decide +kernel, by decide +kernel, by decide +kernel⟩⟩
theorem lkX11_17 : Cond.classLink RX11 17 RX2 ∈ tb := tb_at 177 (by decide +kernel)
theorem lkX11_24 : Cond.classLink RX11 24 RX10 ∈ tb := tb_at 435 (by decide +kernel)
theorem lkX11_26 : Cond.classLink RX11 26 RX5 ∈ tb := tb_at 437 (by decide +kernel)
theorem lkX11_38 : Cond.classLink RX11 38 RX4 ∈ tb := tb_at 569 (by decide +kernel)
theorem lkX11_47 : Cond.classLink RX11 47 RX9 ∈ tb := tb_at 607 (by decide +kernel)
theorem lkX11_56 : Cond.classLink RX11 56 RX8 ∈ tb := tb_at 630 (by decide +kernel)
theorem lkX11_63 : Cond.classLink RX11 63 RX0 ∈ tb := tb_at 647 (by decide +kernel)
theorem mlX11_1 : Cond.methodLink RX11 1 objectInit ∈ tb := tb_at 174 (by decide +kernel)
theorem mlX11_28 : Cond.methodLink RX11 28 yX5_init ∈ tb := tb_at 439 (by decide +kernel)
theorem mlX11_31 : Cond.methodLink RX11 31 yX10_init ∈ tb := tb_at 537 (by decide +kernel)
theorem mlX11_40 : Cond.methodLink RX11 40 yX4_init ∈ tb := tb_at 571 (by decide +kernel)
theorem mlX11_49 : Cond.methodLink RX11 49 yX9_init ∈ tb := tb_at 609 (by decide +kernel)
theorem mlX11_58 : Cond.methodLink RX11 58 yX8_init ∈ tb := tb_at 632 (by decide +kernel)
theorem dX11_init_0 : decode cX11_init 0 = .ok (.aload_n 0, 1) := by decide +kernel
theorem dX11_init_1 : decode cX11_init 1 = .ok (.invokespecial 1, 3) := by decide +kernel
theorem dX11_init_10 : decode cX11_init 10 = .ok (.putfield 9, 3) := by decide +kernel
theorem dX11_init_100 : decode cX11_init 100 = .ok (.putfield 59, 3) := by decide +kernel
theorem dX11_init_103 : decode cX11_init 103 = .ok (.aload_n 0, 1) := by decide +kernel
theorem dX11_init_104 : decode cX11_init 104 = .ok (.new 63, 3) := by decide +kernel
theorem dX11_init_107 : decode cX11_init 107 = .ok (.dup, 1) := by decide +kernel
theorem dX11_init_108 : decode cX11_init 108 = .ok (.invokespecial 65, 3) := by decide +kernel
theorem dX11_init_111 : decode cX11_init 111 = .ok (.putfield 66, 3) := by decide +kernel
theorem dX11_init_114 : decode cX11_init 114 = .ok (.aload_n 0, 1) := by decide +kernel
theorem dX11_init_115 : decode cX11_init 115 = .ok (.iconst 0, 1) := by decide +kernel
theorem dX11_init_116 : decode cX11_init 116 = .ok (.putfield 70, 3) := by decide +kernel
theorem dX11_init_119 : decode cX11_init 119 = .ok (.aload_n 0, 1) := by decide +kernel
theorem dX11_init_120 : decode cX11_init 120 = .ok (.iconst (-1), 1) := by decide +kernel
theorem dX11_init_121 : decode cX11_init 121 = .ok (.putfield 73, 3) := by decide +kernel
theorem dX11_init_124 : decode cX11_init 124 = .ok (.aload_n 0, 1) := by decide +kernel
theorem dX11_init_125 : decode cX11_init 125 = .ok (.lconst 1, 1) := by decide +kernel
theorem dX11_init_126 : decode cX11_init 126 = .ok (.putfield 76, 3) := by decide +kernel
theorem dX11_init_129 : decode cX11_init 129 = .ok (.aload_n 0, 1) := by decide +kernel
theorem dX11_init_13 : decode cX11_init 13 = .ok (.aload_n 0, 1) := by decide +kernel
theorem dX11_init_130 : decode cX11_init 130 = .ok (.bipush 14, 2) := by decide +kernel
theorem dX11_init_132 : decode cX11_init 132 = .ok (.newarray .int, 2) := by decide +kernel
theorem dX11_init_134 : decode cX11_init 134 = .ok (.putfield 80, 3) := by decide +kernel
theorem dX11_init_137 : decode cX11_init 137 = .ok (.aload_n 0, 1) := by decide +kernel
theorem dX11_init_138 : decode cX11_init 138 = .ok (.iconst 0, 1) := by decide +kernel
theorem dX11_init_139 : decode cX11_init 139 = .ok (.putfield 83, 3) := by decide +kernel
theorem dX11_init_14 : decode cX11_init 14 = .ok (.iconst 0, 1) := by decide +kernel
theorem dX11_init_142 : decode cX11_init 142 = .ok (.aload_n 0, 1) := by decide +kernel
theorem dX11_init_143 : decode cX11_init 143 = .ok (.bipush 6, 2) := by decide +kernel
theorem dX11_init_145 : decode cX11_init 145 = .ok (.newarray .int, 2) := by decide +kernel
theorem dX11_init_147 : decode cX11_init 147 = .ok (.putfield 86, 3) := by decide +kernel
theorem dX11_init_15 : decode cX11_init 15 = .ok (.putfield 13, 3) := by decide +kernel
theorem dX11_init_150 : decode cX11_init 150 = .ok (.return_, 1) := by decide +kernel
theorem dX11_init_18 : decode cX11_init 18 = .ok (.aload_n 0, 1) := by decide +kernel
theorem dX11_init_19 : decode cX11_init 19 = .ok (.new 17, 3) := by decide +kernel
theorem dX11_init_22 : decode cX11_init 22 = .ok (.dup, 1) := by decide +kernel
theorem dX11_init_23 : decode cX11_init 23 = .ok (.invokespecial 19, 3) := by decide +kernel
theorem dX11_init_26 : decode cX11_init 26 = .ok (.putfield 20, 3) := by decide +kernel
theorem dX11_init_29 : decode cX11_init 29 = .ok (.aload_n 0, 1) := by decide +kernel
theorem dX11_init_30 : decode cX11_init 30 = .ok (.new 24, 3) := by decide +kernel
theorem dX11_init_33 : decode cX11_init 33 = .ok (.dup, 1) := by decide +kernel
theorem dX11_init_34 : decode cX11_init 34 = .ok (.new 26, 3) := by decide +kernel
theorem dX11_init_37 : decode cX11_init 37 = .ok (.dup, 1) := by decide +kernel
theorem dX11_init_38 : decode cX11_init 38 = .ok (.aload_n 0, 1) := by decide +kernel
theorem dX11_init_39 : decode cX11_init 39 = .ok (.getfield 9, 3) := by decide +kernel
theorem dX11_init_4 : decode cX11_init 4 = .ok (.aload_n 0, 1) := by decide +kernel
theorem dX11_init_42 : decode cX11_init 42 = .ok (.invokespecial 28, 3) := by decide +kernel
theorem dX11_init_45 : decode cX11_init 45 = .ok (.aload_n 0, 1) := by decide +kernel
theorem dX11_init_46 : decode cX11_init 46 = .ok (.getfield 20, 3) := by decide +kernel
theorem dX11_init_49 : decode cX11_init 49 = .ok (.invokespecial 31, 3) := by decide +kernel
theorem dX11_init_5 : decode cX11_init 5 = .ok (.sipush 1800, 3) := by decide +kernel
theorem dX11_init_52 : decode cX11_init 52 = .ok (.putfield 34, 3) := by decide +kernel
theorem dX11_init_55 : decode cX11_init 55 = .ok (.aload_n 0, 1) := by decide +kernel
theorem dX11_init_56 : decode cX11_init 56 = .ok (.new 38, 3) := by decide +kernel
theorem dX11_init_59 : decode cX11_init 59 = .ok (.dup, 1) := by decide +kernel
theorem dX11_init_60 : decode cX11_init 60 = .ok (.new 17, 3) := by decide +kernel
theorem dX11_init_63 : decode cX11_init 63 = .ok (.dup, 1) := by decide +kernel
theorem dX11_init_64 : decode cX11_init 64 = .ok (.invokespecial 19, 3) := by decide +kernel
theorem dX11_init_67 : decode cX11_init 67 = .ok (.invokespecial 40, 3) := by decide +kernel
theorem dX11_init_70 : decode cX11_init 70 = .ok (.putfield 43, 3) := by decide +kernel
theorem dX11_init_73 : decode cX11_init 73 = .ok (.aload_n 0, 1) := by decide +kernel
theorem dX11_init_74 : decode cX11_init 74 = .ok (.new 47, 3) := by decide +kernel
theorem dX11_init_77 : decode cX11_init 77 = .ok (.dup, 1) := by decide +kernel
theorem dX11_init_78 : decode cX11_init 78 = .ok (.aload_n 0, 1) := by decide +kernel
theorem dX11_init_79 : decode cX11_init 79 = .ok (.getfield 43, 3) := by decide +kernel
theorem dX11_init_8 : decode cX11_init 8 = .ok (.newarray .int, 2) := by decide +kernel
theorem dX11_init_82 : decode cX11_init 82 = .ok (.invokespecial 49, 3) := by decide +kernel
theorem dX11_init_85 : decode cX11_init 85 = .ok (.putfield 52, 3) := by decide +kernel
theorem dX11_init_88 : decode cX11_init 88 = .ok (.aload_n 0, 1) := by decide +kernel
theorem dX11_init_89 : decode cX11_init 89 = .ok (.new 56, 3) := by decide +kernel
theorem dX11_init_92 : decode cX11_init 92 = .ok (.dup, 1) := by decide +kernel
theorem dX11_init_93 : decode cX11_init 93 = .ok (.aload_n 0, 1) := by decide +kernel
theorem dX11_init_94 : decode cX11_init 94 = .ok (.getfield 43, 3) := by decide +kernel
theorem dX11_init_97 : decode cX11_init 97 = .ok (.invokespecial 58, 3) := by decide +kernel
