set_option maxRecDepth 100000 in
theorem inX0 : ∀ w ∈ u_ws RX0 TX0 2, w ∈ tb := fun w h => List.mem_filter.mpr ⟨(by decide +kernel : ∀ w ∈ u_ws RX0 TX0 2, w ∈ lw_tbl) w h, (by decide +kernel : ∀ w ∈ u_ws RX0 TX0 2, goodWord w = true) w h⟩
theorem clX0 : ClF 0 RX0 TX0 2 tyX0 := ⟨rfl, inX0, tyX0_ok, nmX0⟩
set_option maxRecDepth 100000 in
theorem inX1 : ∀ w ∈ u_ws RX1 TX1 8, w ∈ tb := fun w h => List.mem_filter.mpr ⟨(by decide +kernel : ∀ w ∈ u_ws RX1 TX1 8, w ∈ lw_tbl) w h, (by decide +kernel : ∀ w ∈ u_ws RX1 TX1 8, goodWord w = true) w h⟩
theorem clX1 : ClF 1 RX1 TX1 8 tyX1 := ⟨rfl, inX1, tyX1_ok, nmX1⟩
set_option maxRecDepth 100000 in
theorem inX2 : ∀ w ∈ u_ws RX2 TX2 14, w ∈ tb := fun w h => List.mem_filter.mpr ⟨(by decide +kernel : ∀ w ∈ u_ws RX2 TX2 14, w ∈ lw_tbl) w h, (by decide +kernel : ∀ w ∈ u_ws RX2 TX2 14, goodWord w = true) w h⟩
theorem clX2 : ClF 2 RX2 TX2 14 tyX2 := ⟨rfl, inX2, tyX2_ok, nmX2⟩
set_option maxRecDepth 100000 in
theorem inX3 : ∀ w ∈ u_ws RX3 TX3 11, w ∈ tb := fun w h => List.mem_filter.mpr ⟨(by decide +kernel : ∀ w ∈ u_ws RX3 TX3 11, w ∈ lw_tbl) w h, (by decide +kernel : ∀ w ∈ u_ws RX3 TX3 11, goodWord w = true) w h⟩
theorem clX3 : ClF 3 RX3 TX3 11 tyX3 := ⟨rfl, inX3, tyX3_ok, nmX3⟩
set_option maxRecDepth 100000 in
theorem inX4 : ∀ w ∈ u_ws RX4 TX4 6, w ∈ tb := fun w h => List.mem_filter.mpr ⟨(by decide +kernel : ∀ w ∈ u_ws RX4 TX4 6, w ∈ lw_tbl) w h, (by decide +kernel : ∀ w ∈ u_ws RX4 TX4 6, goodWord w = true) w h⟩
theorem clX4 : ClF 4 RX4 TX4 6 tyX4 := ⟨rfl, inX4, tyX4_ok, nmX4⟩
set_option maxRecDepth 100000 in
theorem inX5 : ∀ w ∈ u_ws RX5 TX5 10, w ∈ tb := fun w h => List.mem_filter.mpr ⟨(by decide +kernel : ∀ w ∈ u_ws RX5 TX5 10, w ∈ lw_tbl) w h, (by decide +kernel : ∀ w ∈ u_ws RX5 TX5 10, goodWord w = true) w h⟩
theorem clX5 : ClF 5 RX5 TX5 10 tyX5 := ⟨rfl, inX5, tyX5_ok, nmX5⟩
set_option maxRecDepth 100000 in
theorem inX6 : ∀ w ∈ u_ws RX6 TX6 2, w ∈ tb := fun w h => List.mem_filter.mpr ⟨(by decide +kernel : ∀ w ∈ u_ws RX6 TX6 2, w ∈ lw_tbl) w h, (by decide +kernel : ∀ w ∈ u_ws RX6 TX6 2, goodWord w = true) w h⟩
theorem clX6 : ClF 6 RX6 TX6 2 tyX6 := ⟨rfl, inX6, tyX6_ok, nmX6⟩
set_option maxRecDepth 100000 in
theorem inX7 : ∀ w ∈ u_ws RX7 TX7 8, w ∈ tb := fun w h => List.mem_filter.mpr ⟨(by decide +kernel : ∀ w ∈ u_ws RX7 TX7 8, w ∈ lw_tbl) w h, (by decide +kernel : ∀ w ∈ u_ws RX7 TX7 8, goodWord w = true) w h⟩
theorem clX7 : ClF 7 RX7 TX7 8 tyX7 := ⟨rfl, inX7, tyX7_ok, nmX7⟩
set_option maxRecDepth 100000 in
theorem inX8 : ∀ w ∈ u_ws RX8 TX8 3, w ∈ tb := fun w h => List.mem_filter.mpr ⟨(by decide +kernel : ∀ w ∈ u_ws RX8 TX8 3, w ∈ lw_tbl) w h, (by decide +kernel : ∀ w ∈ u_ws RX8 TX8 3, goodWord w = true) w h⟩
theorem clX8 : ClF 8 RX8 TX8 3 tyX8 := ⟨rfl, inX8, tyX8_ok, nmX8⟩
set_option maxRecDepth 100000 in
theorem inX9 : ∀ w ∈ u_ws RX9 TX9 5, w ∈ tb := fun w h => List.mem_filter.mpr ⟨(by decide +kernel : ∀ w ∈ u_ws RX9 TX9 5, w ∈ lw_tbl) w h, (by decide +kernel : ∀ w ∈ u_ws RX9 TX9 5, goodWord w = true) w h⟩
theorem clX9 : ClF 9 RX9 TX9 5 tyX9 := ⟨rfl, inX9, tyX9_ok, nmX9⟩
set_option maxRecDepth 100000 in
theorem inX10 : ∀ w ∈ u_ws RX10 TX10 4, w ∈ tb := fun w h => List.mem_filter.mpr ⟨(by decide +kernel : ∀ w ∈ u_ws RX10 TX10 4, w ∈ lw_tbl) w h, (by decide +kernel : ∀ w ∈ u_ws RX10 TX10 4, goodWord w = true) w h⟩
theorem clX10 : ClF 10 RX10 TX10 4 tyX10 := ⟨rfl, inX10, tyX10_ok, nmX10⟩
set_option maxRecDepth 100000 in
theorem inX11 : ∀ w ∈ u_ws RX11 TX11 14, w ∈ tb := fun w h => List.mem_filter.mpr ⟨(by decide +kernel : ∀ w ∈ u_ws RX11 TX11 14, w ∈ lw_tbl) w h, (by decide +kernel : ∀ w ∈ u_ws RX11 TX11 14, goodWord w = true) w h⟩
theorem clX11 : ClF 11 RX11 TX11 14 tyX11 := ⟨rfl, inX11, tyX11_ok, nmX11⟩
set_option maxRecDepth 100000 in
theorem inX12 : ∀ w ∈ u_ws RX12 TX12 70, w ∈ tb := fun w h => List.mem_filter.mpr ⟨(by decide +kernel : ∀ w ∈ u_ws RX12 TX12 70, w ∈ lw_tbl) w h, (by decide +kernel : ∀ w ∈ u_ws RX12 TX12 70, goodWord w = true) w h⟩
theorem clX12 : ClF 12 RX12 TX12 70 tyX12 := ⟨rfl, inX12, tyX12_ok, nmX12⟩
