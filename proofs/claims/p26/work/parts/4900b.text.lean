set_option maxHeartbeats 4000000 in
set_option maxRecDepth 100000 in
theorem k_J0_coder_7d493 (l : Launch) (G : Gx)   : CtI (S := Unit) l yJ0_coder_7d493 cJ0_coder_7d493 1 (some .byte) (rmD 1 0 0) G [.ref (sK G)] [] (fun r _ => r = 0) (fun _ => []) := by
  refine ctI_of (own := RJ0) (by decide +kernel) rfl (Nat.le_of_ble_eq_true rfl) ?_
  intro p e s m below meth c A ls F hr hlk hnm hK hP hD hA hS hl
  have hx := F.1
  have hb := F.2.1
  have hown := F.2.2.2.1
  have hl : lv_has ls 1 [(0, .ref (sK G))] := hl
  obtain ⟨sx1, sx2, sx3, sx4, ⟨b5, sx5⟩, sx6, fm, sx7⟩ := hK.2.2
  have sx2 := sx2.narrow hA.2
  have sx3 := sx3.narrow hA.2
  have sx4 := sx4.narrow hA.2
  have sx5 := sx5.narrow hA.2
  have sx6 := sx6.narrow hA.2
  have sx7 := sx7.narrow hA.2
  refine va_gets (v := .int 1) hx hb sx6 hS hown (F.2.2.2.2 _ flJ0_38) (fun _ h => h) dJ0_coder_7d493_0 ?_
  refine lv_if_eq (tgt := 13) hx hb dJ0_coder_7d493_3 (by decide) (fun h_ => absurd h_ (by decide +kernel)) (fun _ => ?_)
  refine lv_aload_n hx hb dJ0_coder_7d493_6 rfl (lv_at hl 0 rfl) ?_
  refine vk_getf (v := .int 0) hx hb sx3 hS hown (F.2.2.2.2 _ flJ0_15) (fun _ h => h) dJ0_coder_7d493_7 ?_
  refine lv_goto (tgt := 14) hx hb dJ0_coder_7d493_10 (by decide) ?_
  exact r_z F hr hlk hP hD hS () [] rfl rfl rfl dJ0_coder_7d493_14 (Nat.le_of_ble_eq_true rfl) (Nat.le_of_ble_eq_true rfl) (by decide)
set_option maxHeartbeats 4000000 in
set_option maxRecDepth 100000 in
theorem k_J0_isLatin1_aae02 (l : Launch) (G : Gx)   : CtI (S := Unit) l yJ0_isLatin1_aae02 cJ0_isLatin1_aae02 1 (some .boolean) (rmD 1 0 0) G [.ref (sK G)] [] (fun r _ => r = 1) (fun _ => []) := by
  refine ctI_of (own := RJ0) (by decide +kernel) rfl (Nat.le_of_ble_eq_true rfl) ?_
  intro p e s m below meth c A ls F hr hlk hnm hK hP hD hA hS hl
  have hx := F.1
  have hb := F.2.1
  have hown := F.2.2.2.1
  have hl : lv_has ls 1 [(0, .ref (sK G))] := hl
  obtain ⟨sx1, sx2, sx3, sx4, ⟨b5, sx5⟩, sx6, fm, sx7⟩ := hK.2.2
  have sx2 := sx2.narrow hA.2
  have sx3 := sx3.narrow hA.2
  have sx4 := sx4.narrow hA.2
  have sx5 := sx5.narrow hA.2
  have sx6 := sx6.narrow hA.2
  have sx7 := sx7.narrow hA.2
  refine va_gets (v := .int 1) hx hb sx6 hS hown (F.2.2.2.2 _ flJ0_38) (fun _ h => h) dJ0_isLatin1_aae02_0 ?_
  refine lv_if_eq (tgt := 17) hx hb dJ0_isLatin1_aae02_3 (by decide) (fun h_ => absurd h_ (by decide +kernel)) (fun _ => ?_)
  refine lv_aload_n hx hb dJ0_isLatin1_aae02_6 rfl (lv_at hl 0 rfl) ?_
  refine vk_getf (v := .int 0) hx hb sx3 hS hown (F.2.2.2.2 _ flJ0_15) (fun _ h => h) dJ0_isLatin1_aae02_7 ?_
  refine lv_if_ne (tgt := 17) hx hb dJ0_isLatin1_aae02_10 (by decide) (fun h_ => absurd (by decide +kernel) h_) (fun _ => ?_)
  refine lv_iconst (v := 1) hx hb dJ0_isLatin1_aae02_13 (by decide) ?_
  refine lv_goto (tgt := 18) hx hb dJ0_isLatin1_aae02_14 (by decide) ?_
  exact r_z F hr hlk hP hD hS () [] rfl rfl rfl dJ0_isLatin1_aae02_18 (Nat.le_of_ble_eq_true rfl) (Nat.le_of_ble_eq_true rfl) (by decide)
set_option maxHeartbeats 4000000 in
set_option maxRecDepth 100000 in
theorem k_J0_length_8abf5 (l : Launch) (G : Gx)   : CtI (S := Unit) l yJ0_length_8abf5 cJ0_length_8abf5 1 (some .int) (rmD 2 0 0) G [.ref (sK G)] [] (fun r _ => r = 162) (fun _ => []) := by
  refine ctI_of (own := RJ0) (by decide +kernel) rfl (Nat.le_of_ble_eq_true rfl) ?_
  intro p e s m below meth c A ls F hr hlk hnm hK hP hD hA hS hl
  have hx := F.1
  have hb := F.2.1
  have hown := F.2.2.2.1
  have hl : lv_has ls 1 [(0, .ref (sK G))] := hl
  obtain ⟨sx1, sx2, sx3, sx4, ⟨b5, sx5⟩, sx6, fm, sx7⟩ := hK.2.2
  have sx2 := sx2.narrow hA.2
  have sx3 := sx3.narrow hA.2
  have sx4 := sx4.narrow hA.2
  have sx5 := sx5.narrow hA.2
  have sx6 := sx6.narrow hA.2
  have sx7 := sx7.narrow hA.2
  refine lv_aload_n hx hb dJ0_length_8abf5_0 rfl (lv_at hl 0 rfl) ?_
  refine vk_getf (v := .ref (sV G)) hx hb sx4 hS hown (F.2.2.2.2 _ flJ0_9) (fun _ h => h) dJ0_length_8abf5_1 ?_
  refine va_tlen (v := 162) hx hb sx5 hS (by decide +kernel) dJ0_length_8abf5_4 ?_
  refine lv_aload_n hx hb dJ0_length_8abf5_5 rfl (lv_at hl 0 rfl) ?_
  refine cvT (wr := []) (As := []) (rest := [.int 162]) (b := (sK G)) (k1 := 0) (s1 := 0) F hK hP hD hS hA (k_J0_coder_7d493 l G ) kmV_J0_coder_7d493 mlJ0_335 (by obtain ⟨cell, g1, g2, g3, _⟩ := sx2.kept hS.2.1; exact ⟨cell, g1, g2, g3⟩) ⟨(Nat.le_of_ble_eq_true rfl), (Nat.le_of_ble_eq_true rfl)⟩ [] [] rfl rfl rfl rfl (by decide) hl.1 rfl (Nat.le_of_ble_eq_true rfl) dJ0_length_8abf5_6 ⟨(Nat.le_of_ble_eq_true rfl), (Nat.le_of_ble_eq_true rfl)⟩ rfl rfl (fun r2 u1 H locs hwr2 (hP : va_P G.1 vwCl [] H) (hD : va_D A []) hS => ?_)
  subst hwr2
  refine lv_ishr hx hb dJ0_length_8abf5_9 ?_
  refine cst_i (y := 162) (by decide +kernel) ?_
  exact r_i F hr hlk hP hD hS () [] rfl rfl rfl dJ0_length_8abf5_10 (Nat.le_of_ble_eq_true rfl) (Nat.le_of_ble_eq_true rfl)
set_option maxHeartbeats 4000000 in
set_option maxRecDepth 100000 in
theorem k_J3_checkIndex_n (l : Launch) (G : Gx) (k : Nat) (hk : k < 162) : CtI (S := Unit) l yJ3_checkIndex_8e157 cJ3_checkIndex_8e157 3 (some .int) (rmD 1 0 0) G [.int (nI k), .int 162, .null] [] (fun _ _ => True) (fun _ => []) := by
  refine ctI_of (own := RJ3) (by decide +kernel) rfl (Nat.le_of_ble_eq_true rfl) ?_
  intro p e s m below meth c A ls F hr hlk hnm hK hP hD hA hS hl
  have hx := F.1
  have hb := F.2.1
  have hown := F.2.2.2.1
  have hl : lv_has ls 3 [(0, .int (nI k)), (1, .int 162), (2, .null)] := hl
  refine lv_iload_n hx hb dJ3_checkIndex_8e157_0 rfl (lv_at hl 0 rfl) ?_
  refine lv_if_lt (tgt := 9) hx hb dJ3_checkIndex_8e157_1 (by decide) (fun h_ => absurd h_ (nI_pos (by omega))) (fun _ => ?_)
  refine lv_iload_n hx hb dJ3_checkIndex_8e157_4 rfl (lv_at hl 0 rfl) ?_
  refine lv_iload_n hx hb dJ3_checkIndex_8e157_5 rfl (lv_at hl 1 rfl) ?_
  refine lv_icmp_lt (tgt := 16) hx hb dJ3_checkIndex_8e157_6 (by decide) (fun _ => ?_) (fun h_ => absurd (nI_lt (a := k) (b := 162) hk (by decide)) h_)
  refine lv_iload_n hx hb dJ3_checkIndex_8e157_16 rfl (lv_at hl 0 rfl) ?_
  exact r_i F hr hlk hP hD hS () [] rfl rfl trivial dJ3_checkIndex_8e157_17 (Nat.le_of_ble_eq_true rfl) (Nat.le_of_ble_eq_true rfl)
set_option maxHeartbeats 4000000 in
set_option maxRecDepth 100000 in
theorem k_J3_checkIndex_r (l : Launch) (G : Gx) (k : Nat) (t3 : Nat) (hk : k < 162) : CtI (S := Unit) l yJ3_checkIndex_8e157 cJ3_checkIndex_8e157 3 (some .int) (rmD 1 0 0) G [.int (nI k), .int 162, .ref t3] [] (fun _ _ => True) (fun _ => []) := by
  refine ctI_of (own := RJ3) (by decide +kernel) rfl (Nat.le_of_ble_eq_true rfl) ?_
  intro p e s m below meth c A ls F hr hlk hnm hK hP hD hA hS hl
  have hx := F.1
  have hb := F.2.1
  have hown := F.2.2.2.1
  have hl : lv_has ls 3 [(0, .int (nI k)), (1, .int 162), (2, .ref t3)] := hl
  refine lv_iload_n hx hb dJ3_checkIndex_8e157_0 rfl (lv_at hl 0 rfl) ?_
  refine lv_if_lt (tgt := 9) hx hb dJ3_checkIndex_8e157_1 (by decide) (fun h_ => absurd h_ (nI_pos (by omega))) (fun _ => ?_)
  refine lv_iload_n hx hb dJ3_checkIndex_8e157_4 rfl (lv_at hl 0 rfl) ?_
  refine lv_iload_n hx hb dJ3_checkIndex_8e157_5 rfl (lv_at hl 1 rfl) ?_
  refine lv_icmp_lt (tgt := 16) hx hb dJ3_checkIndex_8e157_6 (by decide) (fun _ => ?_) (fun h_ => absurd (nI_lt (a := k) (b := 162) hk (by decide)) h_)
  refine lv_iload_n hx hb dJ3_checkIndex_8e157_16 rfl (lv_at hl 0 rfl) ?_
  exact r_i F hr hlk hP hD hS () [] rfl rfl trivial dJ3_checkIndex_8e157_17 (Nat.le_of_ble_eq_true rfl) (Nat.le_of_ble_eq_true rfl)
set_option maxHeartbeats 4000000 in
set_option maxRecDepth 100000 in
theorem k_J0_checkIndex_df160 (l : Launch) (G : Gx) (k : Nat) (hk : k < 162) : CtV (S := Unit) l yJ0_checkIndex_df160 cJ0_checkIndex_df160 2 none (rmD 2 0 0) G [.int (nI k), .int 162] [] (fun _ => True) (fun _ => []) := by
  refine ctV_of (own := RJ0) (by decide +kernel) rfl (Nat.le_of_ble_eq_true rfl) ?_
  intro p e s m below meth c A ls F hr hlk hnm hK hP hD hA hS hl
  have hx := F.1
  have hb := F.2.1
  have hown := F.2.2.2.1
  have hl : lv_has ls 2 [(0, .int (nI k)), (1, .int 162)] := hl
  obtain ⟨sx1, sx2, sx3, sx4, ⟨b5, sx5⟩, sx6, fm, sx7⟩ := hK.2.2
  have sx2 := sx2.narrow hA.2
  have sx3 := sx3.narrow hA.2
  have sx4 := sx4.narrow hA.2
  have sx5 := sx5.narrow hA.2
  have sx6 := sx6.narrow hA.2
  have sx7 := sx7.narrow hA.2
  refine lv_iload_n hx hb dJ0_checkIndex_df160_0 rfl (lv_at hl 0 rfl) ?_
  refine lv_iload_n hx hb dJ0_checkIndex_df160_1 rfl (lv_at hl 1 rfl) ?_
  rcases fm with _ | t3
  · refine va_gets (v := .null) hx hb sx7 hS hown (F.2.2.2.2 _ flJ0_1053) (fun _ h => h) dJ0_checkIndex_df160_2 ?_
    refine csi (wr := []) (As := [.int (nI k), .int 162, .null]) (rest := []) (k1 := 0) (s1 := 0) F hK hP hD hS hA (k_J3_checkIndex_n l G k hk) kmS_J3_checkIndex_8e157 mlJ0_1059 ⟨(Nat.le_of_ble_eq_true rfl), (Nat.le_of_ble_eq_true rfl)⟩ [] [] rfl rfl rfl rfl (by decide) hl.1 rfl (Nat.le_of_ble_eq_true rfl) dJ0_checkIndex_df160_5 ⟨(Nat.le_of_ble_eq_true rfl), (Nat.le_of_ble_eq_true rfl)⟩ rfl rfl (fun r2 u1 H locs hwr2 (hP : va_P G.1 vwCl [] H) (hD : va_D A []) hS => ?_)
    refine lv_pop hx hb dJ0_checkIndex_df160_8 rfl ?_
    exact r_v F hr hlk hP hD hS () [] rfl rfl trivial dJ0_checkIndex_df160_9 (Nat.le_of_ble_eq_true rfl) (Nat.le_of_ble_eq_true rfl)
  · refine va_gets (v := .ref t3) hx hb sx7 hS hown (F.2.2.2.2 _ flJ0_1053) (fun _ h => h) dJ0_checkIndex_df160_2 ?_
    refine csi (wr := []) (As := [.int (nI k), .int 162, .ref t3]) (rest := []) (k1 := 0) (s1 := 0) F hK hP hD hS hA (k_J3_checkIndex_r l G k t3 hk) kmS_J3_checkIndex_8e157 mlJ0_1059 ⟨(Nat.le_of_ble_eq_true rfl), (Nat.le_of_ble_eq_true rfl)⟩ [] [] rfl rfl rfl rfl (by decide) hl.1 rfl (Nat.le_of_ble_eq_true rfl) dJ0_checkIndex_df160_5 ⟨(Nat.le_of_ble_eq_true rfl), (Nat.le_of_ble_eq_true rfl)⟩ rfl rfl (fun r4 u3 H locs hwr4 (hP : va_P G.1 vwCl [] H) (hD : va_D A []) hS => ?_)
    refine lv_pop hx hb dJ0_checkIndex_df160_8 rfl ?_
    exact r_v F hr hlk hP hD hS () [] rfl rfl trivial dJ0_checkIndex_df160_9 (Nat.le_of_ble_eq_true rfl) (Nat.le_of_ble_eq_true rfl)
set_option maxHeartbeats 4000000 in
set_option maxRecDepth 100000 in
theorem k_J1_charAt_3b067 (l : Launch) (G : Gx) (k : Nat) (hk : k < 162) : CtI (S := Unit) l yJ1_charAt_3b067 cJ1_charAt_3b067 2 (some .char) (rmD 3 0 0) G [.ref (sV G), .int (nI k)] [] (fun r _ => narrow .char (.int r) = .int r) (fun _ => []) := by
  refine ctI_of (own := RJ1) (by decide +kernel) rfl (Nat.le_of_ble_eq_true rfl) ?_
  intro p e s m below meth c A ls F hr hlk hnm hK hP hD hA hS hl
  have hx := F.1
  have hb := F.2.1
  have hown := F.2.2.2.1
  have hl : lv_has ls 2 [(0, .ref (sV G)), (1, .int (nI k))] := hl
  obtain ⟨sx1, sx2, sx3, sx4, ⟨b5, sx5⟩, sx6, fm, sx7⟩ := hK.2.2
  have sx2 := sx2.narrow hA.2
  have sx3 := sx3.narrow hA.2
  have sx4 := sx4.narrow hA.2
  have sx5 := sx5.narrow hA.2
  have sx6 := sx6.narrow hA.2
  have sx7 := sx7.narrow hA.2
  refine lv_iload_n hx hb dJ1_charAt_3b067_0 rfl (lv_at hl 1 rfl) ?_
  refine lv_aload_n hx hb dJ1_charAt_3b067_1 rfl (lv_at hl 0 rfl) ?_
  refine va_tlen (v := 162) hx hb sx5 hS (by decide +kernel) dJ1_charAt_3b067_2 ?_
  refine csv (wr := []) (As := [.int (nI k), .int 162]) (rest := []) (k1 := 0) (s1 := 0) F hK hP hD hS hA (k_J0_checkIndex_df160 l G k hk) kmS_J0_checkIndex_df160 mlJ1_9 ⟨(Nat.le_of_ble_eq_true rfl), (Nat.le_of_ble_eq_true rfl)⟩ [] [] rfl rfl rfl rfl (by decide) hl.1 rfl (Nat.le_of_ble_eq_true rfl) dJ1_charAt_3b067_3 ⟨(Nat.le_of_ble_eq_true rfl), (Nat.le_of_ble_eq_true rfl)⟩ rfl rfl (fun u1 H locs hwr2 (hP : va_P G.1 vwCl [] H) (hD : va_D A []) hS => ?_)
  refine lv_aload_n hx hb dJ1_charAt_3b067_6 rfl (lv_at hl 0 rfl) ?_
  refine lv_iload_n hx hb dJ1_charAt_3b067_7 rfl (lv_at hl 1 rfl) ?_
  refine va_tb (v := .int (b5 k)) hx hb sx5 hS (vp_in_nI hk (by decide)) (by show Value.int (b5 (nI k).toNatClampNeg) = Value.int (b5 k); rw [nI_clamp (by omega)]) dJ1_charAt_3b067_8 ?_
  refine lv_sipush (v := 255) hx hb dJ1_charAt_3b067_9 (by decide) ?_
  refine lv_iand hx hb dJ1_charAt_3b067_12 ?_
  refine lv_topi (fun x3 ex3 => ?_)
  refine lv_i2c (v := (x3.toUInt32 % 65536).toInt32) hx hb dJ1_charAt_3b067_13 rfl ?_
  exact r_z F hr hlk hP hD hS () [] rfl rfl (pk_nc _) dJ1_charAt_3b067_14 (Nat.le_of_ble_eq_true rfl) (Nat.le_of_ble_eq_true rfl) (pk_nc _)
set_option maxHeartbeats 4000000 in
set_option maxRecDepth 100000 in
theorem k_J0_charAt_5068e (l : Launch) (G : Gx) (k : Nat) (hk : k < 162) : CtI (S := Unit) l yJ0_charAt_5068e cJ0_charAt_5068e 2 (some .char) (rmD 4 0 0) G [.ref (sK G), .int (nI k)] [] (fun r _ => narrow .char (.int r) = .int r) (fun _ => []) := by
  refine ctI_of (own := RJ0) (by decide +kernel) rfl (Nat.le_of_ble_eq_true rfl) ?_
  intro p e s m below meth c A ls F hr hlk hnm hK hP hD hA hS hl
  have hx := F.1
  have hb := F.2.1
  have hown := F.2.2.2.1
  have hl : lv_has ls 2 [(0, .ref (sK G)), (1, .int (nI k))] := hl
  obtain ⟨sx1, sx2, sx3, sx4, ⟨b5, sx5⟩, sx6, fm, sx7⟩ := hK.2.2
  have sx2 := sx2.narrow hA.2
  have sx3 := sx3.narrow hA.2
  have sx4 := sx4.narrow hA.2
  have sx5 := sx5.narrow hA.2
  have sx6 := sx6.narrow hA.2
  have sx7 := sx7.narrow hA.2
  refine lv_aload_n hx hb dJ0_charAt_5068e_0 rfl (lv_at hl 0 rfl) ?_
  refine cvT (wr := []) (As := []) (rest := []) (b := (sK G)) (k1 := 0) (s1 := 0) F hK hP hD hS hA (k_J0_isLatin1_aae02 l G ) kmV_J0_isLatin1_aae02 mlJ0_492 (by obtain ⟨cell, g1, g2, g3, _⟩ := sx2.kept hS.2.1; exact ⟨cell, g1, g2, g3⟩) ⟨(Nat.le_of_ble_eq_true rfl), (Nat.le_of_ble_eq_true rfl)⟩ [] [] rfl rfl rfl rfl (by decide) hl.1 rfl (Nat.le_of_ble_eq_true rfl) dJ0_charAt_5068e_1 ⟨(Nat.le_of_ble_eq_true rfl), (Nat.le_of_ble_eq_true rfl)⟩ rfl rfl (fun r2 u1 H locs hwr2 (hP : va_P G.1 vwCl [] H) (hD : va_D A []) hS => ?_)
  subst hwr2
  refine lv_if_eq (tgt := 16) hx hb dJ0_charAt_5068e_4 (by decide) (fun h_ => absurd h_ (by decide +kernel)) (fun _ => ?_)
  refine lv_aload_n hx hb dJ0_charAt_5068e_7 rfl (lv_at hl 0 rfl) ?_
  refine vk_getf (v := .ref (sV G)) hx hb sx4 hS hown (F.2.2.2.2 _ flJ0_9) (fun _ h => h) dJ0_charAt_5068e_8 ?_
  refine lv_iload_n hx hb dJ0_charAt_5068e_11 rfl (lv_at hl 1 rfl) ?_
  refine csi (wr := []) (As := [.ref (sV G), .int (nI k)]) (rest := []) (k1 := 0) (s1 := 0) F hK hP hD hS hA (k_J1_charAt_3b067 l G k hk) kmS_J1_charAt_3b067 mlJ0_495 ⟨(Nat.le_of_ble_eq_true rfl), (Nat.le_of_ble_eq_true rfl)⟩ [] [] rfl rfl rfl rfl (by decide) hl.1 rfl (Nat.le_of_ble_eq_true rfl) dJ0_charAt_5068e_12 ⟨(Nat.le_of_ble_eq_true rfl), (Nat.le_of_ble_eq_true rfl)⟩ rfl rfl (fun r4 u3 H locs hwr4 (hP : va_P G.1 vwCl [] H) (hD : va_D A []) hS => ?_)
  exact r_z F hr hlk hP hD hS () [] rfl rfl hwr4 dJ0_charAt_5068e_15 (Nat.le_of_ble_eq_true rfl) (Nat.le_of_ble_eq_true rfl) hwr4
set_option maxHeartbeats 4000000 in
set_option maxRecDepth 100000 in
theorem k_X5_withLetter (l : Launch) (G : Gx) (a : Int32) (b : Int32)  : CtI (S := Unit) l yX5_withLetter cX5_withLetter 2 (some .int) (rmD 1 0 0) G [.int a, .int b] [] (fun _ _ => True) (fun _ => []) := by
  refine ctI_of (own := RX5) (by decide +kernel) rfl (Nat.le_of_ble_eq_true rfl) ?_
  intro p e s m below meth c A ls F hr hlk hnm hK hP hD hA hS hl
  have hx := F.1
  have hb := F.2.1
  have hown := F.2.2.2.1
  have hl : lv_has ls 2 [(0, .int a), (1, .int b)] := hl
  refine lv_iload_n hx hb dX5_withLetter_0 rfl (lv_at hl 0 rfl) ?_
  refine lv_iconst (v := 5) hx hb dX5_withLetter_1 (by decide) ?_
  refine lv_ishl hx hb dX5_withLetter_2 ?_
  refine lv_topi (fun x1 ex1 => ?_)
  refine lv_iload_n hx hb dX5_withLetter_3 rfl (lv_at hl 1 rfl) ?_
  refine lv_bipush (v := 96) hx hb dX5_withLetter_4 (by decide) ?_
  refine lv_isub hx hb dX5_withLetter_6 ?_
  refine lv_topi (fun x2 ex2 => ?_)
  refine lv_ior hx hb dX5_withLetter_7 ?_
  refine lv_topi (fun x3 ex3 => ?_)
  exact r_i F hr hlk hP hD hS () [] rfl rfl trivial dX5_withLetter_8 (Nat.le_of_ble_eq_true rfl) (Nat.le_of_ble_eq_true rfl)
set_option maxHeartbeats 4000000 in
set_option maxRecDepth 100000 in
theorem lp_words {p : Program} {l : Launch} {e : Env} {R : Room} {s : State} {m : MethodId} {args : Array Value} {below : List Frame} {meth : Method} {c : Code} {A : Nat → Prop} {cells slots : Nat} {Q : State → Prop} (G : Gx) (rd : Nat) (rd_0 : Nat) (rd_9 : Nat)  (hRf : 8 ≤ R.frames) (hRl : 480 ≤ R.locals) (hRc : cells ≤ R.cells) (hRs : slots ≤ R.slots) (F : CallFix p m c cX5_listOwnWords 4 s args tb RX5) (hK : KX G s) (hA : HA G s A)
    (kx : ∀ (w : Nat) (f : Nat → Int32) (H : Heap) (locs : List Loc) (ls : Array Slot), True → va_P G.1 vwCl [(rd, .inr (5, [.ref rd_0, .int 0, .int 0, .int 0, .int 0, .int 0, .int (-1), .int 0, .int (-1), .ref rd_9])), (rd_9, .inl (G.2.1, 33, .inl f))] H → va_D A [(rd, .inr (5, [.ref rd_0, .int 0, .int 0, .int 0, .int 0, .int 0, .int (-1), .int 0, .int (-1), .ref rd_9])), (rd_9, .inl (G.2.1, 33, .inl f))] → va_S A s.heap H locs → lv_has ls 4 [(0, .ref rd)] → W p l e R s m args below meth c H locs cells slots Q (F0 m 60 ls [])) :
    ∀ (k : Nat) (w : Nat) (f : Nat → Int32) (i : Nat) (H : Heap) (locs : List Loc) (ls : Array Slot), i + k = 162 → (w ≤ i) → va_P G.1 vwCl [(rd, .inr (5, [.ref rd_0, .int 0, .int 0, .int 0, .int 0, .int 0, .int (-1), .int 0, .int (-1), .ref rd_9])), (rd_9, .inl (G.2.1, 33, .inl f))] H → va_D A [(rd, .inr (5, [.ref rd_0, .int 0, .int 0, .int 0, .int 0, .int 0, .int (-1), .int 0, .int (-1), .ref rd_9])), (rd_9, .inl (G.2.1, 33, .inl f))] → va_S A s.heap H locs → lv_has ls 4 [(2, .int (nI i)), (1, .int (nI w)), (0, .ref rd)] → W p l e R s m args below meth c H locs cells slots Q (F0 m 4 ls []) := by
  have hx := F.1
  have hb := F.2.1
  have hown := F.2.2.2.1
  intro k
  induction k with
  | zero =>
    intro w f i H locs ls hm hI hP hD hS hl
    obtain ⟨sx1, sx2, sx3, sx4, ⟨b5, sx5⟩, sx6, fm, sx7⟩ := hK.2.2
    have sx2 := sx2.narrow hA.2
    have sx3 := sx3.narrow hA.2
    have sx4 := sx4.narrow hA.2
    have sx5 := sx5.narrow hA.2
    have sx6 := sx6.narrow hA.2
    have sx7 := sx7.narrow hA.2
    refine lv_iload_n hx hb dX5_listOwnWords_4 rfl (lv_at hl 0 rfl) ?_
    refine va_ldcS (own := RX5) hx hb hown sx1 dX5_listOwnWords_5 ?_
    refine cvT (wr := [(rd, .inr (5, [.ref rd_0, .int 0, .int 0, .int 0, .int 0, .int 0, .int (-1), .int 0, .int (-1), .ref rd_9])), (rd_9, .inl (G.2.1, 33, .inl f))]) (As := []) (rest := [.int (nI i)]) (b := (sK G)) (k1 := cells) (s1 := slots) F hK hP hD hS hA (k_J0_length_8abf5 l G ) kmV_J0_length_8abf5 mlX5_48 (by obtain ⟨cell, g1, g2, g3, _⟩ := sx2.kept hS.2.1; exact ⟨cell, g1, g2, g3⟩) ⟨(Nat.le_trans (Nat.le_of_ble_eq_true rfl) hRf), (Nat.le_trans (Nat.le_of_ble_eq_true rfl) hRl)⟩ [] [0, 1] rfl rfl rfl rfl (by decide) hl.1 rfl (Nat.le_of_ble_eq_true rfl) dX5_listOwnWords_7 ⟨hRc, hRs⟩ rfl rfl (fun r2 u1 H locs hwr2 (hP : va_P G.1 vwCl [(rd, .inr (5, [.ref rd_0, .int 0, .int 0, .int 0, .int 0, .int 0, .int (-1), .int 0, .int (-1), .ref rd_9])), (rd_9, .inl (G.2.1, 33, .inl f))] H) (hD : va_D A [(rd, .inr (5, [.ref rd_0, .int 0, .int 0, .int 0, .int 0, .int 0, .int (-1), .int 0, .int (-1), .ref rd_9])), (rd_9, .inl (G.2.1, 33, .inl f))]) hS => ?_)
    subst hwr2
    refine lv_icmp_ge (tgt := 60) hx hb dX5_listOwnWords_10 (by decide) (fun _ => ?_) (fun h_ => absurd (nI_le (a := 162) (b := i) (by omega) (by omega)) h_)
    exact kx w f H locs ls trivial hP hD hS (lv_sub hl [2] rfl)
  | succ k ih =>
    intro w f i H locs ls hm hI hP hD hS hl
    obtain ⟨sx1, sx2, sx3, sx4, ⟨b5, sx5⟩, sx6, fm, sx7⟩ := hK.2.2
    have sx2 := sx2.narrow hA.2
    have sx3 := sx3.narrow hA.2
    have sx4 := sx4.narrow hA.2
    have sx5 := sx5.narrow hA.2
    have sx6 := sx6.narrow hA.2
    have sx7 := sx7.narrow hA.2
    refine lv_iload_n hx hb dX5_listOwnWords_4 rfl (lv_at hl 0 rfl) ?_
    refine va_ldcS (own := RX5) hx hb hown sx1 dX5_listOwnWords_5 ?_
    refine cvT (wr := [(rd, .inr (5, [.ref rd_0, .int 0, .int 0, .int 0, .int 0, .int 0, .int (-1), .int 0, .int (-1), .ref rd_9])), (rd_9, .inl (G.2.1, 33, .inl f))]) (As := []) (rest := [.int (nI i)]) (b := (sK G)) (k1 := cells) (s1 := slots) F hK hP hD hS hA (k_J0_length_8abf5 l G ) kmV_J0_length_8abf5 mlX5_48 (by obtain ⟨cell, g1, g2, g3, _⟩ := sx2.kept hS.2.1; exact ⟨cell, g1, g2, g3⟩) ⟨(Nat.le_trans (Nat.le_of_ble_eq_true rfl) hRf), (Nat.le_trans (Nat.le_of_ble_eq_true rfl) hRl)⟩ [] [0, 1] rfl rfl rfl rfl (by decide) hl.1 rfl (Nat.le_of_ble_eq_true rfl) dX5_listOwnWords_7 ⟨hRc, hRs⟩ rfl rfl (fun r2 u1 H locs hwr2 (hP : va_P G.1 vwCl [(rd, .inr (5, [.ref rd_0, .int 0, .int 0, .int 0, .int 0, .int 0, .int (-1), .int 0, .int (-1), .ref rd_9])), (rd_9, .inl (G.2.1, 33, .inl f))] H) (hD : va_D A [(rd, .inr (5, [.ref rd_0, .int 0, .int 0, .int 0, .int 0, .int 0, .int (-1), .int 0, .int (-1), .ref rd_9])), (rd_9, .inl (G.2.1, 33, .inl f))]) hS => ?_)
    subst hwr2
    refine lv_icmp_ge (tgt := 60) hx hb dX5_listOwnWords_10 (by decide) (fun h_ => absurd h_ (nI_ge (a := i) (b := 162) (by omega) (by decide))) (fun _ => ?_)
    refine va_ldcS (own := RX5) hx hb hown sx1 dX5_listOwnWords_13 ?_
    refine lv_iload_n hx hb dX5_listOwnWords_15 rfl (lv_at hl 0 rfl) ?_
    refine cvT (wr := [(rd, .inr (5, [.ref rd_0, .int 0, .int 0, .int 0, .int 0, .int 0, .int (-1), .int 0, .int (-1), .ref rd_9])), (rd_9, .inl (G.2.1, 33, .inl f))]) (As := [.int (nI i)]) (rest := []) (b := (sK G)) (k1 := cells) (s1 := slots) F hK hP hD hS hA (k_J0_charAt_5068e l G i (by omega)) kmV_J0_charAt_5068e mlX5_54 (by obtain ⟨cell, g1, g2, g3, _⟩ := sx2.kept hS.2.1; exact ⟨cell, g1, g2, g3⟩) ⟨(Nat.le_trans (Nat.le_of_ble_eq_true rfl) hRf), (Nat.le_trans (Nat.le_of_ble_eq_true rfl) hRl)⟩ [] [0, 1] rfl rfl rfl rfl (by decide) hl.1 rfl (Nat.le_of_ble_eq_true rfl) dX5_listOwnWords_16 ⟨hRc, hRs⟩ rfl rfl (fun r4 u3 H locs hwr4 (hP : va_P G.1 vwCl [(rd, .inr (5, [.ref rd_0, .int 0, .int 0, .int 0, .int 0, .int 0, .int (-1), .int 0, .int (-1), .ref rd_9])), (rd_9, .inl (G.2.1, 33, .inl f))] H) (hD : va_D A [(rd, .inr (5, [.ref rd_0, .int 0, .int 0, .int 0, .int 0, .int 0, .int (-1), .int 0, .int (-1), .ref rd_9])), (rd_9, .inl (G.2.1, 33, .inl f))]) hS => ?_)
    refine lv_istore_n (lv' := [(3, .int r4), (2, .int (nI i)), (1, .int (nI w)), (0, .ref rd)]) hx hb dX5_listOwnWords_19 rfl hl (by decide) rfl (fun ls hl => ?_)
    refine lv_iload_n hx hb dX5_listOwnWords_20 rfl (lv_at hl 0 rfl) ?_
    refine lv_bipush (v := 32) hx hb dX5_listOwnWords_21 (by decide) ?_
    refine lv_icmp_ne (tgt := 32) hx hb dX5_listOwnWords_23 (by decide) (fun c5 => ?_) (fun c5 => ?_)
    · refine lv_iload_n hx hb dX5_listOwnWords_32 rfl (lv_at hl 2 rfl) ?_
      refine lv_bipush (v := 33) hx hb dX5_listOwnWords_33 (by decide) ?_
      refine lv_icmp_ge (tgt := 54) hx hb dX5_listOwnWords_35 (by decide) (fun c6 => ?_) (fun c6 => ?_)
      · refine lv_iinc (v := (nI (i + 1))) (lv' := [(2, .int (nI (i + 1))), (3, .int r4), (1, .int (nI w)), (0, .ref rd)]) hx hb dX5_listOwnWords_54 hl (k := 1) rfl (nI_1 i) (by decide) rfl (fun ls hl => ?_)
        refine lv_goto (tgt := 4) hx hb dX5_listOwnWords_57 (by decide) ?_
        exact ih w f (i + 1) H locs ls (by omega) (by omega) hP hD hS (lv_sub hl [0, 2, 3] rfl)
      · refine lv_aload_n hx hb dX5_listOwnWords_38 rfl (lv_at hl 3 rfl) ?_
        refine g_get F hK hP 0 rfl clX5 9 (by decide) flX5_36 rfl dX5_listOwnWords_39 ?_
        refine lv_iload_n hx hb dX5_listOwnWords_42 rfl (lv_at hl 2 rfl) ?_
        refine lv_aload_n hx hb dX5_listOwnWords_43 rfl (lv_at hl 3 rfl) ?_
        refine g_get F hK hP 0 rfl clX5 9 (by decide) flX5_36 rfl dX5_listOwnWords_44 ?_
        refine lv_iload_n hx hb dX5_listOwnWords_47 rfl (lv_at hl 2 rfl) ?_
        refine g_iald (v := (f ((nI w)).toNatClampNeg)) F hK hP 1 rfl (w33 c6 (by omega)) dX5_listOwnWords_48 rfl ?_
        refine lv_iload_n hx hb dX5_listOwnWords_49 rfl (lv_at hl 0 rfl) ?_
        refine csi (wr := [(rd, .inr (5, [.ref rd_0, .int 0, .int 0, .int 0, .int 0, .int 0, .int (-1), .int 0, .int (-1), .ref rd_9])), (rd_9, .inl (G.2.1, 33, .inl f))]) (As := [.int (f ((nI w)).toNatClampNeg), .int r4]) (rest := [.int (nI w), .ref rd_9]) (k1 := cells) (s1 := slots) F hK hP hD hS hA (k_X5_withLetter l G (f ((nI w)).toNatClampNeg) r4) kmS_X5_withLetter mlX5_58 ⟨(Nat.le_trans (Nat.le_of_ble_eq_true rfl) hRf), (Nat.le_trans (Nat.le_of_ble_eq_true rfl) hRl)⟩ [] [0, 1] rfl rfl rfl rfl (by decide) hl.1 rfl (Nat.le_of_ble_eq_true rfl) dX5_listOwnWords_50 ⟨hRc, hRs⟩ rfl rfl (fun r8 u7 H locs hwr8 (hP : va_P G.1 vwCl [(rd, .inr (5, [.ref rd_0, .int 0, .int 0, .int 0, .int 0, .int 0, .int (-1), .int 0, .int (-1), .ref rd_9])), (rd_9, .inl (G.2.1, 33, .inl f))] H) (hD : va_D A [(rd, .inr (5, [.ref rd_0, .int 0, .int 0, .int 0, .int 0, .int 0, .int (-1), .int 0, .int (-1), .ref rd_9])), (rd_9, .inl (G.2.1, 33, .inl f))]) hS => ?_)
        refine g_iast F hK hP hD hS 1 rfl (w33 c6 (by omega)) dX5_listOwnWords_53 (fun f_ => [(rd, .inr (5, [.ref rd_0, .int 0, .int 0, .int 0, .int 0, .int 0, .int (-1), .int 0, .int (-1), .ref rd_9])), (rd_9, .inl (G.2.1, 33, .inl f_))]) (fun _ => rfl) (fun f9 H locs ef9 (hP : va_P G.1 vwCl [(rd, .inr (5, [.ref rd_0, .int 0, .int 0, .int 0, .int 0, .int 0, .int (-1), .int 0, .int (-1), .ref rd_9])), (rd_9, .inl (G.2.1, 33, .inl f9))] H) (hD : va_D A [(rd, .inr (5, [.ref rd_0, .int 0, .int 0, .int 0, .int 0, .int 0, .int (-1), .int 0, .int (-1), .ref rd_9])), (rd_9, .inl (G.2.1, 33, .inl f9))]) hS => ?_)
        refine lv_iinc (v := (nI (i + 1))) (lv' := [(2, .int (nI (i + 1))), (3, .int r4), (1, .int (nI w)), (0, .ref rd)]) hx hb dX5_listOwnWords_54 hl (k := 1) rfl (nI_1 i) (by decide) rfl (fun ls hl => ?_)
        refine lv_goto (tgt := 4) hx hb dX5_listOwnWords_57 (by decide) ?_
        exact ih w f9 (i + 1) H locs ls (by omega) (by omega) hP hD hS (lv_sub hl [0, 2, 3] rfl)
    · refine lv_iinc (v := (nI (w + 1))) (lv' := [(1, .int (nI (w + 1))), (3, .int r4), (2, .int (nI i)), (0, .ref rd)]) hx hb dX5_listOwnWords_26 hl (k := 2) rfl (nI_1 w) (by decide) rfl (fun ls hl => ?_)
      refine lv_goto (tgt := 54) hx hb dX5_listOwnWords_29 (by decide) ?_
      refine lv_iinc (v := (nI (i + 1))) (lv' := [(2, .int (nI (i + 1))), (1, .int (nI (w + 1))), (3, .int r4), (0, .ref rd)]) hx hb dX5_listOwnWords_54 hl (k := 2) rfl (nI_1 i) (by decide) rfl (fun ls hl => ?_)
      refine lv_goto (tgt := 4) hx hb dX5_listOwnWords_57 (by decide) ?_
      exact ih (w + 1) f (i + 1) H locs ls (by omega) (by omega) hP hD hS (lv_sub hl [0, 1, 3] rfl)
set_option maxHeartbeats 4000000 in
set_option maxRecDepth 100000 in
theorem k_X5_listOwnWords (l : Launch) (G : Gx) (rd : Nat) (rd_0 : Nat) (rd_9 : Nat) (f : Nat → Int32)  : CtV (S := Unit) l yX5_listOwnWords cX5_listOwnWords 4 none (rmD 9 0 0) G [.ref rd] [(rd, .inr (5, [.ref rd_0, .int 0, .int 0, .int 0, .int 0, .int 0, .int (-1), .int 0, .int (-1), .ref rd_9])), (rd_9, .inl (G.2.1, 33, .inl f))] (fun _ => True) (fun _ => [(rd, .inr (5, [.ref rd_0, .int 0, .int 0, .int 0, .int 0, .int 0, .int (-1), .int 0, .int (-1), .ref rd_9]))]) := by
  refine ctV_of (own := RX5) (by decide +kernel) rfl (Nat.le_of_ble_eq_true rfl) ?_
  intro p e s m below meth c A ls F hr hlk hnm hK hP hD hA hS hl
  have hx := F.1
  have hb := F.2.1
  have hown := F.2.2.2.1
  have hl : lv_has ls 4 [(0, .ref rd)] := hl
  refine lv_iconst (v := 0) hx hb dX5_listOwnWords_0 (by decide) ?_
  refine lv_istore_n (lv' := [(1, .int 0), (0, .ref rd)]) hx hb dX5_listOwnWords_1 rfl hl (by decide) rfl (fun ls hl => ?_)
  refine lv_iconst (v := 0) hx hb dX5_listOwnWords_2 (by decide) ?_
  refine lv_istore_n (lv' := [(2, .int 0), (1, .int 0), (0, .ref rd)]) hx hb dX5_listOwnWords_3 rfl hl (by decide) rfl (fun ls hl => ?_)
  refine lp_words G rd rd_0 rd_9  (by exact Nat.le_of_ble_eq_true rfl) (by exact Nat.le_of_ble_eq_true rfl) (by exact Nat.le_of_ble_eq_true rfl) (by exact Nat.le_of_ble_eq_true rfl) F hK hA (fun v1 v2 H locs ls hI3 hP hD hS hl => ?_) 162 0 f 0 _ _ _ (by omega) (Nat.le_refl _) hP hD hS (lv_sub hl [0, 1, 2] rfl)
  exact r_v F hr hlk hP hD hS () [0] rfl rfl trivial dX5_listOwnWords_60 (Nat.le_of_ble_eq_true rfl) (Nat.le_of_ble_eq_true rfl)
