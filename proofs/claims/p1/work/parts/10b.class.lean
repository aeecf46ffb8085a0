set_option maxHeartbeats 4000000 in
set_option maxRecDepth 100000 in
theorem k_X11_isBelow (l : Launch) (G : Gx) (a : Int32) (b : Int32)  : CtI (S := Unit) l yX11_isBelow cX11_isBelow 2 (some .boolean) (rmD 1 0 0) G [.int a, .int b] [] (fun r _ => r = isB a b) (fun _ => []) := by
  refine ctI_of (own := RX11) (by decide +kernel) rfl (Nat.le_of_ble_eq_true rfl) ?_
  intro p e s m below meth c A ls F hr hlk hnm hK hP hD hA hS hl
  have hx := F.1
  have hb := F.2.1
  have hown := F.2.2.2.1
  have hl : lv_has ls 2 [(0, .int a), (1, .int b)] := hl
  refine lv_iload_n hx hb dX11_isBelow_0 rfl (lv_at hl 0 rfl) ?_
  refine lv_if_lt (tgt := 13) hx hb dX11_isBelow_1 (by decide) (fun c1 => ?_) (fun c1 => ?_)
  · refine lv_iconst (v := 0) hx hb dX11_isBelow_13 (by decide) ?_
    exact r_z F hr hlk hP hD hS () [] rfl rfl (by simp [isB, c1]) dX11_isBelow_14 (Nat.le_of_ble_eq_true rfl) (Nat.le_of_ble_eq_true rfl) (by decide)
  · refine lv_iload_n hx hb dX11_isBelow_4 rfl (lv_at hl 0 rfl) ?_
    refine lv_iload_n hx hb dX11_isBelow_5 rfl (lv_at hl 1 rfl) ?_
    refine lv_icmp_ge (tgt := 13) hx hb dX11_isBelow_6 (by decide) (fun c2 => ?_) (fun c2 => ?_)
    · refine lv_iconst (v := 0) hx hb dX11_isBelow_13 (by decide) ?_
      exact r_z F hr hlk hP hD hS () [] rfl rfl (by simp [isB, c1, c2]) dX11_isBelow_14 (Nat.le_of_ble_eq_true rfl) (Nat.le_of_ble_eq_true rfl) (by decide)
    · refine lv_iconst (v := 1) hx hb dX11_isBelow_9 (by decide) ?_
      refine lv_goto (tgt := 14) hx hb dX11_isBelow_10 (by decide) ?_
      exact r_z F hr hlk hP hD hS () [] rfl rfl (by simp [isB, c1, c2]) dX11_isBelow_14 (Nat.le_of_ble_eq_true rfl) (Nat.le_of_ble_eq_true rfl) (by decide)
set_option maxHeartbeats 4000000 in
set_option maxRecDepth 100000 in
theorem k_X11_isDay (l : Launch) (G : Gx) (a : Int32)  : CtI (S := Unit) l yX11_isDay cX11_isDay 1 (some .boolean) (rmD 2 0 0) G [.int a] [] (fun r _ => r = isB a 5) (fun _ => []) := by
  refine ctI_of (own := RX11) (by decide +kernel) rfl (Nat.le_of_ble_eq_true rfl) ?_
  intro p e s m below meth c A ls F hr hlk hnm hK hP hD hA hS hl
  have hx := F.1
  have hb := F.2.1
  have hown := F.2.2.2.1
  have hl : lv_has ls 1 [(0, .int a)] := hl
  refine lv_iload_n hx hb dX11_isDay_0 rfl (lv_at hl 0 rfl) ?_
  refine lv_iconst (v := 5) hx hb dX11_isDay_1 (by decide) ?_
  refine csi (wr := []) (As := [.int a, .int 5]) (rest := []) (k1 := 0) (s1 := 0) F hK hP hD hS hA (k_X11_isBelow l G a 5) kmS_X11_isBelow mlX11_169 ⟨(Nat.le_of_ble_eq_true rfl), (Nat.le_of_ble_eq_true rfl)⟩ [] [] rfl rfl rfl rfl (by decide) hl.1 rfl (Nat.le_of_ble_eq_true rfl) dX11_isDay_2 ⟨(Nat.le_of_ble_eq_true rfl), (Nat.le_of_ble_eq_true rfl)⟩ rfl rfl (fun r2 u1 H locs hwr2 (hP : va_P G.1 vwCl [] H) (hD : va_D A []) hS => ?_)
  subst hwr2
  exact r_z F hr hlk hP hD hS () [] rfl rfl rfl dX11_isDay_5 (Nat.le_of_ble_eq_true rfl) (Nat.le_of_ble_eq_true rfl) (nar_isB _ _)
set_option maxHeartbeats 4000000 in
set_option maxRecDepth 100000 in
theorem k_X11_isPart (l : Launch) (G : Gx) (a : Int32)  : CtI (S := Unit) l yX11_isPart cX11_isPart 1 (some .boolean) (rmD 1 0 0) G [.int a] [] (fun r _ => r = isP a) (fun _ => []) := by
  refine ctI_of (own := RX11) (by decide +kernel) rfl (Nat.le_of_ble_eq_true rfl) ?_
  intro p e s m below meth c A ls F hr hlk hnm hK hP hD hA hS hl
  have hx := F.1
  have hb := F.2.1
  have hown := F.2.2.2.1
  have hl : lv_has ls 1 [(0, .int a)] := hl
  refine lv_iload_n hx hb dX11_isPart_0 rfl (lv_at hl 0 rfl) ?_
  refine lv_if_lt (tgt := 14) hx hb dX11_isPart_1 (by decide) (fun c1 => ?_) (fun c1 => ?_)
  · refine lv_iconst (v := 0) hx hb dX11_isPart_14 (by decide) ?_
    exact r_z F hr hlk hP hD hS () [] rfl rfl (by simp [isP, c1]) dX11_isPart_15 (Nat.le_of_ble_eq_true rfl) (Nat.le_of_ble_eq_true rfl) (by decide)
  · refine lv_iload_n hx hb dX11_isPart_4 rfl (lv_at hl 0 rfl) ?_
    refine lv_bipush (v := 100) hx hb dX11_isPart_5 (by decide) ?_
    refine lv_icmp_gt (tgt := 14) hx hb dX11_isPart_7 (by decide) (fun c2 => ?_) (fun c2 => ?_)
    · refine lv_iconst (v := 0) hx hb dX11_isPart_14 (by decide) ?_
      exact r_z F hr hlk hP hD hS () [] rfl rfl (by simp [isP, c1, c2]) dX11_isPart_15 (Nat.le_of_ble_eq_true rfl) (Nat.le_of_ble_eq_true rfl) (by decide)
    · refine lv_iconst (v := 1) hx hb dX11_isPart_10 (by decide) ?_
      refine lv_goto (tgt := 15) hx hb dX11_isPart_11 (by decide) ?_
      exact r_z F hr hlk hP hD hS () [] rfl rfl (by simp [isP, c1, c2]) dX11_isPart_15 (Nat.le_of_ble_eq_true rfl) (Nat.le_of_ble_eq_true rfl) (by decide)
set_option maxHeartbeats 4000000 in
set_option maxRecDepth 100000 in
theorem k_X11_isPerson (l : Launch) (G : Gx) (x : Nat) (a : Int32) (x_0 : Nat) (sp : Nat) (stm : Nat) (pl : Nat) (sk : Nat) (se : Nat) (ch : Nat) (x_11 : Nat) (x_13 : Nat) (ho : Nat) (pl_1 : Nat) (pl_5 : Nat) (fl : Nat) (pe : Nat) (ru : Nat) (ho_4 : Nat) (ho_5 : Nat) (ho_6 : Nat) (ho_8 : Nat) (ho_9 : Nat) (ho_10 : Nat) (ho_11 : Nat) (ho_12 : Nat) (pe_1 : Nat) (pe_2 : Nat) (pe_3 : Nat) (pe_4 : Nat) (pe_5 : Nat) (pe_6 : Nat) (pe_7 : Nat) (pe_8 : Nat) (pe_9 : Nat) (pe_10 : Nat)  : CtI (S := Unit) l yX11_isPerson cX11_isPerson 2 (some .boolean) (rmD 2 0 0) G [.ref x, .int a] [(x, .inr (11, [.ref x_0, .int 0, .ref sp, .ref stm, .ref pl, .ref sk, .ref se, .ref ch, .int 0, .int (-1), .long 1, .ref x_11, .int 0, .ref x_13])), (pl, .inr (4, [.ref ho, .ref pl_1, .int 0, .int (-1), .int (-1), .ref pl_5])), (ho, .inr (2, [.ref fl, .ref pe, .ref ru, .int 0, .ref ho_4, .ref ho_5, .ref ho_6, .int 0, .ref ho_8, .ref ho_9, .ref ho_10, .ref ho_11, .ref ho_12, .int 50])), (pe, .inr (3, [.int 0, .ref pe_1, .ref pe_2, .ref pe_3, .ref pe_4, .ref pe_5, .ref pe_6, .ref pe_7, .ref pe_8, .ref pe_9, .ref pe_10]))] (fun r _ => r = 0) (fun _ => [(x, .inr (11, [.ref x_0, .int 0, .ref sp, .ref stm, .ref pl, .ref sk, .ref se, .ref ch, .int 0, .int (-1), .long 1, .ref x_11, .int 0, .ref x_13])), (pl, .inr (4, [.ref ho, .ref pl_1, .int 0, .int (-1), .int (-1), .ref pl_5])), (ho, .inr (2, [.ref fl, .ref pe, .ref ru, .int 0, .ref ho_4, .ref ho_5, .ref ho_6, .int 0, .ref ho_8, .ref ho_9, .ref ho_10, .ref ho_11, .ref ho_12, .int 50])), (pe, .inr (3, [.int 0, .ref pe_1, .ref pe_2, .ref pe_3, .ref pe_4, .ref pe_5, .ref pe_6, .ref pe_7, .ref pe_8, .ref pe_9, .ref pe_10]))]) := by
  refine ctI_of (own := RX11) (by decide +kernel) rfl (Nat.le_of_ble_eq_true rfl) ?_
  intro p e s m below meth c A ls F hr hlk hnm hK hP hD hA hS hl
  have hx := F.1
  have hb := F.2.1
  have hown := F.2.2.2.1
  have hl : lv_has ls 2 [(0, .ref x), (1, .int a)] := hl
  refine lv_iload_n hx hb dX11_isPerson_0 rfl (lv_at hl 1 rfl) ?_
  refine lv_aload_n hx hb dX11_isPerson_1 rfl (lv_at hl 0 rfl) ?_
  refine g_get F hK hP 0 rfl clX11 4 (by decide) flX11_43 rfl dX11_isPerson_2 ?_
  refine g_get F hK hP 1 rfl clX4 0 (by decide) flX11_121 rfl dX11_isPerson_5 ?_
  refine g_get F hK hP 2 rfl clX2 1 (by decide) flX11_139 rfl dX11_isPerson_8 ?_
  refine g_get F hK hP 3 rfl clX3 0 (by decide) flX11_143 rfl dX11_isPerson_11 ?_
  refine csi (wr := [(x, .inr (11, [.ref x_0, .int 0, .ref sp, .ref stm, .ref pl, .ref sk, .ref se, .ref ch, .int 0, .int (-1), .long 1, .ref x_11, .int 0, .ref x_13])), (pl, .inr (4, [.ref ho, .ref pl_1, .int 0, .int (-1), .int (-1), .ref pl_5])), (ho, .inr (2, [.ref fl, .ref pe, .ref ru, .int 0, .ref ho_4, .ref ho_5, .ref ho_6, .int 0, .ref ho_8, .ref ho_9, .ref ho_10, .ref ho_11, .ref ho_12, .int 50])), (pe, .inr (3, [.int 0, .ref pe_1, .ref pe_2, .ref pe_3, .ref pe_4, .ref pe_5, .ref pe_6, .ref pe_7, .ref pe_8, .ref pe_9, .ref pe_10]))]) (As := [.int a, .int 0]) (rest := []) (k1 := 0) (s1 := 0) F hK hP hD hS hA (k_X11_isBelow l G a 0) kmS_X11_isBelow mlX11_169 ⟨(Nat.le_of_ble_eq_true rfl), (Nat.le_of_ble_eq_true rfl)⟩ [] [0, 1, 2, 3] rfl rfl rfl rfl (by decide) hl.1 rfl (Nat.le_of_ble_eq_true rfl) dX11_isPerson_14 ⟨(Nat.le_of_ble_eq_true rfl), (Nat.le_of_ble_eq_true rfl)⟩ rfl rfl (fun r2 u1 H locs hwr2 (hP : va_P G.1 vwCl [(x, .inr (11, [.ref x_0, .int 0, .ref sp, .ref stm, .ref pl, .ref sk, .ref se, .ref ch, .int 0, .int (-1), .long 1, .ref x_11, .int 0, .ref x_13])), (pl, .inr (4, [.ref ho, .ref pl_1, .int 0, .int (-1), .int (-1), .ref pl_5])), (ho, .inr (2, [.ref fl, .ref pe, .ref ru, .int 0, .ref ho_4, .ref ho_5, .ref ho_6, .int 0, .ref ho_8, .ref ho_9, .ref ho_10, .ref ho_11, .ref ho_12, .int 50])), (pe, .inr (3, [.int 0, .ref pe_1, .ref pe_2, .ref pe_3, .ref pe_4, .ref pe_5, .ref pe_6, .ref pe_7, .ref pe_8, .ref pe_9, .ref pe_10]))] H) (hD : va_D A [(x, .inr (11, [.ref x_0, .int 0, .ref sp, .ref stm, .ref pl, .ref sk, .ref se, .ref ch, .int 0, .int (-1), .long 1, .ref x_11, .int 0, .ref x_13])), (pl, .inr (4, [.ref ho, .ref pl_1, .int 0, .int (-1), .int (-1), .ref pl_5])), (ho, .inr (2, [.ref fl, .ref pe, .ref ru, .int 0, .ref ho_4, .ref ho_5, .ref ho_6, .int 0, .ref ho_8, .ref ho_9, .ref ho_10, .ref ho_11, .ref ho_12, .int 50])), (pe, .inr (3, [.int 0, .ref pe_1, .ref pe_2, .ref pe_3, .ref pe_4, .ref pe_5, .ref pe_6, .ref pe_7, .ref pe_8, .ref pe_9, .ref pe_10]))]) hS => ?_)
  subst hwr2
  refine cst_i (y := 0) (isB_0 _) ?_
  exact r_z F hr hlk hP hD hS () [0, 1, 2, 3] rfl rfl rfl dX11_isPerson_17 (Nat.le_of_ble_eq_true rfl) (Nat.le_of_ble_eq_true rfl) (by decide)
set_option maxHeartbeats 4000000 in
set_option maxRecDepth 100000 in
theorem k_X11_areTwo (l : Launch) (G : Gx) (x : Nat) (a : Int32) (b : Int32) (x_0 : Nat) (sp : Nat) (stm : Nat) (pl : Nat) (sk : Nat) (se : Nat) (ch : Nat) (x_11 : Nat) (x_13 : Nat) (ho : Nat) (pl_1 : Nat) (pl_5 : Nat) (fl : Nat) (pe : Nat) (ru : Nat) (ho_4 : Nat) (ho_5 : Nat) (ho_6 : Nat) (ho_8 : Nat) (ho_9 : Nat) (ho_10 : Nat) (ho_11 : Nat) (ho_12 : Nat) (pe_1 : Nat) (pe_2 : Nat) (pe_3 : Nat) (pe_4 : Nat) (pe_5 : Nat) (pe_6 : Nat) (pe_7 : Nat) (pe_8 : Nat) (pe_9 : Nat) (pe_10 : Nat)  : CtI (S := Unit) l yX11_areTwo cX11_areTwo 3 (some .boolean) (rmD 3 0 0) G [.ref x, .int a, .int b] [(x, .inr (11, [.ref x_0, .int 0, .ref sp, .ref stm, .ref pl, .ref sk, .ref se, .ref ch, .int 0, .int (-1), .long 1, .ref x_11, .int 0, .ref x_13])), (pl, .inr (4, [.ref ho, .ref pl_1, .int 0, .int (-1), .int (-1), .ref pl_5])), (ho, .inr (2, [.ref fl, .ref pe, .ref ru, .int 0, .ref ho_4, .ref ho_5, .ref ho_6, .int 0, .ref ho_8, .ref ho_9, .ref ho_10, .ref ho_11, .ref ho_12, .int 50])), (pe, .inr (3, [.int 0, .ref pe_1, .ref pe_2, .ref pe_3, .ref pe_4, .ref pe_5, .ref pe_6, .ref pe_7, .ref pe_8, .ref pe_9, .ref pe_10]))] (fun r _ => r = 0) (fun _ => [(x, .inr (11, [.ref x_0, .int 0, .ref sp, .ref stm, .ref pl, .ref sk, .ref se, .ref ch, .int 0, .int (-1), .long 1, .ref x_11, .int 0, .ref x_13])), (pl, .inr (4, [.ref ho, .ref pl_1, .int 0, .int (-1), .int (-1), .ref pl_5])), (ho, .inr (2, [.ref fl, .ref pe, .ref ru, .int 0, .ref ho_4, .ref ho_5, .ref ho_6, .int 0, .ref ho_8, .ref ho_9, .ref ho_10, .ref ho_11, .ref ho_12, .int 50])), (pe, .inr (3, [.int 0, .ref pe_1, .ref pe_2, .ref pe_3, .ref pe_4, .ref pe_5, .ref pe_6, .ref pe_7, .ref pe_8, .ref pe_9, .ref pe_10]))]) := by
  refine ctI_of (own := RX11) (by decide +kernel) rfl (Nat.le_of_ble_eq_true rfl) ?_
  intro p e s m below meth c A ls F hr hlk hnm hK hP hD hA hS hl
  have hx := F.1
  have hb := F.2.1
  have hown := F.2.2.2.1
  have hl : lv_has ls 3 [(0, .ref x), (1, .int a), (2, .int b)] := hl
  refine lv_aload_n hx hb dX11_areTwo_0 rfl (lv_at hl 0 rfl) ?_
  refine lv_iload_n hx hb dX11_areTwo_1 rfl (lv_at hl 1 rfl) ?_
  refine cvi (wr := []) (As := [.int a]) (rest := []) (b := x) (k1 := 0) (s1 := 0) F hK hP hD hS hA (k_X11_isPerson l G x a x_0 sp stm pl sk se ch x_11 x_13 ho pl_1 pl_5 fl pe ru ho_4 ho_5 ho_6 ho_8 ho_9 ho_10 ho_11 ho_12 pe_1 pe_2 pe_3 pe_4 pe_5 pe_6 pe_7 pe_8 pe_9 pe_10) kmV_X11_isPerson mlX11_184 clX11 rfl 0 rfl ⟨(Nat.le_of_ble_eq_true rfl), (Nat.le_of_ble_eq_true rfl)⟩ [0, 1, 2, 3] [] rfl rfl rfl rfl (by decide) hl.1 rfl (Nat.le_of_ble_eq_true rfl) dX11_areTwo_2 ⟨(Nat.le_of_ble_eq_true rfl), (Nat.le_of_ble_eq_true rfl)⟩ rfl rfl (fun r2 u1 H locs hwr2 (hP : va_P G.1 vwCl [(x, .inr (11, [.ref x_0, .int 0, .ref sp, .ref stm, .ref pl, .ref sk, .ref se, .ref ch, .int 0, .int (-1), .long 1, .ref x_11, .int 0, .ref x_13])), (pl, .inr (4, [.ref ho, .ref pl_1, .int 0, .int (-1), .int (-1), .ref pl_5])), (ho, .inr (2, [.ref fl, .ref pe, .ref ru, .int 0, .ref ho_4, .ref ho_5, .ref ho_6, .int 0, .ref ho_8, .ref ho_9, .ref ho_10, .ref ho_11, .ref ho_12, .int 50])), (pe, .inr (3, [.int 0, .ref pe_1, .ref pe_2, .ref pe_3, .ref pe_4, .ref pe_5, .ref pe_6, .ref pe_7, .ref pe_8, .ref pe_9, .ref pe_10]))] H) (hD : va_D A [(x, .inr (11, [.ref x_0, .int 0, .ref sp, .ref stm, .ref pl, .ref sk, .ref se, .ref ch, .int 0, .int (-1), .long 1, .ref x_11, .int 0, .ref x_13])), (pl, .inr (4, [.ref ho, .ref pl_1, .int 0, .int (-1), .int (-1), .ref pl_5])), (ho, .inr (2, [.ref fl, .ref pe, .ref ru, .int 0, .ref ho_4, .ref ho_5, .ref ho_6, .int 0, .ref ho_8, .ref ho_9, .ref ho_10, .ref ho_11, .ref ho_12, .int 50])), (pe, .inr (3, [.int 0, .ref pe_1, .ref pe_2, .ref pe_3, .ref pe_4, .ref pe_5, .ref pe_6, .ref pe_7, .ref pe_8, .ref pe_9, .ref pe_10]))]) hS => ?_)
  subst hwr2
  refine lv_if_eq (tgt := 25) hx hb dX11_areTwo_5 (by decide) (fun _ => ?_) (fun h_ => absurd (by decide +kernel) h_)
  refine lv_iconst (v := 0) hx hb dX11_areTwo_25 (by decide) ?_
  exact r_z F hr hlk hP hD hS () [0, 1, 2, 3] rfl rfl rfl dX11_areTwo_26 (Nat.le_of_ble_eq_true rfl) (Nat.le_of_ble_eq_true rfl) (by decide)
set_option maxHeartbeats 4000000 in
set_option maxRecDepth 100000 in
theorem k_X11_refuse (l : Launch) (G : Gx) (x : Nat) (a : Int32) (x_0 : Nat) (sp : Nat) (stm : Nat) (pl : Nat) (sk : Nat) (se : Nat) (ch : Nat) (x_11 : Nat) (x_13 : Nat) (hk : vp_in a 6) : CtI (S := Unit) l yX11_refuse cX11_refuse 2 (some .int) (rmD 1 0 0) G [.ref x, .int a] [(x, .inr (11, [.ref x_0, .int 0, .ref sp, .ref stm, .ref pl, .ref sk, .ref se, .ref ch, .int 0, .int (-1), .long 1, .ref x_11, .int 0, .ref x_13])), (x_13, .inl (G.2.1, 6, .inl (fun _ => 0)))] (fun r _ => r = (-1)) (fun _ => [(x, .inr (11, [.ref x_0, .int 0, .ref sp, .ref stm, .ref pl, .ref sk, .ref se, .ref ch, .int 0, .int (-1), .long 1, .ref x_11, .int 0, .ref x_13]))]) := by
  refine ctI_of (own := RX11) (by decide +kernel) rfl (Nat.le_of_ble_eq_true rfl) ?_
  intro p e s m below meth c A ls F hr hlk hnm hK hP hD hA hS hl
  have hx := F.1
  have hb := F.2.1
  have hown := F.2.2.2.1
  have hl : lv_has ls 2 [(0, .ref x), (1, .int a)] := hl
  refine lv_aload_n hx hb dX11_refuse_0 rfl (lv_at hl 0 rfl) ?_
  refine g_get F hK hP 0 rfl clX11 13 (by decide) flX11_86 rfl dX11_refuse_1 ?_
  refine lv_iload_n hx hb dX11_refuse_4 rfl (lv_at hl 1 rfl) ?_
  refine lv_dup2_11 hx hb dX11_refuse_5 rfl rfl ?_
  refine g_iald (v := 0) F hK hP 1 rfl hk dX11_refuse_6 rfl ?_
  refine lv_iconst (v := 1) hx hb dX11_refuse_7 (by decide) ?_
  refine lv_iadd hx hb dX11_refuse_8 ?_
  refine cst_i (y := 1) (by decide +kernel) ?_
  refine g_iast F hK hP hD hS 1 rfl hk dX11_refuse_9 (fun f_ => [(x, .inr (11, [.ref x_0, .int 0, .ref sp, .ref stm, .ref pl, .ref sk, .ref se, .ref ch, .int 0, .int (-1), .long 1, .ref x_11, .int 0, .ref x_13])), (x_13, .inl (G.2.1, 6, .inl f_))]) (fun _ => rfl) (fun f1 H locs ef1 (hP : va_P G.1 vwCl [(x, .inr (11, [.ref x_0, .int 0, .ref sp, .ref stm, .ref pl, .ref sk, .ref se, .ref ch, .int 0, .int (-1), .long 1, .ref x_11, .int 0, .ref x_13])), (x_13, .inl (G.2.1, 6, .inl f1))] H) (hD : va_D A [(x, .inr (11, [.ref x_0, .int 0, .ref sp, .ref stm, .ref pl, .ref sk, .ref se, .ref ch, .int 0, .int (-1), .long 1, .ref x_11, .int 0, .ref x_13])), (x_13, .inl (G.2.1, 6, .inl f1))]) hS => ?_)
  refine lv_iconst (v := (-1)) hx hb dX11_refuse_10 (by decide) ?_
  exact r_i F hr hlk hP hD hS () [0] rfl rfl rfl dX11_refuse_11 (Nat.le_of_ble_eq_true rfl) (Nat.le_of_ble_eq_true rfl)
set_option maxHeartbeats 4000000 in
set_option maxRecDepth 100000 in
theorem k_X2_meetingTeams (l : Launch) (G : Gx) (ho : Nat) (fl : Nat) (pe : Nat) (ru : Nat) (ho_4 : Nat) (ho_5 : Nat) (ho_6 : Nat) (ho_8 : Nat) (ho_9 : Nat) (ho_10 : Nat) (ho_11 : Nat) (ho_12 : Nat)  : CtI (S := Unit) l yX2_meetingTeams cX2_meetingTeams 3 (some .int) (rmD 1 0 0) G [.ref ho] [(ho, .inr (2, [.ref fl, .ref pe, .ref ru, .int 0, .ref ho_4, .ref ho_5, .ref ho_6, .int 0, .ref ho_8, .ref ho_9, .ref ho_10, .ref ho_11, .ref ho_12, .int 50]))] (fun r _ => r = 0) (fun _ => [(ho, .inr (2, [.ref fl, .ref pe, .ref ru, .int 0, .ref ho_4, .ref ho_5, .ref ho_6, .int 0, .ref ho_8, .ref ho_9, .ref ho_10, .ref ho_11, .ref ho_12, .int 50]))]) := by
  refine ctI_of (own := RX2) (by decide +kernel) rfl (Nat.le_of_ble_eq_true rfl) ?_
  intro p e s m below meth c A ls F hr hlk hnm hK hP hD hA hS hl
  have hx := F.1
  have hb := F.2.1
  have hown := F.2.2.2.1
  have hl : lv_has ls 3 [(0, .ref ho)] := hl
  refine lv_iconst (v := 0) hx hb dX2_meetingTeams_0 (by decide) ?_
  refine lv_istore_n (lv' := [(1, .int 0), (0, .ref ho)]) hx hb dX2_meetingTeams_1 rfl hl (by decide) rfl (fun ls hl => ?_)
  refine lv_iconst (v := 0) hx hb dX2_meetingTeams_2 (by decide) ?_
  refine lv_istore_n (lv' := [(2, .int 0), (1, .int 0), (0, .ref ho)]) hx hb dX2_meetingTeams_3 rfl hl (by decide) rfl (fun ls hl => ?_)
  refine lv_iload_n hx hb dX2_meetingTeams_4 rfl (lv_at hl 0 rfl) ?_
  refine lv_aload_n hx hb dX2_meetingTeams_5 rfl (lv_at hl 2 rfl) ?_
  refine g_get F hK hP 0 rfl clX2 3 (by decide) flX2_32 rfl dX2_meetingTeams_6 ?_
  refine lv_icmp_ge (tgt := 30) hx hb dX2_meetingTeams_9 (by decide) (fun _ => ?_) (fun h_ => absurd (by decide +kernel) h_)
  refine lv_iload_n hx hb dX2_meetingTeams_30 rfl (lv_at hl 1 rfl) ?_
  exact r_i F hr hlk hP hD hS () [0] rfl rfl rfl dX2_meetingTeams_31 (Nat.le_of_ble_eq_true rfl) (Nat.le_of_ble_eq_true rfl)
set_option maxHeartbeats 4000000 in
set_option maxRecDepth 100000 in
theorem k_X2_tieBound (l : Launch) (G : Gx) (ho : Nat) (fl : Nat) (pe : Nat) (ru : Nat) (ho_4 : Nat) (ho_5 : Nat) (ho_6 : Nat) (ho_8 : Nat) (ho_9 : Nat) (ho_10 : Nat) (ho_11 : Nat) (ho_12 : Nat)  : CtI (S := Unit) l yX2_tieBound cX2_tieBound 7 (some .int) (rmD 1 0 0) G [.ref ho] [(ho, .inr (2, [.ref fl, .ref pe, .ref ru, .int 0, .ref ho_4, .ref ho_5, .ref ho_6, .int 0, .ref ho_8, .ref ho_9, .ref ho_10, .ref ho_11, .ref ho_12, .int 50]))] (fun r _ => r = 0) (fun _ => [(ho, .inr (2, [.ref fl, .ref pe, .ref ru, .int 0, .ref ho_4, .ref ho_5, .ref ho_6, .int 0, .ref ho_8, .ref ho_9, .ref ho_10, .ref ho_11, .ref ho_12, .int 50]))]) := by
  refine ctI_of (own := RX2) (by decide +kernel) rfl (Nat.le_of_ble_eq_true rfl) ?_
  intro p e s m below meth c A ls F hr hlk hnm hK hP hD hA hS hl
  have hx := F.1
  have hb := F.2.1
  have hown := F.2.2.2.1
  have hl : lv_has ls 7 [(0, .ref ho)] := hl
  refine lv_iconst (v := 0) hx hb dX2_tieBound_0 (by decide) ?_
  refine lv_istore_n (lv' := [(1, .int 0), (0, .ref ho)]) hx hb dX2_tieBound_1 rfl hl (by decide) rfl (fun ls hl => ?_)
  refine lv_iconst (v := 0) hx hb dX2_tieBound_2 (by decide) ?_
  refine lv_istore_n (lv' := [(2, .int 0), (1, .int 0), (0, .ref ho)]) hx hb dX2_tieBound_3 rfl hl (by decide) rfl (fun ls hl => ?_)
  refine lv_iload_n hx hb dX2_tieBound_4 rfl (lv_at hl 0 rfl) ?_
  refine lv_aload_n hx hb dX2_tieBound_5 rfl (lv_at hl 2 rfl) ?_
  refine g_get F hK hP 0 rfl clX2 7 (by decide) flX2_47 rfl dX2_tieBound_6 ?_
  refine lv_icmp_ge (tgt := 104) hx hb dX2_tieBound_9 (by decide) (fun _ => ?_) (fun h_ => absurd (by decide +kernel) h_)
  refine lv_iload_n hx hb dX2_tieBound_104 rfl (lv_at hl 1 rfl) ?_
  exact r_i F hr hlk hP hD hS () [0] rfl rfl rfl dX2_tieBound_105 (Nat.le_of_ble_eq_true rfl) (Nat.le_of_ble_eq_true rfl)
set_option maxHeartbeats 4000000 in
set_option maxRecDepth 100000 in
theorem k_X4_inCount (l : Launch) (G : Gx) (pl : Nat) (a : Int32) (ho : Nat) (pl_1 : Nat) (pl_5 : Nat) (fl : Nat) (pe : Nat) (ru : Nat) (ho_4 : Nat) (ho_5 : Nat) (ho_6 : Nat) (ho_8 : Nat) (ho_9 : Nat) (ho_10 : Nat) (ho_11 : Nat) (ho_12 : Nat) (pe_1 : Nat) (pe_2 : Nat) (pe_3 : Nat) (pe_4 : Nat) (pe_5 : Nat) (pe_6 : Nat) (pe_7 : Nat) (pe_8 : Nat) (pe_9 : Nat) (pe_10 : Nat)  : CtI (S := Unit) l yX4_inCount cX4_inCount 4 (some .int) (rmD 1 0 0) G [.ref pl, .int a] [(pl, .inr (4, [.ref ho, .ref pl_1, .int 0, .int (-1), .int (-1), .ref pl_5])), (ho, .inr (2, [.ref fl, .ref pe, .ref ru, .int 0, .ref ho_4, .ref ho_5, .ref ho_6, .int 0, .ref ho_8, .ref ho_9, .ref ho_10, .ref ho_11, .ref ho_12, .int 50])), (pe, .inr (3, [.int 0, .ref pe_1, .ref pe_2, .ref pe_3, .ref pe_4, .ref pe_5, .ref pe_6, .ref pe_7, .ref pe_8, .ref pe_9, .ref pe_10]))] (fun r _ => r = 0) (fun _ => [(pl, .inr (4, [.ref ho, .ref pl_1, .int 0, .int (-1), .int (-1), .ref pl_5])), (ho, .inr (2, [.ref fl, .ref pe, .ref ru, .int 0, .ref ho_4, .ref ho_5, .ref ho_6, .int 0, .ref ho_8, .ref ho_9, .ref ho_10, .ref ho_11, .ref ho_12, .int 50])), (pe, .inr (3, [.int 0, .ref pe_1, .ref pe_2, .ref pe_3, .ref pe_4, .ref pe_5, .ref pe_6, .ref pe_7, .ref pe_8, .ref pe_9, .ref pe_10]))]) := by
  refine ctI_of (own := RX4) (by decide +kernel) rfl (Nat.le_of_ble_eq_true rfl) ?_
  intro p e s m below meth c A ls F hr hlk hnm hK hP hD hA hS hl
  have hx := F.1
  have hb := F.2.1
  have hown := F.2.2.2.1
  have hl : lv_has ls 4 [(0, .ref pl), (1, .int a)] := hl
  refine lv_iconst (v := 0) hx hb dX4_inCount_0 (by decide) ?_
  refine lv_istore_n (lv' := [(2, .int 0), (0, .ref pl), (1, .int a)]) hx hb dX4_inCount_1 rfl hl (by decide) rfl (fun ls hl => ?_)
  refine lv_iconst (v := 0) hx hb dX4_inCount_2 (by decide) ?_
  refine lv_istore_n (lv' := [(3, .int 0), (2, .int 0), (0, .ref pl), (1, .int a)]) hx hb dX4_inCount_3 rfl hl (by decide) rfl (fun ls hl => ?_)
  refine lv_iload_n hx hb dX4_inCount_4 rfl (lv_at hl 0 rfl) ?_
  refine lv_aload_n hx hb dX4_inCount_5 rfl (lv_at hl 2 rfl) ?_
  refine g_get F hK hP 0 rfl clX4 0 (by decide) flX4_28 rfl dX4_inCount_6 ?_
  refine g_get F hK hP 1 rfl clX2 1 (by decide) flX4_39 rfl dX4_inCount_9 ?_
  refine g_get F hK hP 2 rfl clX3 0 (by decide) flX4_45 rfl dX4_inCount_12 ?_
  refine lv_icmp_ge (tgt := 37) hx hb dX4_inCount_15 (by decide) (fun _ => ?_) (fun h_ => absurd (by decide +kernel) h_)
  refine lv_iload_n hx hb dX4_inCount_37 rfl (lv_at hl 1 rfl) ?_
  exact r_i F hr hlk hP hD hS () [0, 1, 2] rfl rfl rfl dX4_inCount_38 (Nat.le_of_ble_eq_true rfl) (Nat.le_of_ble_eq_true rfl)
set_option maxHeartbeats 4000000 in
set_option maxRecDepth 100000 in
theorem k_X4_inWithoutOwn (l : Launch) (G : Gx) (pl : Nat) (a : Int32) (ho : Nat) (pl_1 : Nat) (pl_5 : Nat) (fl : Nat) (pe : Nat) (ru : Nat) (ho_4 : Nat) (ho_5 : Nat) (ho_6 : Nat) (ho_8 : Nat) (ho_9 : Nat) (ho_10 : Nat) (ho_11 : Nat) (ho_12 : Nat) (pe_1 : Nat) (pe_2 : Nat) (pe_3 : Nat) (pe_4 : Nat) (pe_5 : Nat) (pe_6 : Nat) (pe_7 : Nat) (pe_8 : Nat) (pe_9 : Nat) (pe_10 : Nat)  : CtI (S := Unit) l yX4_inWithoutOwn cX4_inWithoutOwn 4 (some .int) (rmD 1 0 0) G [.ref pl, .int a] [(pl, .inr (4, [.ref ho, .ref pl_1, .int 0, .int (-1), .int (-1), .ref pl_5])), (ho, .inr (2, [.ref fl, .ref pe, .ref ru, .int 0, .ref ho_4, .ref ho_5, .ref ho_6, .int 0, .ref ho_8, .ref ho_9, .ref ho_10, .ref ho_11, .ref ho_12, .int 50])), (pe, .inr (3, [.int 0, .ref pe_1, .ref pe_2, .ref pe_3, .ref pe_4, .ref pe_5, .ref pe_6, .ref pe_7, .ref pe_8, .ref pe_9, .ref pe_10]))] (fun r _ => r = 0) (fun _ => [(pl, .inr (4, [.ref ho, .ref pl_1, .int 0, .int (-1), .int (-1), .ref pl_5])), (ho, .inr (2, [.ref fl, .ref pe, .ref ru, .int 0, .ref ho_4, .ref ho_5, .ref ho_6, .int 0, .ref ho_8, .ref ho_9, .ref ho_10, .ref ho_11, .ref ho_12, .int 50])), (pe, .inr (3, [.int 0, .ref pe_1, .ref pe_2, .ref pe_3, .ref pe_4, .ref pe_5, .ref pe_6, .ref pe_7, .ref pe_8, .ref pe_9, .ref pe_10]))]) := by
  refine ctI_of (own := RX4) (by decide +kernel) rfl (Nat.le_of_ble_eq_true rfl) ?_
  intro p e s m below meth c A ls F hr hlk hnm hK hP hD hA hS hl
  have hx := F.1
  have hb := F.2.1
  have hown := F.2.2.2.1
  have hl : lv_has ls 4 [(0, .ref pl), (1, .int a)] := hl
  refine lv_iconst (v := 0) hx hb dX4_inWithoutOwn_0 (by decide) ?_
  refine lv_istore_n (lv' := [(2, .int 0), (0, .ref pl), (1, .int a)]) hx hb dX4_inWithoutOwn_1 rfl hl (by decide) rfl (fun ls hl => ?_)
  refine lv_iconst (v := 0) hx hb dX4_inWithoutOwn_2 (by decide) ?_
  refine lv_istore_n (lv' := [(3, .int 0), (2, .int 0), (0, .ref pl), (1, .int a)]) hx hb dX4_inWithoutOwn_3 rfl hl (by decide) rfl (fun ls hl => ?_)
  refine lv_iload_n hx hb dX4_inWithoutOwn_4 rfl (lv_at hl 0 rfl) ?_
  refine lv_aload_n hx hb dX4_inWithoutOwn_5 rfl (lv_at hl 2 rfl) ?_
  refine g_get F hK hP 0 rfl clX4 0 (by decide) flX4_28 rfl dX4_inWithoutOwn_6 ?_
  refine g_get F hK hP 1 rfl clX2 1 (by decide) flX4_39 rfl dX4_inWithoutOwn_9 ?_
  refine g_get F hK hP 2 rfl clX3 0 (by decide) flX4_45 rfl dX4_inWithoutOwn_12 ?_
  refine lv_icmp_ge (tgt := 53) hx hb dX4_inWithoutOwn_15 (by decide) (fun _ => ?_) (fun h_ => absurd (by decide +kernel) h_)
  refine lv_iload_n hx hb dX4_inWithoutOwn_53 rfl (lv_at hl 1 rfl) ?_
  exact r_i F hr hlk hP hD hS () [0, 1, 2] rfl rfl rfl dX4_inWithoutOwn_54 (Nat.le_of_ble_eq_true rfl) (Nat.le_of_ble_eq_true rfl)
set_option maxHeartbeats 4000000 in
set_option maxRecDepth 100000 in
theorem k_X4_standing (l : Launch) (G : Gx) (pl : Nat) (a : Int32) (ho : Nat) (pl_1 : Nat) (pl_5 : Nat) (fl : Nat) (pe : Nat) (ru : Nat) (ho_4 : Nat) (ho_5 : Nat) (ho_6 : Nat) (ho_8 : Nat) (ho_9 : Nat) (ho_10 : Nat) (ho_11 : Nat) (ho_12 : Nat) (pe_1 : Nat) (pe_2 : Nat) (pe_3 : Nat) (pe_4 : Nat) (pe_5 : Nat) (pe_6 : Nat) (pe_7 : Nat) (pe_8 : Nat) (pe_9 : Nat) (pe_10 : Nat) (fl_3 : Nat) (fl_4 : Nat) (fl_5 : Nat) (fl_6 : Nat) (fl_7 : Nat)  : CtI (S := Unit) l yX4_standing cX4_standing 2 (some .int) (rmD 2 0 0) G [.ref pl, .int a] [(pl, .inr (4, [.ref ho, .ref pl_1, .int 0, .int (-1), .int (-1), .ref pl_5])), (ho, .inr (2, [.ref fl, .ref pe, .ref ru, .int 0, .ref ho_4, .ref ho_5, .ref ho_6, .int 0, .ref ho_8, .ref ho_9, .ref ho_10, .ref ho_11, .ref ho_12, .int 50])), (pe, .inr (3, [.int 0, .ref pe_1, .ref pe_2, .ref pe_3, .ref pe_4, .ref pe_5, .ref pe_6, .ref pe_7, .ref pe_8, .ref pe_9, .ref pe_10])), (fl, .inr (1, [.int 0, .int 0, .int 0, .ref fl_3, .ref fl_4, .ref fl_5, .ref fl_6, .ref fl_7]))] (fun r _ => r = 0) (fun _ => [(pl, .inr (4, [.ref ho, .ref pl_1, .int 0, .int (-1), .int (-1), .ref pl_5])), (ho, .inr (2, [.ref fl, .ref pe, .ref ru, .int 0, .ref ho_4, .ref ho_5, .ref ho_6, .int 0, .ref ho_8, .ref ho_9, .ref ho_10, .ref ho_11, .ref ho_12, .int 50])), (pe, .inr (3, [.int 0, .ref pe_1, .ref pe_2, .ref pe_3, .ref pe_4, .ref pe_5, .ref pe_6, .ref pe_7, .ref pe_8, .ref pe_9, .ref pe_10])), (fl, .inr (1, [.int 0, .int 0, .int 0, .ref fl_3, .ref fl_4, .ref fl_5, .ref fl_6, .ref fl_7]))]) := by
  refine ctI_of (own := RX4) (by decide +kernel) rfl (Nat.le_of_ble_eq_true rfl) ?_
  intro p e s m below meth c A ls F hr hlk hnm hK hP hD hA hS hl
  have hx := F.1
  have hb := F.2.1
  have hown := F.2.2.2.1
  have hl : lv_has ls 2 [(0, .ref pl), (1, .int a)] := hl
  refine lv_iconst (v := 0) hx hb dX4_standing_0 (by decide) ?_
  refine lv_aload_n hx hb dX4_standing_1 rfl (lv_at hl 0 rfl) ?_
  refine lv_iload_n hx hb dX4_standing_2 rfl (lv_at hl 1 rfl) ?_
  refine cvi (wr := [(fl, .inr (1, [.int 0, .int 0, .int 0, .ref fl_3, .ref fl_4, .ref fl_5, .ref fl_6, .ref fl_7]))]) (As := [.int a]) (rest := [.int 0]) (b := pl) (k1 := 0) (s1 := 0) F hK hP hD hS hA (k_X4_inWithoutOwn l G pl a ho pl_1 pl_5 fl pe ru ho_4 ho_5 ho_6 ho_8 ho_9 ho_10 ho_11 ho_12 pe_1 pe_2 pe_3 pe_4 pe_5 pe_6 pe_7 pe_8 pe_9 pe_10) kmV_X4_inWithoutOwn mlX4_53 clX4 rfl 0 rfl ⟨(Nat.le_of_ble_eq_true rfl), (Nat.le_of_ble_eq_true rfl)⟩ [0, 1, 2] [3] rfl rfl rfl rfl (by decide) hl.1 rfl (Nat.le_of_ble_eq_true rfl) dX4_standing_3 ⟨(Nat.le_of_ble_eq_true rfl), (Nat.le_of_ble_eq_true rfl)⟩ rfl rfl (fun r2 u1 H locs hwr2 (hP : va_P G.1 vwCl [(fl, .inr (1, [.int 0, .int 0, .int 0, .ref fl_3, .ref fl_4, .ref fl_5, .ref fl_6, .ref fl_7])), (pl, .inr (4, [.ref ho, .ref pl_1, .int 0, .int (-1), .int (-1), .ref pl_5])), (ho, .inr (2, [.ref fl, .ref pe, .ref ru, .int 0, .ref ho_4, .ref ho_5, .ref ho_6, .int 0, .ref ho_8, .ref ho_9, .ref ho_10, .ref ho_11, .ref ho_12, .int 50])), (pe, .inr (3, [.int 0, .ref pe_1, .ref pe_2, .ref pe_3, .ref pe_4, .ref pe_5, .ref pe_6, .ref pe_7, .ref pe_8, .ref pe_9, .ref pe_10]))] H) (hD : va_D A [(fl, .inr (1, [.int 0, .int 0, .int 0, .ref fl_3, .ref fl_4, .ref fl_5, .ref fl_6, .ref fl_7])), (pl, .inr (4, [.ref ho, .ref pl_1, .int 0, .int (-1), .int (-1), .ref pl_5])), (ho, .inr (2, [.ref fl, .ref pe, .ref ru, .int 0, .ref ho_4, .ref ho_5, .ref ho_6, .int 0, .ref ho_8, .ref ho_9, .ref ho_10, .ref ho_11, .ref ho_12, .int 50])), (pe, .inr (3, [.int 0, .ref pe_1, .ref pe_2, .ref pe_3, .ref pe_4, .ref pe_5, .ref pe_6, .ref pe_7, .ref pe_8, .ref pe_9, .ref pe_10]))]) hS => ?_)
  subst hwr2
  refine lv_aload_n hx hb dX4_standing_6 rfl (lv_at hl 0 rfl) ?_
  refine g_get F hK hP 1 rfl clX4 0 (by decide) flX4_28 rfl dX4_standing_7 ?_
  refine g_get F hK hP 2 rfl clX2 0 (by decide) flX4_57 rfl dX4_standing_10 ?_
  refine g_get F hK hP 0 rfl clX1 1 (by decide) flX4_61 rfl dX4_standing_13 ?_
  refine lv_aload_n hx hb dX4_standing_16 rfl (lv_at hl 0 rfl) ?_
  refine g_get F hK hP 1 rfl clX4 0 (by decide) flX4_28 rfl dX4_standing_17 ?_
  refine g_get F hK hP 2 rfl clX2 0 (by decide) flX4_57 rfl dX4_standing_20 ?_
  refine g_get F hK hP 0 rfl clX1 2 (by decide) flX4_66 rfl dX4_standing_23 ?_
  refine lv_isub hx hb dX4_standing_26 ?_
  refine cst_i (y := 0) (by decide +kernel) ?_
  refine lv_isub hx hb dX4_standing_27 ?_
  refine cst_i (y := 0) (by decide +kernel) ?_
  refine va_mmax hx hb (F.2.2.1.trans hl.1.symm) hown (F.2.2.2.2 _ mmX4_max) (F.2.2.2.2 _ mms_max) (F.2.2.2.2 _ ini_J9) (F.2.2.2.2 _ mmc_max) (Nat.le_of_ble_eq_true rfl) (Nat.le_of_ble_eq_true rfl) (Nat.le_of_ble_eq_true rfl) (Nat.le_of_ble_eq_true rfl) dX4_standing_28 ?_
  refine cst_i (y := 0) (by decide +kernel) ?_
  exact r_i F hr hlk hP hD hS () [1, 2, 3, 0] rfl rfl rfl dX4_standing_31 (Nat.le_of_ble_eq_true rfl) (Nat.le_of_ble_eq_true rfl)
set_option maxHeartbeats 4000000 in
set_option maxRecDepth 100000 in
theorem k_X4_findForbiddenDay (l : Launch) (G : Gx) (pl : Nat) (ho : Nat) (pl_1 : Nat) (pl_5 : Nat) (fl : Nat) (pe : Nat) (ru : Nat) (ho_4 : Nat) (ho_5 : Nat) (ho_6 : Nat) (ho_8 : Nat) (ho_9 : Nat) (ho_10 : Nat) (ho_11 : Nat) (ho_12 : Nat) (pe_1 : Nat) (pe_2 : Nat) (pe_3 : Nat) (pe_4 : Nat) (pe_5 : Nat) (pe_6 : Nat) (pe_7 : Nat) (pe_8 : Nat) (pe_9 : Nat) (pe_10 : Nat)  : CtV (S := Unit) l yX4_findForbiddenDay cX4_findForbiddenDay 4 none (rmD 1 0 0) G [.ref pl] [(pl, .inr (4, [.ref ho, .ref pl_1, .int 0, .int (-1), .int (-1), .ref pl_5])), (ho, .inr (2, [.ref fl, .ref pe, .ref ru, .int 0, .ref ho_4, .ref ho_5, .ref ho_6, .int 0, .ref ho_8, .ref ho_9, .ref ho_10, .ref ho_11, .ref ho_12, .int 50])), (pe, .inr (3, [.int 0, .ref pe_1, .ref pe_2, .ref pe_3, .ref pe_4, .ref pe_5, .ref pe_6, .ref pe_7, .ref pe_8, .ref pe_9, .ref pe_10]))] (fun _ => True) (fun _ => [(pl, .inr (4, [.ref ho, .ref pl_1, .int 0, .int (-1), .int (-1), .ref pl_5])), (ho, .inr (2, [.ref fl, .ref pe, .ref ru, .int 0, .ref ho_4, .ref ho_5, .ref ho_6, .int 0, .ref ho_8, .ref ho_9, .ref ho_10, .ref ho_11, .ref ho_12, .int 50])), (pe, .inr (3, [.int 0, .ref pe_1, .ref pe_2, .ref pe_3, .ref pe_4, .ref pe_5, .ref pe_6, .ref pe_7, .ref pe_8, .ref pe_9, .ref pe_10]))]) := by
  refine ctV_of (own := RX4) (by decide +kernel) rfl (Nat.le_of_ble_eq_true rfl) ?_
  intro p e s m below meth c A ls F hr hlk hnm hK hP hD hA hS hl
  have hx := F.1
  have hb := F.2.1
  have hown := F.2.2.2.1
  have hl : lv_has ls 4 [(0, .ref pl)] := hl
  refine lv_iconst (v := 0) hx hb dX4_findForbiddenDay_0 (by decide) ?_
  refine lv_istore_n (lv' := [(1, .int 0), (0, .ref pl)]) hx hb dX4_findForbiddenDay_1 rfl hl (by decide) rfl (fun ls hl => ?_)
  refine lv_iload_n hx hb dX4_findForbiddenDay_2 rfl (lv_at hl 0 rfl) ?_
  refine lv_aload_n hx hb dX4_findForbiddenDay_3 rfl (lv_at hl 1 rfl) ?_
  refine g_get F hK hP 0 rfl clX4 0 (by decide) flX4_28 rfl dX4_findForbiddenDay_4 ?_
  refine g_get F hK hP 1 rfl clX2 1 (by decide) flX4_39 rfl dX4_findForbiddenDay_7 ?_
  refine g_get F hK hP 2 rfl clX3 0 (by decide) flX4_45 rfl dX4_findForbiddenDay_10 ?_
  refine lv_icmp_ge (tgt := 84) hx hb dX4_findForbiddenDay_13 (by decide) (fun _ => ?_) (fun h_ => absurd (by decide +kernel) h_)
  exact r_v F hr hlk hP hD hS () [0, 1, 2] rfl rfl trivial dX4_findForbiddenDay_84 (Nat.le_of_ble_eq_true rfl) (Nat.le_of_ble_eq_true rfl)
set_option maxHeartbeats 4000000 in
set_option maxRecDepth 100000 in
theorem k_X4_findOtherNumber (l : Launch) (G : Gx) (pl : Nat) (ho : Nat) (pl_1 : Nat) (pl_5 : Nat) (fl : Nat) (pe : Nat) (ru : Nat) (ho_4 : Nat) (ho_5 : Nat) (ho_6 : Nat) (ho_8 : Nat) (ho_9 : Nat) (ho_10 : Nat) (ho_11 : Nat) (ho_12 : Nat) (pe_1 : Nat) (pe_2 : Nat) (pe_3 : Nat) (pe_4 : Nat) (pe_5 : Nat) (pe_6 : Nat) (pe_7 : Nat) (pe_8 : Nat) (pe_9 : Nat) (pe_10 : Nat)  : CtV (S := Unit) l yX4_findOtherNumber cX4_findOtherNumber 2 none (rmD 1 0 0) G [.ref pl] [(pl, .inr (4, [.ref ho, .ref pl_1, .int 0, .int (-1), .int (-1), .ref pl_5])), (ho, .inr (2, [.ref fl, .ref pe, .ref ru, .int 0, .ref ho_4, .ref ho_5, .ref ho_6, .int 0, .ref ho_8, .ref ho_9, .ref ho_10, .ref ho_11, .ref ho_12, .int 50])), (pe, .inr (3, [.int 0, .ref pe_1, .ref pe_2, .ref pe_3, .ref pe_4, .ref pe_5, .ref pe_6, .ref pe_7, .ref pe_8, .ref pe_9, .ref pe_10]))] (fun _ => True) (fun _ => [(pl, .inr (4, [.ref ho, .ref pl_1, .int 0, .int (-1), .int (-1), .ref pl_5])), (ho, .inr (2, [.ref fl, .ref pe, .ref ru, .int 0, .ref ho_4, .ref ho_5, .ref ho_6, .int 0, .ref ho_8, .ref ho_9, .ref ho_10, .ref ho_11, .ref ho_12, .int 50])), (pe, .inr (3, [.int 0, .ref pe_1, .ref pe_2, .ref pe_3, .ref pe_4, .ref pe_5, .ref pe_6, .ref pe_7, .ref pe_8, .ref pe_9, .ref pe_10]))]) := by
  refine ctV_of (own := RX4) (by decide +kernel) rfl (Nat.le_of_ble_eq_true rfl) ?_
  intro p e s m below meth c A ls F hr hlk hnm hK hP hD hA hS hl
  have hx := F.1
  have hb := F.2.1
  have hown := F.2.2.2.1
  have hl : lv_has ls 2 [(0, .ref pl)] := hl
  refine lv_iconst (v := 0) hx hb dX4_findOtherNumber_0 (by decide) ?_
  refine lv_istore_n (lv' := [(1, .int 0), (0, .ref pl)]) hx hb dX4_findOtherNumber_1 rfl hl (by decide) rfl (fun ls hl => ?_)
  refine lv_iload_n hx hb dX4_findOtherNumber_2 rfl (lv_at hl 0 rfl) ?_
  refine lv_aload_n hx hb dX4_findOtherNumber_3 rfl (lv_at hl 1 rfl) ?_
  refine g_get F hK hP 0 rfl clX4 0 (by decide) flX4_28 rfl dX4_findOtherNumber_4 ?_
  refine g_get F hK hP 1 rfl clX2 1 (by decide) flX4_39 rfl dX4_findOtherNumber_7 ?_
  refine g_get F hK hP 2 rfl clX3 0 (by decide) flX4_45 rfl dX4_findOtherNumber_10 ?_
  refine lv_icmp_ge (tgt := 57) hx hb dX4_findOtherNumber_13 (by decide) (fun _ => ?_) (fun h_ => absurd (by decide +kernel) h_)
  exact r_v F hr hlk hP hD hS () [0, 1, 2] rfl rfl trivial dX4_findOtherNumber_57 (Nat.le_of_ble_eq_true rfl) (Nat.le_of_ble_eq_true rfl)
set_option maxHeartbeats 4000000 in
set_option maxRecDepth 100000 in
theorem k_X4_findStanding (l : Launch) (G : Gx) (pl : Nat) (ho : Nat) (pl_1 : Nat) (pl_5 : Nat) (fl : Nat) (pe : Nat) (ru : Nat) (ho_4 : Nat) (ho_5 : Nat) (ho_6 : Nat) (ho_8 : Nat) (ho_9 : Nat) (ho_10 : Nat) (ho_11 : Nat) (ho_12 : Nat) (pe_1 : Nat) (pe_2 : Nat) (pe_3 : Nat) (pe_4 : Nat) (pe_5 : Nat) (pe_6 : Nat) (pe_7 : Nat) (pe_8 : Nat) (pe_9 : Nat) (pe_10 : Nat) (fl_3 : Nat) (fl_4 : Nat) (fl_5 : Nat) (fl_6 : Nat) (fl_7 : Nat)  : CtV (S := Unit) l yX4_findStanding cX4_findStanding 2 none (rmD 3 0 0) G [.ref pl] [(pl, .inr (4, [.ref ho, .ref pl_1, .int 0, .int (-1), .int (-1), .ref pl_5])), (ho, .inr (2, [.ref fl, .ref pe, .ref ru, .int 0, .ref ho_4, .ref ho_5, .ref ho_6, .int 0, .ref ho_8, .ref ho_9, .ref ho_10, .ref ho_11, .ref ho_12, .int 50])), (pe, .inr (3, [.int 0, .ref pe_1, .ref pe_2, .ref pe_3, .ref pe_4, .ref pe_5, .ref pe_6, .ref pe_7, .ref pe_8, .ref pe_9, .ref pe_10])), (fl, .inr (1, [.int 0, .int 0, .int 0, .ref fl_3, .ref fl_4, .ref fl_5, .ref fl_6, .ref fl_7]))] (fun _ => True) (fun _ => [(pl, .inr (4, [.ref ho, .ref pl_1, .int 0, .int (-1), .int (-1), .ref pl_5])), (ho, .inr (2, [.ref fl, .ref pe, .ref ru, .int 0, .ref ho_4, .ref ho_5, .ref ho_6, .int 0, .ref ho_8, .ref ho_9, .ref ho_10, .ref ho_11, .ref ho_12, .int 50])), (pe, .inr (3, [.int 0, .ref pe_1, .ref pe_2, .ref pe_3, .ref pe_4, .ref pe_5, .ref pe_6, .ref pe_7, .ref pe_8, .ref pe_9, .ref pe_10])), (fl, .inr (1, [.int 0, .int 0, .int 0, .ref fl_3, .ref fl_4, .ref fl_5, .ref fl_6, .ref fl_7]))]) := by
  refine ctV_of (own := RX4) (by decide +kernel) rfl (Nat.le_of_ble_eq_true rfl) ?_
  intro p e s m below meth c A ls F hr hlk hnm hK hP hD hA hS hl
  have hx := F.1
  have hb := F.2.1
  have hown := F.2.2.2.1
  have hl : lv_has ls 2 [(0, .ref pl)] := hl
  refine lv_iconst (v := 0) hx hb dX4_findStanding_0 (by decide) ?_
  refine lv_istore_n (lv' := [(1, .int 0), (0, .ref pl)]) hx hb dX4_findStanding_1 rfl hl (by decide) rfl (fun ls hl => ?_)
  refine lv_iload_n hx hb dX4_findStanding_2 rfl (lv_at hl 0 rfl) ?_
  refine lv_iconst (v := 5) hx hb dX4_findStanding_3 (by decide) ?_
  refine lv_icmp_ge (tgt := 32) hx hb dX4_findStanding_4 (by decide) (fun h_ => absurd h_ (by decide +kernel)) (fun _ => ?_)
  refine lv_aload_n hx hb dX4_findStanding_7 rfl (lv_at hl 1 rfl) ?_
  refine lv_iload_n hx hb dX4_findStanding_8 rfl (lv_at hl 0 rfl) ?_
  refine cvi (wr := []) (As := [.int 0]) (rest := []) (b := pl) (k1 := 0) (s1 := 0) F hK hP hD hS hA (k_X4_standing l G pl 0 ho pl_1 pl_5 fl pe ru ho_4 ho_5 ho_6 ho_8 ho_9 ho_10 ho_11 ho_12 pe_1 pe_2 pe_3 pe_4 pe_5 pe_6 pe_7 pe_8 pe_9 pe_10 fl_3 fl_4 fl_5 fl_6 fl_7) kmV_X4_standing mlX4_101 clX4 rfl 0 rfl ⟨(Nat.le_of_ble_eq_true rfl), (Nat.le_of_ble_eq_true rfl)⟩ [0, 1, 2, 3] [] rfl rfl rfl rfl (by decide) hl.1 rfl (Nat.le_of_ble_eq_true rfl) dX4_findStanding_9 ⟨(Nat.le_of_ble_eq_true rfl), (Nat.le_of_ble_eq_true rfl)⟩ rfl rfl (fun r2 u1 H locs hwr2 (hP : va_P G.1 vwCl [(pl, .inr (4, [.ref ho, .ref pl_1, .int 0, .int (-1), .int (-1), .ref pl_5])), (ho, .inr (2, [.ref fl, .ref pe, .ref ru, .int 0, .ref ho_4, .ref ho_5, .ref ho_6, .int 0, .ref ho_8, .ref ho_9, .ref ho_10, .ref ho_11, .ref ho_12, .int 50])), (pe, .inr (3, [.int 0, .ref pe_1, .ref pe_2, .ref pe_3, .ref pe_4, .ref pe_5, .ref pe_6, .ref pe_7, .ref pe_8, .ref pe_9, .ref pe_10])), (fl, .inr (1, [.int 0, .int 0, .int 0, .ref fl_3, .ref fl_4, .ref fl_5, .ref fl_6, .ref fl_7]))] H) (hD : va_D A [(pl, .inr (4, [.ref ho, .ref pl_1, .int 0, .int (-1), .int (-1), .ref pl_5])), (ho, .inr (2, [.ref fl, .ref pe, .ref ru, .int 0, .ref ho_4, .ref ho_5, .ref ho_6, .int 0, .ref ho_8, .ref ho_9, .ref ho_10, .ref ho_11, .ref ho_12, .int 50])), (pe, .inr (3, [.int 0, .ref pe_1, .ref pe_2, .ref pe_3, .ref pe_4, .ref pe_5, .ref pe_6, .ref pe_7, .ref pe_8, .ref pe_9, .ref pe_10])), (fl, .inr (1, [.int 0, .int 0, .int 0, .ref fl_3, .ref fl_4, .ref fl_5, .ref fl_6, .ref fl_7]))]) hS => ?_)
  subst hwr2
  refine lv_if_le (tgt := 26) hx hb dX4_findStanding_12 (by decide) (fun _ => ?_) (fun h_ => absurd (by decide +kernel) h_)
  refine lv_iinc (v := 1) (lv' := [(1, .int 1), (0, .ref pl)]) hx hb dX4_findStanding_26 hl (k := 0) rfl (by decide +kernel) (by decide) rfl (fun ls hl => ?_)
  refine lv_goto (tgt := 2) hx hb dX4_findStanding_29 (by decide) ?_
  refine lv_iload_n hx hb dX4_findStanding_2 rfl (lv_at hl 0 rfl) ?_
  refine lv_iconst (v := 5) hx hb dX4_findStanding_3 (by decide) ?_
  refine lv_icmp_ge (tgt := 32) hx hb dX4_findStanding_4 (by decide) (fun h_ => absurd h_ (by decide +kernel)) (fun _ => ?_)
  refine lv_aload_n hx hb dX4_findStanding_7 rfl (lv_at hl 1 rfl) ?_
  refine lv_iload_n hx hb dX4_findStanding_8 rfl (lv_at hl 0 rfl) ?_
  refine cvi (wr := []) (As := [.int 1]) (rest := []) (b := pl) (k1 := 0) (s1 := 0) F hK hP hD hS hA (k_X4_standing l G pl 1 ho pl_1 pl_5 fl pe ru ho_4 ho_5 ho_6 ho_8 ho_9 ho_10 ho_11 ho_12 pe_1 pe_2 pe_3 pe_4 pe_5 pe_6 pe_7 pe_8 pe_9 pe_10 fl_3 fl_4 fl_5 fl_6 fl_7) kmV_X4_standing mlX4_101 clX4 rfl 0 rfl ⟨(Nat.le_of_ble_eq_true rfl), (Nat.le_of_ble_eq_true rfl)⟩ [0, 1, 2, 3] [] rfl rfl rfl rfl (by decide) hl.1 rfl (Nat.le_of_ble_eq_true rfl) dX4_findStanding_9 ⟨(Nat.le_of_ble_eq_true rfl), (Nat.le_of_ble_eq_true rfl)⟩ rfl rfl (fun r4 u3 H locs hwr4 (hP : va_P G.1 vwCl [(pl, .inr (4, [.ref ho, .ref pl_1, .int 0, .int (-1), .int (-1), .ref pl_5])), (ho, .inr (2, [.ref fl, .ref pe, .ref ru, .int 0, .ref ho_4, .ref ho_5, .ref ho_6, .int 0, .ref ho_8, .ref ho_9, .ref ho_10, .ref ho_11, .ref ho_12, .int 50])), (pe, .inr (3, [.int 0, .ref pe_1, .ref pe_2, .ref pe_3, .ref pe_4, .ref pe_5, .ref pe_6, .ref pe_7, .ref pe_8, .ref pe_9, .ref pe_10])), (fl, .inr (1, [.int 0, .int 0, .int 0, .ref fl_3, .ref fl_4, .ref fl_5, .ref fl_6, .ref fl_7]))] H) (hD : va_D A [(pl, .inr (4, [.ref ho, .ref pl_1, .int 0, .int (-1), .int (-1), .ref pl_5])), (ho, .inr (2, [.ref fl, .ref pe, .ref ru, .int 0, .ref ho_4, .ref ho_5, .ref ho_6, .int 0, .ref ho_8, .ref ho_9, .ref ho_10, .ref ho_11, .ref ho_12, .int 50])), (pe, .inr (3, [.int 0, .ref pe_1, .ref pe_2, .ref pe_3, .ref pe_4, .ref pe_5, .ref pe_6, .ref pe_7, .ref pe_8, .ref pe_9, .ref pe_10])), (fl, .inr (1, [.int 0, .int 0, .int 0, .ref fl_3, .ref fl_4, .ref fl_5, .ref fl_6, .ref fl_7]))]) hS => ?_)
  subst hwr4
  refine lv_if_le (tgt := 26) hx hb dX4_findStanding_12 (by decide) (fun _ => ?_) (fun h_ => absurd (by decide +kernel) h_)
  refine lv_iinc (v := 2) (lv' := [(1, .int 2), (0, .ref pl)]) hx hb dX4_findStanding_26 hl (k := 0) rfl (by decide +kernel) (by decide) rfl (fun ls hl => ?_)
  refine lv_goto (tgt := 2) hx hb dX4_findStanding_29 (by decide) ?_
  refine lv_iload_n hx hb dX4_findStanding_2 rfl (lv_at hl 0 rfl) ?_
  refine lv_iconst (v := 5) hx hb dX4_findStanding_3 (by decide) ?_
  refine lv_icmp_ge (tgt := 32) hx hb dX4_findStanding_4 (by decide) (fun h_ => absurd h_ (by decide +kernel)) (fun _ => ?_)
  refine lv_aload_n hx hb dX4_findStanding_7 rfl (lv_at hl 1 rfl) ?_
  refine lv_iload_n hx hb dX4_findStanding_8 rfl (lv_at hl 0 rfl) ?_
  refine cvi (wr := []) (As := [.int 2]) (rest := []) (b := pl) (k1 := 0) (s1 := 0) F hK hP hD hS hA (k_X4_standing l G pl 2 ho pl_1 pl_5 fl pe ru ho_4 ho_5 ho_6 ho_8 ho_9 ho_10 ho_11 ho_12 pe_1 pe_2 pe_3 pe_4 pe_5 pe_6 pe_7 pe_8 pe_9 pe_10 fl_3 fl_4 fl_5 fl_6 fl_7) kmV_X4_standing mlX4_101 clX4 rfl 0 rfl ⟨(Nat.le_of_ble_eq_true rfl), (Nat.le_of_ble_eq_true rfl)⟩ [0, 1, 2, 3] [] rfl rfl rfl rfl (by decide) hl.1 rfl (Nat.le_of_ble_eq_true rfl) dX4_findStanding_9 ⟨(Nat.le_of_ble_eq_true rfl), (Nat.le_of_ble_eq_true rfl)⟩ rfl rfl (fun r6 u5 H locs hwr6 (hP : va_P G.1 vwCl [(pl, .inr (4, [.ref ho, .ref pl_1, .int 0, .int (-1), .int (-1), .ref pl_5])), (ho, .inr (2, [.ref fl, .ref pe, .ref ru, .int 0, .ref ho_4, .ref ho_5, .ref ho_6, .int 0, .ref ho_8, .ref ho_9, .ref ho_10, .ref ho_11, .ref ho_12, .int 50])), (pe, .inr (3, [.int 0, .ref pe_1, .ref pe_2, .ref pe_3, .ref pe_4, .ref pe_5, .ref pe_6, .ref pe_7, .ref pe_8, .ref pe_9, .ref pe_10])), (fl, .inr (1, [.int 0, .int 0, .int 0, .ref fl_3, .ref fl_4, .ref fl_5, .ref fl_6, .ref fl_7]))] H) (hD : va_D A [(pl, .inr (4, [.ref ho, .ref pl_1, .int 0, .int (-1), .int (-1), .ref pl_5])), (ho, .inr (2, [.ref fl, .ref pe, .ref ru, .int 0, .ref ho_4, .ref ho_5, .ref ho_6, .int 0, .ref ho_8, .ref ho_9, .ref ho_10, .ref ho_11, .ref ho_12, .int 50])), (pe, .inr (3, [.int 0, .ref pe_1, .ref pe_2, .ref pe_3, .ref pe_4, .ref pe_5, .ref pe_6, .ref pe_7, .ref pe_8, .ref pe_9, .ref pe_10])), (fl, .inr (1, [.int 0, .int 0, .int 0, .ref fl_3, .ref fl_4, .ref fl_5, .ref fl_6, .ref fl_7]))]) hS => ?_)
  subst hwr6
  refine lv_if_le (tgt := 26) hx hb dX4_findStanding_12 (by decide) (fun _ => ?_) (fun h_ => absurd (by decide +kernel) h_)
  refine lv_iinc (v := 3) (lv' := [(1, .int 3), (0, .ref pl)]) hx hb dX4_findStanding_26 hl (k := 0) rfl (by decide +kernel) (by decide) rfl (fun ls hl => ?_)
  refine lv_goto (tgt := 2) hx hb dX4_findStanding_29 (by decide) ?_
  refine lv_iload_n hx hb dX4_findStanding_2 rfl (lv_at hl 0 rfl) ?_
  refine lv_iconst (v := 5) hx hb dX4_findStanding_3 (by decide) ?_
  refine lv_icmp_ge (tgt := 32) hx hb dX4_findStanding_4 (by decide) (fun h_ => absurd h_ (by decide +kernel)) (fun _ => ?_)
  refine lv_aload_n hx hb dX4_findStanding_7 rfl (lv_at hl 1 rfl) ?_
  refine lv_iload_n hx hb dX4_findStanding_8 rfl (lv_at hl 0 rfl) ?_
  refine cvi (wr := []) (As := [.int 3]) (rest := []) (b := pl) (k1 := 0) (s1 := 0) F hK hP hD hS hA (k_X4_standing l G pl 3 ho pl_1 pl_5 fl pe ru ho_4 ho_5 ho_6 ho_8 ho_9 ho_10 ho_11 ho_12 pe_1 pe_2 pe_3 pe_4 pe_5 pe_6 pe_7 pe_8 pe_9 pe_10 fl_3 fl_4 fl_5 fl_6 fl_7) kmV_X4_standing mlX4_101 clX4 rfl 0 rfl ⟨(Nat.le_of_ble_eq_true rfl), (Nat.le_of_ble_eq_true rfl)⟩ [0, 1, 2, 3] [] rfl rfl rfl rfl (by decide) hl.1 rfl (Nat.le_of_ble_eq_true rfl) dX4_findStanding_9 ⟨(Nat.le_of_ble_eq_true rfl), (Nat.le_of_ble_eq_true rfl)⟩ rfl rfl (fun r8 u7 H locs hwr8 (hP : va_P G.1 vwCl [(pl, .inr (4, [.ref ho, .ref pl_1, .int 0, .int (-1), .int (-1), .ref pl_5])), (ho, .inr (2, [.ref fl, .ref pe, .ref ru, .int 0, .ref ho_4, .ref ho_5, .ref ho_6, .int 0, .ref ho_8, .ref ho_9, .ref ho_10, .ref ho_11, .ref ho_12, .int 50])), (pe, .inr (3, [.int 0, .ref pe_1, .ref pe_2, .ref pe_3, .ref pe_4, .ref pe_5, .ref pe_6, .ref pe_7, .ref pe_8, .ref pe_9, .ref pe_10])), (fl, .inr (1, [.int 0, .int 0, .int 0, .ref fl_3, .ref fl_4, .ref fl_5, .ref fl_6, .ref fl_7]))] H) (hD : va_D A [(pl, .inr (4, [.ref ho, .ref pl_1, .int 0, .int (-1), .int (-1), .ref pl_5])), (ho, .inr (2, [.ref fl, .ref pe, .ref ru, .int 0, .ref ho_4, .ref ho_5, .ref ho_6, .int 0, .ref ho_8, .ref ho_9, .ref ho_10, .ref ho_11, .ref ho_12, .int 50])), (pe, .inr (3, [.int 0, .ref pe_1, .ref pe_2, .ref pe_3, .ref pe_4, .ref pe_5, .ref pe_6, .ref pe_7, .ref pe_8, .ref pe_9, .ref pe_10])), (fl, .inr (1, [.int 0, .int 0, .int 0, .ref fl_3, .ref fl_4, .ref fl_5, .ref fl_6, .ref fl_7]))]) hS => ?_)
  subst hwr8
  refine lv_if_le (tgt := 26) hx hb dX4_findStanding_12 (by decide) (fun _ => ?_) (fun h_ => absurd (by decide +kernel) h_)
  refine lv_iinc (v := 4) (lv' := [(1, .int 4), (0, .ref pl)]) hx hb dX4_findStanding_26 hl (k := 0) rfl (by decide +kernel) (by decide) rfl (fun ls hl => ?_)
  refine lv_goto (tgt := 2) hx hb dX4_findStanding_29 (by decide) ?_
  refine lv_iload_n hx hb dX4_findStanding_2 rfl (lv_at hl 0 rfl) ?_
  refine lv_iconst (v := 5) hx hb dX4_findStanding_3 (by decide) ?_
  refine lv_icmp_ge (tgt := 32) hx hb dX4_findStanding_4 (by decide) (fun h_ => absurd h_ (by decide +kernel)) (fun _ => ?_)
  refine lv_aload_n hx hb dX4_findStanding_7 rfl (lv_at hl 1 rfl) ?_
  refine lv_iload_n hx hb dX4_findStanding_8 rfl (lv_at hl 0 rfl) ?_
  refine cvi (wr := []) (As := [.int 4]) (rest := []) (b := pl) (k1 := 0) (s1 := 0) F hK hP hD hS hA (k_X4_standing l G pl 4 ho pl_1 pl_5 fl pe ru ho_4 ho_5 ho_6 ho_8 ho_9 ho_10 ho_11 ho_12 pe_1 pe_2 pe_3 pe_4 pe_5 pe_6 pe_7 pe_8 pe_9 pe_10 fl_3 fl_4 fl_5 fl_6 fl_7) kmV_X4_standing mlX4_101 clX4 rfl 0 rfl ⟨(Nat.le_of_ble_eq_true rfl), (Nat.le_of_ble_eq_true rfl)⟩ [0, 1, 2, 3] [] rfl rfl rfl rfl (by decide) hl.1 rfl (Nat.le_of_ble_eq_true rfl) dX4_findStanding_9 ⟨(Nat.le_of_ble_eq_true rfl), (Nat.le_of_ble_eq_true rfl)⟩ rfl rfl (fun r10 u9 H locs hwr10 (hP : va_P G.1 vwCl [(pl, .inr (4, [.ref ho, .ref pl_1, .int 0, .int (-1), .int (-1), .ref pl_5])), (ho, .inr (2, [.ref fl, .ref pe, .ref ru, .int 0, .ref ho_4, .ref ho_5, .ref ho_6, .int 0, .ref ho_8, .ref ho_9, .ref ho_10, .ref ho_11, .ref ho_12, .int 50])), (pe, .inr (3, [.int 0, .ref pe_1, .ref pe_2, .ref pe_3, .ref pe_4, .ref pe_5, .ref pe_6, .ref pe_7, .ref pe_8, .ref pe_9, .ref pe_10])), (fl, .inr (1, [.int 0, .int 0, .int 0, .ref fl_3, .ref fl_4, .ref fl_5, .ref fl_6, .ref fl_7]))] H) (hD : va_D A [(pl, .inr (4, [.ref ho, .ref pl_1, .int 0, .int (-1), .int (-1), .ref pl_5])), (ho, .inr (2, [.ref fl, .ref pe, .ref ru, .int 0, .ref ho_4, .ref ho_5, .ref ho_6, .int 0, .ref ho_8, .ref ho_9, .ref ho_10, .ref ho_11, .ref ho_12, .int 50])), (pe, .inr (3, [.int 0, .ref pe_1, .ref pe_2, .ref pe_3, .ref pe_4, .ref pe_5, .ref pe_6, .ref pe_7, .ref pe_8, .ref pe_9, .ref pe_10])), (fl, .inr (1, [.int 0, .int 0, .int 0, .ref fl_3, .ref fl_4, .ref fl_5, .ref fl_6, .ref fl_7]))]) hS => ?_)
  subst hwr10
  refine lv_if_le (tgt := 26) hx hb dX4_findStanding_12 (by decide) (fun _ => ?_) (fun h_ => absurd (by decide +kernel) h_)
  refine lv_iinc (v := 5) (lv' := [(1, .int 5), (0, .ref pl)]) hx hb dX4_findStanding_26 hl (k := 0) rfl (by decide +kernel) (by decide) rfl (fun ls hl => ?_)
  refine lv_goto (tgt := 2) hx hb dX4_findStanding_29 (by decide) ?_
  refine lv_iload_n hx hb dX4_findStanding_2 rfl (lv_at hl 0 rfl) ?_
  refine lv_iconst (v := 5) hx hb dX4_findStanding_3 (by decide) ?_
  refine lv_icmp_ge (tgt := 32) hx hb dX4_findStanding_4 (by decide) (fun _ => ?_) (fun h_ => absurd (by decide +kernel) h_)
  exact r_v F hr hlk hP hD hS () [0, 1, 2, 3] rfl rfl trivial dX4_findStanding_32 (Nat.le_of_ble_eq_true rfl) (Nat.le_of_ble_eq_true rfl)
set_option maxHeartbeats 4000000 in
set_option maxRecDepth 100000 in
theorem k_X4_findTeamApart (l : Launch) (G : Gx) (pl : Nat) (ho : Nat) (pl_1 : Nat) (pl_5 : Nat) (fl : Nat) (pe : Nat) (ru : Nat) (ho_4 : Nat) (ho_5 : Nat) (ho_6 : Nat) (ho_8 : Nat) (ho_9 : Nat) (ho_10 : Nat) (ho_11 : Nat) (ho_12 : Nat)  : CtV (S := Unit) l yX4_findTeamApart cX4_findTeamApart 2 none (rmD 1 0 0) G [.ref pl] [(pl, .inr (4, [.ref ho, .ref pl_1, .int 0, .int (-1), .int (-1), .ref pl_5])), (ho, .inr (2, [.ref fl, .ref pe, .ref ru, .int 0, .ref ho_4, .ref ho_5, .ref ho_6, .int 0, .ref ho_8, .ref ho_9, .ref ho_10, .ref ho_11, .ref ho_12, .int 50]))] (fun _ => True) (fun _ => [(pl, .inr (4, [.ref ho, .ref pl_1, .int 0, .int (-1), .int (-1), .ref pl_5])), (ho, .inr (2, [.ref fl, .ref pe, .ref ru, .int 0, .ref ho_4, .ref ho_5, .ref ho_6, .int 0, .ref ho_8, .ref ho_9, .ref ho_10, .ref ho_11, .ref ho_12, .int 50]))]) := by
  refine ctV_of (own := RX4) (by decide +kernel) rfl (Nat.le_of_ble_eq_true rfl) ?_
  intro p e s m below meth c A ls F hr hlk hnm hK hP hD hA hS hl
  have hx := F.1
  have hb := F.2.1
  have hown := F.2.2.2.1
  have hl : lv_has ls 2 [(0, .ref pl)] := hl
  refine lv_iconst (v := 0) hx hb dX4_findTeamApart_0 (by decide) ?_
  refine lv_istore_n (lv' := [(1, .int 0), (0, .ref pl)]) hx hb dX4_findTeamApart_1 rfl hl (by decide) rfl (fun ls hl => ?_)
  refine lv_iload_n hx hb dX4_findTeamApart_2 rfl (lv_at hl 0 rfl) ?_
  refine lv_aload_n hx hb dX4_findTeamApart_3 rfl (lv_at hl 1 rfl) ?_
  refine g_get F hK hP 0 rfl clX4 0 (by decide) flX4_28 rfl dX4_findTeamApart_4 ?_
  refine g_get F hK hP 1 rfl clX2 3 (by decide) flX4_104 rfl dX4_findTeamApart_7 ?_
  refine lv_icmp_ge (tgt := 67) hx hb dX4_findTeamApart_10 (by decide) (fun _ => ?_) (fun h_ => absurd (by decide +kernel) h_)
  exact r_v F hr hlk hP hD hS () [0, 1] rfl rfl trivial dX4_findTeamApart_67 (Nat.le_of_ble_eq_true rfl) (Nat.le_of_ble_eq_true rfl)
set_option maxHeartbeats 4000000 in
set_option maxRecDepth 100000 in
theorem k_X4_examine (l : Launch) (G : Gx) (pl : Nat) (ho : Nat) (pl_1 : Nat) (pl_5 : Nat) (fl : Nat) (pe : Nat) (ru : Nat) (ho_4 : Nat) (ho_5 : Nat) (ho_6 : Nat) (ho_8 : Nat) (ho_9 : Nat) (ho_10 : Nat) (ho_11 : Nat) (ho_12 : Nat) (pe_1 : Nat) (pe_2 : Nat) (pe_3 : Nat) (pe_4 : Nat) (pe_5 : Nat) (pe_6 : Nat) (pe_7 : Nat) (pe_8 : Nat) (pe_9 : Nat) (pe_10 : Nat) (fl_3 : Nat) (fl_4 : Nat) (fl_5 : Nat) (fl_6 : Nat) (fl_7 : Nat)  : CtV (S := Unit) l yX4_examine cX4_examine 1 none (rmD 4 0 0) G [.ref pl] [(pl, .inr (4, [.ref ho, .ref pl_1, .int 0, .int (-1), .int (-1), .ref pl_5])), (ho, .inr (2, [.ref fl, .ref pe, .ref ru, .int 0, .ref ho_4, .ref ho_5, .ref ho_6, .int 0, .ref ho_8, .ref ho_9, .ref ho_10, .ref ho_11, .ref ho_12, .int 50])), (pe, .inr (3, [.int 0, .ref pe_1, .ref pe_2, .ref pe_3, .ref pe_4, .ref pe_5, .ref pe_6, .ref pe_7, .ref pe_8, .ref pe_9, .ref pe_10])), (fl, .inr (1, [.int 0, .int 0, .int 0, .ref fl_3, .ref fl_4, .ref fl_5, .ref fl_6, .ref fl_7]))] (fun _ => True) (fun _ => [(pl, .inr (4, [.ref ho, .ref pl_1, .int 0, .int (-1), .int (-1), .ref pl_5])), (ho, .inr (2, [.ref fl, .ref pe, .ref ru, .int 0, .ref ho_4, .ref ho_5, .ref ho_6, .int 0, .ref ho_8, .ref ho_9, .ref ho_10, .ref ho_11, .ref ho_12, .int 50])), (pe, .inr (3, [.int 0, .ref pe_1, .ref pe_2, .ref pe_3, .ref pe_4, .ref pe_5, .ref pe_6, .ref pe_7, .ref pe_8, .ref pe_9, .ref pe_10])), (fl, .inr (1, [.int 0, .int 0, .int 0, .ref fl_3, .ref fl_4, .ref fl_5, .ref fl_6, .ref fl_7]))]) := by
  refine ctV_of (own := RX4) (by decide +kernel) rfl (Nat.le_of_ble_eq_true rfl) ?_
  intro p e s m below meth c A ls F hr hlk hnm hK hP hD hA hS hl
  have hx := F.1
  have hb := F.2.1
  have hown := F.2.2.2.1
  have hl : lv_has ls 1 [(0, .ref pl)] := hl
  refine lv_aload_n hx hb dX4_examine_0 rfl (lv_at hl 0 rfl) ?_
  refine lv_iconst (v := 0) hx hb dX4_examine_1 (by decide) ?_
  refine g_put (w' := [(pl, .inr (4, [.ref ho, .ref pl_1, .int 0, .int (-1), .int (-1), .ref pl_5])), (ho, .inr (2, [.ref fl, .ref pe, .ref ru, .int 0, .ref ho_4, .ref ho_5, .ref ho_6, .int 0, .ref ho_8, .ref ho_9, .ref ho_10, .ref ho_11, .ref ho_12, .int 50])), (pe, .inr (3, [.int 0, .ref pe_1, .ref pe_2, .ref pe_3, .ref pe_4, .ref pe_5, .ref pe_6, .ref pe_7, .ref pe_8, .ref pe_9, .ref pe_10])), (fl, .inr (1, [.int 0, .int 0, .int 0, .ref fl_3, .ref fl_4, .ref fl_5, .ref fl_6, .ref fl_7]))]) F hK hP hD hS 0 rfl clX4 2 (by decide) flX4_15 rfl rfl rfl (Nat.le_of_ble_eq_true rfl) dX4_examine_2 rfl (fun H locs hP hD hS => ?_)
  refine lv_aload_n hx hb dX4_examine_5 rfl (lv_at hl 0 rfl) ?_
  refine lv_iconst (v := (-1)) hx hb dX4_examine_6 (by decide) ?_
  refine g_put (w' := [(pl, .inr (4, [.ref ho, .ref pl_1, .int 0, .int (-1), .int (-1), .ref pl_5])), (ho, .inr (2, [.ref fl, .ref pe, .ref ru, .int 0, .ref ho_4, .ref ho_5, .ref ho_6, .int 0, .ref ho_8, .ref ho_9, .ref ho_10, .ref ho_11, .ref ho_12, .int 50])), (pe, .inr (3, [.int 0, .ref pe_1, .ref pe_2, .ref pe_3, .ref pe_4, .ref pe_5, .ref pe_6, .ref pe_7, .ref pe_8, .ref pe_9, .ref pe_10])), (fl, .inr (1, [.int 0, .int 0, .int 0, .ref fl_3, .ref fl_4, .ref fl_5, .ref fl_6, .ref fl_7]))]) F hK hP hD hS 0 rfl clX4 3 (by decide) flX4_19 rfl rfl rfl (Nat.le_of_ble_eq_true rfl) dX4_examine_7 rfl (fun H locs hP hD hS => ?_)
  refine lv_aload_n hx hb dX4_examine_10 rfl (lv_at hl 0 rfl) ?_
  refine lv_iconst (v := (-1)) hx hb dX4_examine_11 (by decide) ?_
  refine g_put (w' := [(pl, .inr (4, [.ref ho, .ref pl_1, .int 0, .int (-1), .int (-1), .ref pl_5])), (ho, .inr (2, [.ref fl, .ref pe, .ref ru, .int 0, .ref ho_4, .ref ho_5, .ref ho_6, .int 0, .ref ho_8, .ref ho_9, .ref ho_10, .ref ho_11, .ref ho_12, .int 50])), (pe, .inr (3, [.int 0, .ref pe_1, .ref pe_2, .ref pe_3, .ref pe_4, .ref pe_5, .ref pe_6, .ref pe_7, .ref pe_8, .ref pe_9, .ref pe_10])), (fl, .inr (1, [.int 0, .int 0, .int 0, .ref fl_3, .ref fl_4, .ref fl_5, .ref fl_6, .ref fl_7]))]) F hK hP hD hS 0 rfl clX4 4 (by decide) flX4_22 rfl rfl rfl (Nat.le_of_ble_eq_true rfl) dX4_examine_12 rfl (fun H locs hP hD hS => ?_)
  refine lv_aload_n hx hb dX4_examine_15 rfl (lv_at hl 0 rfl) ?_
  refine cvv (wr := [(fl, .inr (1, [.int 0, .int 0, .int 0, .ref fl_3, .ref fl_4, .ref fl_5, .ref fl_6, .ref fl_7]))]) (As := []) (rest := []) (b := pl) (k1 := 0) (s1 := 0) F hK hP hD hS hA (k_X4_findForbiddenDay l G pl ho pl_1 pl_5 fl pe ru ho_4 ho_5 ho_6 ho_8 ho_9 ho_10 ho_11 ho_12 pe_1 pe_2 pe_3 pe_4 pe_5 pe_6 pe_7 pe_8 pe_9 pe_10) kmV_X4_findForbiddenDay mlX4_78 clX4 rfl 0 rfl ⟨(Nat.le_of_ble_eq_true rfl), (Nat.le_of_ble_eq_true rfl)⟩ [0, 1, 2] [3] rfl rfl rfl rfl (by decide) hl.1 rfl (Nat.le_of_ble_eq_true rfl) dX4_examine_16 ⟨(Nat.le_of_ble_eq_true rfl), (Nat.le_of_ble_eq_true rfl)⟩ rfl rfl (fun u1 H locs hwr2 (hP : va_P G.1 vwCl [(fl, .inr (1, [.int 0, .int 0, .int 0, .ref fl_3, .ref fl_4, .ref fl_5, .ref fl_6, .ref fl_7])), (pl, .inr (4, [.ref ho, .ref pl_1, .int 0, .int (-1), .int (-1), .ref pl_5])), (ho, .inr (2, [.ref fl, .ref pe, .ref ru, .int 0, .ref ho_4, .ref ho_5, .ref ho_6, .int 0, .ref ho_8, .ref ho_9, .ref ho_10, .ref ho_11, .ref ho_12, .int 50])), (pe, .inr (3, [.int 0, .ref pe_1, .ref pe_2, .ref pe_3, .ref pe_4, .ref pe_5, .ref pe_6, .ref pe_7, .ref pe_8, .ref pe_9, .ref pe_10]))] H) (hD : va_D A [(fl, .inr (1, [.int 0, .int 0, .int 0, .ref fl_3, .ref fl_4, .ref fl_5, .ref fl_6, .ref fl_7])), (pl, .inr (4, [.ref ho, .ref pl_1, .int 0, .int (-1), .int (-1), .ref pl_5])), (ho, .inr (2, [.ref fl, .ref pe, .ref ru, .int 0, .ref ho_4, .ref ho_5, .ref ho_6, .int 0, .ref ho_8, .ref ho_9, .ref ho_10, .ref ho_11, .ref ho_12, .int 50])), (pe, .inr (3, [.int 0, .ref pe_1, .ref pe_2, .ref pe_3, .ref pe_4, .ref pe_5, .ref pe_6, .ref pe_7, .ref pe_8, .ref pe_9, .ref pe_10]))]) hS => ?_)
  refine lv_aload_n hx hb dX4_examine_19 rfl (lv_at hl 0 rfl) ?_
  refine g_get F hK hP 1 rfl clX4 2 (by decide) flX4_15 rfl dX4_examine_20 ?_
  refine lv_if_ne (tgt := 30) hx hb dX4_examine_23 (by decide) (fun h_ => absurd (by decide +kernel) h_) (fun _ => ?_)
  refine lv_aload_n hx hb dX4_examine_26 rfl (lv_at hl 0 rfl) ?_
  refine cvv (wr := [(fl, .inr (1, [.int 0, .int 0, .int 0, .ref fl_3, .ref fl_4, .ref fl_5, .ref fl_6, .ref fl_7]))]) (As := []) (rest := []) (b := pl) (k1 := 0) (s1 := 0) F hK hP hD hS hA (k_X4_findOtherNumber l G pl ho pl_1 pl_5 fl pe ru ho_4 ho_5 ho_6 ho_8 ho_9 ho_10 ho_11 ho_12 pe_1 pe_2 pe_3 pe_4 pe_5 pe_6 pe_7 pe_8 pe_9 pe_10) kmV_X4_findOtherNumber mlX4_81 clX4 rfl 0 rfl ⟨(Nat.le_of_ble_eq_true rfl), (Nat.le_of_ble_eq_true rfl)⟩ [1, 2, 3] [0] rfl rfl rfl rfl (by decide) hl.1 rfl (Nat.le_of_ble_eq_true rfl) dX4_examine_27 ⟨(Nat.le_of_ble_eq_true rfl), (Nat.le_of_ble_eq_true rfl)⟩ rfl rfl (fun u3 H locs hwr4 (hP : va_P G.1 vwCl [(fl, .inr (1, [.int 0, .int 0, .int 0, .ref fl_3, .ref fl_4, .ref fl_5, .ref fl_6, .ref fl_7])), (pl, .inr (4, [.ref ho, .ref pl_1, .int 0, .int (-1), .int (-1), .ref pl_5])), (ho, .inr (2, [.ref fl, .ref pe, .ref ru, .int 0, .ref ho_4, .ref ho_5, .ref ho_6, .int 0, .ref ho_8, .ref ho_9, .ref ho_10, .ref ho_11, .ref ho_12, .int 50])), (pe, .inr (3, [.int 0, .ref pe_1, .ref pe_2, .ref pe_3, .ref pe_4, .ref pe_5, .ref pe_6, .ref pe_7, .ref pe_8, .ref pe_9, .ref pe_10]))] H) (hD : va_D A [(fl, .inr (1, [.int 0, .int 0, .int 0, .ref fl_3, .ref fl_4, .ref fl_5, .ref fl_6, .ref fl_7])), (pl, .inr (4, [.ref ho, .ref pl_1, .int 0, .int (-1), .int (-1), .ref pl_5])), (ho, .inr (2, [.ref fl, .ref pe, .ref ru, .int 0, .ref ho_4, .ref ho_5, .ref ho_6, .int 0, .ref ho_8, .ref ho_9, .ref ho_10, .ref ho_11, .ref ho_12, .int 50])), (pe, .inr (3, [.int 0, .ref pe_1, .ref pe_2, .ref pe_3, .ref pe_4, .ref pe_5, .ref pe_6, .ref pe_7, .ref pe_8, .ref pe_9, .ref pe_10]))]) hS => ?_)
  refine lv_aload_n hx hb dX4_examine_30 rfl (lv_at hl 0 rfl) ?_
  refine g_get F hK hP 1 rfl clX4 2 (by decide) flX4_15 rfl dX4_examine_31 ?_
  refine lv_if_ne (tgt := 41) hx hb dX4_examine_34 (by decide) (fun h_ => absurd (by decide +kernel) h_) (fun _ => ?_)
  refine lv_aload_n hx hb dX4_examine_37 rfl (lv_at hl 0 rfl) ?_
  refine cvv (wr := []) (As := []) (rest := []) (b := pl) (k1 := 0) (s1 := 0) F hK hP hD hS hA (k_X4_findStanding l G pl ho pl_1 pl_5 fl pe ru ho_4 ho_5 ho_6 ho_8 ho_9 ho_10 ho_11 ho_12 pe_1 pe_2 pe_3 pe_4 pe_5 pe_6 pe_7 pe_8 pe_9 pe_10 fl_3 fl_4 fl_5 fl_6 fl_7) kmV_X4_findStanding mlX4_84 clX4 rfl 0 rfl ⟨(Nat.le_of_ble_eq_true rfl), (Nat.le_of_ble_eq_true rfl)⟩ [1, 2, 3, 0] [] rfl rfl rfl rfl (by decide) hl.1 rfl (Nat.le_of_ble_eq_true rfl) dX4_examine_38 ⟨(Nat.le_of_ble_eq_true rfl), (Nat.le_of_ble_eq_true rfl)⟩ rfl rfl (fun u5 H locs hwr6 (hP : va_P G.1 vwCl [(pl, .inr (4, [.ref ho, .ref pl_1, .int 0, .int (-1), .int (-1), .ref pl_5])), (ho, .inr (2, [.ref fl, .ref pe, .ref ru, .int 0, .ref ho_4, .ref ho_5, .ref ho_6, .int 0, .ref ho_8, .ref ho_9, .ref ho_10, .ref ho_11, .ref ho_12, .int 50])), (pe, .inr (3, [.int 0, .ref pe_1, .ref pe_2, .ref pe_3, .ref pe_4, .ref pe_5, .ref pe_6, .ref pe_7, .ref pe_8, .ref pe_9, .ref pe_10])), (fl, .inr (1, [.int 0, .int 0, .int 0, .ref fl_3, .ref fl_4, .ref fl_5, .ref fl_6, .ref fl_7]))] H) (hD : va_D A [(pl, .inr (4, [.ref ho, .ref pl_1, .int 0, .int (-1), .int (-1), .ref pl_5])), (ho, .inr (2, [.ref fl, .ref pe, .ref ru, .int 0, .ref ho_4, .ref ho_5, .ref ho_6, .int 0, .ref ho_8, .ref ho_9, .ref ho_10, .ref ho_11, .ref ho_12, .int 50])), (pe, .inr (3, [.int 0, .ref pe_1, .ref pe_2, .ref pe_3, .ref pe_4, .ref pe_5, .ref pe_6, .ref pe_7, .ref pe_8, .ref pe_9, .ref pe_10])), (fl, .inr (1, [.int 0, .int 0, .int 0, .ref fl_3, .ref fl_4, .ref fl_5, .ref fl_6, .ref fl_7]))]) hS => ?_)
  refine lv_aload_n hx hb dX4_examine_41 rfl (lv_at hl 0 rfl) ?_
  refine g_get F hK hP 0 rfl clX4 2 (by decide) flX4_15 rfl dX4_examine_42 ?_
  refine lv_if_ne (tgt := 52) hx hb dX4_examine_45 (by decide) (fun h_ => absurd (by decide +kernel) h_) (fun _ => ?_)
  refine lv_aload_n hx hb dX4_examine_48 rfl (lv_at hl 0 rfl) ?_
  refine cvv (wr := [(pe, .inr (3, [.int 0, .ref pe_1, .ref pe_2, .ref pe_3, .ref pe_4, .ref pe_5, .ref pe_6, .ref pe_7, .ref pe_8, .ref pe_9, .ref pe_10])), (fl, .inr (1, [.int 0, .int 0, .int 0, .ref fl_3, .ref fl_4, .ref fl_5, .ref fl_6, .ref fl_7]))]) (As := []) (rest := []) (b := pl) (k1 := 0) (s1 := 0) F hK hP hD hS hA (k_X4_findTeamApart l G pl ho pl_1 pl_5 fl pe ru ho_4 ho_5 ho_6 ho_8 ho_9 ho_10 ho_11 ho_12) kmV_X4_findTeamApart mlX4_87 clX4 rfl 0 rfl ⟨(Nat.le_of_ble_eq_true rfl), (Nat.le_of_ble_eq_true rfl)⟩ [0, 1] [2, 3] rfl rfl rfl rfl (by decide) hl.1 rfl (Nat.le_of_ble_eq_true rfl) dX4_examine_49 ⟨(Nat.le_of_ble_eq_true rfl), (Nat.le_of_ble_eq_true rfl)⟩ rfl rfl (fun u7 H locs hwr8 (hP : va_P G.1 vwCl [(pe, .inr (3, [.int 0, .ref pe_1, .ref pe_2, .ref pe_3, .ref pe_4, .ref pe_5, .ref pe_6, .ref pe_7, .ref pe_8, .ref pe_9, .ref pe_10])), (fl, .inr (1, [.int 0, .int 0, .int 0, .ref fl_3, .ref fl_4, .ref fl_5, .ref fl_6, .ref fl_7])), (pl, .inr (4, [.ref ho, .ref pl_1, .int 0, .int (-1), .int (-1), .ref pl_5])), (ho, .inr (2, [.ref fl, .ref pe, .ref ru, .int 0, .ref ho_4, .ref ho_5, .ref ho_6, .int 0, .ref ho_8, .ref ho_9, .ref ho_10, .ref ho_11, .ref ho_12, .int 50]))] H) (hD : va_D A [(pe, .inr (3, [.int 0, .ref pe_1, .ref pe_2, .ref pe_3, .ref pe_4, .ref pe_5, .ref pe_6, .ref pe_7, .ref pe_8, .ref pe_9, .ref pe_10])), (fl, .inr (1, [.int 0, .int 0, .int 0, .ref fl_3, .ref fl_4, .ref fl_5, .ref fl_6, .ref fl_7])), (pl, .inr (4, [.ref ho, .ref pl_1, .int 0, .int (-1), .int (-1), .ref pl_5])), (ho, .inr (2, [.ref fl, .ref pe, .ref ru, .int 0, .ref ho_4, .ref ho_5, .ref ho_6, .int 0, .ref ho_8, .ref ho_9, .ref ho_10, .ref ho_11, .ref ho_12, .int 50]))]) hS => ?_)
  exact r_v F hr hlk hP hD hS () [2, 3, 0, 1] rfl rfl trivial dX4_examine_52 (Nat.le_of_ble_eq_true rfl) (Nat.le_of_ble_eq_true rfl)
set_option maxHeartbeats 4000000 in
set_option maxRecDepth 100000 in
theorem k_X4_holds (l : Launch) (G : Gx) (pl : Nat) (ho : Nat) (pl_1 : Nat) (pl_5 : Nat) (fl : Nat) (pe : Nat) (ru : Nat) (ho_4 : Nat) (ho_5 : Nat) (ho_6 : Nat) (ho_8 : Nat) (ho_9 : Nat) (ho_10 : Nat) (ho_11 : Nat) (ho_12 : Nat) (pe_1 : Nat) (pe_2 : Nat) (pe_3 : Nat) (pe_4 : Nat) (pe_5 : Nat) (pe_6 : Nat) (pe_7 : Nat) (pe_8 : Nat) (pe_9 : Nat) (pe_10 : Nat) (fl_3 : Nat) (fl_4 : Nat) (fl_5 : Nat) (fl_6 : Nat) (fl_7 : Nat)  : CtI (S := Unit) l yX4_holds cX4_holds 1 (some .boolean) (rmD 5 0 0) G [.ref pl] [(pl, .inr (4, [.ref ho, .ref pl_1, .int 0, .int (-1), .int (-1), .ref pl_5])), (ho, .inr (2, [.ref fl, .ref pe, .ref ru, .int 0, .ref ho_4, .ref ho_5, .ref ho_6, .int 0, .ref ho_8, .ref ho_9, .ref ho_10, .ref ho_11, .ref ho_12, .int 50])), (pe, .inr (3, [.int 0, .ref pe_1, .ref pe_2, .ref pe_3, .ref pe_4, .ref pe_5, .ref pe_6, .ref pe_7, .ref pe_8, .ref pe_9, .ref pe_10])), (fl, .inr (1, [.int 0, .int 0, .int 0, .ref fl_3, .ref fl_4, .ref fl_5, .ref fl_6, .ref fl_7]))] (fun r _ => r = 1) (fun _ => [(pl, .inr (4, [.ref ho, .ref pl_1, .int 0, .int (-1), .int (-1), .ref pl_5])), (ho, .inr (2, [.ref fl, .ref pe, .ref ru, .int 0, .ref ho_4, .ref ho_5, .ref ho_6, .int 0, .ref ho_8, .ref ho_9, .ref ho_10, .ref ho_11, .ref ho_12, .int 50])), (pe, .inr (3, [.int 0, .ref pe_1, .ref pe_2, .ref pe_3, .ref pe_4, .ref pe_5, .ref pe_6, .ref pe_7, .ref pe_8, .ref pe_9, .ref pe_10])), (fl, .inr (1, [.int 0, .int 0, .int 0, .ref fl_3, .ref fl_4, .ref fl_5, .ref fl_6, .ref fl_7]))]) := by
  refine ctI_of (own := RX4) (by decide +kernel) rfl (Nat.le_of_ble_eq_true rfl) ?_
  intro p e s m below meth c A ls F hr hlk hnm hK hP hD hA hS hl
  have hx := F.1
  have hb := F.2.1
  have hown := F.2.2.2.1
  have hl : lv_has ls 1 [(0, .ref pl)] := hl
  refine lv_aload_n hx hb dX4_holds_0 rfl (lv_at hl 0 rfl) ?_
  refine cvv (wr := []) (As := []) (rest := []) (b := pl) (k1 := 0) (s1 := 0) F hK hP hD hS hA (k_X4_examine l G pl ho pl_1 pl_5 fl pe ru ho_4 ho_5 ho_6 ho_8 ho_9 ho_10 ho_11 ho_12 pe_1 pe_2 pe_3 pe_4 pe_5 pe_6 pe_7 pe_8 pe_9 pe_10 fl_3 fl_4 fl_5 fl_6 fl_7) kmV_X4_examine mlX4_75 clX4 rfl 0 rfl ⟨(Nat.le_of_ble_eq_true rfl), (Nat.le_of_ble_eq_true rfl)⟩ [0, 1, 2, 3] [] rfl rfl rfl rfl (by decide) hl.1 rfl (Nat.le_of_ble_eq_true rfl) dX4_holds_1 ⟨(Nat.le_of_ble_eq_true rfl), (Nat.le_of_ble_eq_true rfl)⟩ rfl rfl (fun u1 H locs hwr2 (hP : va_P G.1 vwCl [(pl, .inr (4, [.ref ho, .ref pl_1, .int 0, .int (-1), .int (-1), .ref pl_5])), (ho, .inr (2, [.ref fl, .ref pe, .ref ru, .int 0, .ref ho_4, .ref ho_5, .ref ho_6, .int 0, .ref ho_8, .ref ho_9, .ref ho_10, .ref ho_11, .ref ho_12, .int 50])), (pe, .inr (3, [.int 0, .ref pe_1, .ref pe_2, .ref pe_3, .ref pe_4, .ref pe_5, .ref pe_6, .ref pe_7, .ref pe_8, .ref pe_9, .ref pe_10])), (fl, .inr (1, [.int 0, .int 0, .int 0, .ref fl_3, .ref fl_4, .ref fl_5, .ref fl_6, .ref fl_7]))] H) (hD : va_D A [(pl, .inr (4, [.ref ho, .ref pl_1, .int 0, .int (-1), .int (-1), .ref pl_5])), (ho, .inr (2, [.ref fl, .ref pe, .ref ru, .int 0, .ref ho_4, .ref ho_5, .ref ho_6, .int 0, .ref ho_8, .ref ho_9, .ref ho_10, .ref ho_11, .ref ho_12, .int 50])), (pe, .inr (3, [.int 0, .ref pe_1, .ref pe_2, .ref pe_3, .ref pe_4, .ref pe_5, .ref pe_6, .ref pe_7, .ref pe_8, .ref pe_9, .ref pe_10])), (fl, .inr (1, [.int 0, .int 0, .int 0, .ref fl_3, .ref fl_4, .ref fl_5, .ref fl_6, .ref fl_7]))]) hS => ?_)
  refine lv_aload_n hx hb dX4_holds_4 rfl (lv_at hl 0 rfl) ?_
  refine g_get F hK hP 0 rfl clX4 2 (by decide) flX4_15 rfl dX4_holds_5 ?_
  refine lv_if_ne (tgt := 15) hx hb dX4_holds_8 (by decide) (fun h_ => absurd (by decide +kernel) h_) (fun _ => ?_)
  refine lv_iconst (v := 1) hx hb dX4_holds_11 (by decide) ?_
  refine lv_goto (tgt := 16) hx hb dX4_holds_12 (by decide) ?_
  exact r_z F hr hlk hP hD hS () [0, 1, 2, 3] rfl rfl rfl dX4_holds_16 (Nat.le_of_ble_eq_true rfl) (Nat.le_of_ble_eq_true rfl) (by decide)
set_option maxHeartbeats 4000000 in
set_option maxRecDepth 100000 in
theorem k_X4_tieWorth (l : Launch) (G : Gx) (pl : Nat) (ho : Nat) (pl_1 : Nat) (pl_5 : Nat) (fl : Nat) (pe : Nat) (ru : Nat) (ho_4 : Nat) (ho_5 : Nat) (ho_6 : Nat) (ho_8 : Nat) (ho_9 : Nat) (ho_10 : Nat) (ho_11 : Nat) (ho_12 : Nat)  : CtI (S := Unit) l yX4_tieWorth cX4_tieWorth 3 (some .int) (rmD 1 0 0) G [.ref pl] [(pl, .inr (4, [.ref ho, .ref pl_1, .int 0, .int (-1), .int (-1), .ref pl_5])), (ho, .inr (2, [.ref fl, .ref pe, .ref ru, .int 0, .ref ho_4, .ref ho_5, .ref ho_6, .int 0, .ref ho_8, .ref ho_9, .ref ho_10, .ref ho_11, .ref ho_12, .int 50]))] (fun r _ => r = 0) (fun _ => [(pl, .inr (4, [.ref ho, .ref pl_1, .int 0, .int (-1), .int (-1), .ref pl_5])), (ho, .inr (2, [.ref fl, .ref pe, .ref ru, .int 0, .ref ho_4, .ref ho_5, .ref ho_6, .int 0, .ref ho_8, .ref ho_9, .ref ho_10, .ref ho_11, .ref ho_12, .int 50]))]) := by
  refine ctI_of (own := RX4) (by decide +kernel) rfl (Nat.le_of_ble_eq_true rfl) ?_
  intro p e s m below meth c A ls F hr hlk hnm hK hP hD hA hS hl
  have hx := F.1
  have hb := F.2.1
  have hown := F.2.2.2.1
  have hl : lv_has ls 3 [(0, .ref pl)] := hl
  refine lv_iconst (v := 0) hx hb dX4_tieWorth_0 (by decide) ?_
  refine lv_istore_n (lv' := [(1, .int 0), (0, .ref pl)]) hx hb dX4_tieWorth_1 rfl hl (by decide) rfl (fun ls hl => ?_)
  refine lv_iconst (v := 0) hx hb dX4_tieWorth_2 (by decide) ?_
  refine lv_istore_n (lv' := [(2, .int 0), (1, .int 0), (0, .ref pl)]) hx hb dX4_tieWorth_3 rfl hl (by decide) rfl (fun ls hl => ?_)
  refine lv_iload_n hx hb dX4_tieWorth_4 rfl (lv_at hl 0 rfl) ?_
  refine lv_aload_n hx hb dX4_tieWorth_5 rfl (lv_at hl 2 rfl) ?_
  refine g_get F hK hP 0 rfl clX4 0 (by decide) flX4_28 rfl dX4_tieWorth_6 ?_
  refine g_get F hK hP 1 rfl clX2 7 (by decide) flX4_127 rfl dX4_tieWorth_9 ?_
  refine lv_icmp_ge (tgt := 39) hx hb dX4_tieWorth_12 (by decide) (fun _ => ?_) (fun h_ => absurd (by decide +kernel) h_)
  refine lv_iload_n hx hb dX4_tieWorth_39 rfl (lv_at hl 1 rfl) ?_
  exact r_i F hr hlk hP hD hS () [0, 1] rfl rfl rfl dX4_tieWorth_40 (Nat.le_of_ble_eq_true rfl) (Nat.le_of_ble_eq_true rfl)
set_option maxHeartbeats 4000000 in
set_option maxRecDepth 100000 in
theorem k_X4_total (l : Launch) (G : Gx) (pl : Nat) (ho : Nat) (pl_1 : Nat) (pl_5 : Nat) (fl : Nat) (pe : Nat) (ru : Nat) (ho_4 : Nat) (ho_5 : Nat) (ho_6 : Nat) (ho_8 : Nat) (ho_9 : Nat) (ho_10 : Nat) (ho_11 : Nat) (ho_12 : Nat) (pe_1 : Nat) (pe_2 : Nat) (pe_3 : Nat) (pe_4 : Nat) (pe_5 : Nat) (pe_6 : Nat) (pe_7 : Nat) (pe_8 : Nat) (pe_9 : Nat) (pe_10 : Nat)  : CtI (S := Unit) l yX4_total cX4_total 5 (some .int) (rmD 2 0 0) G [.ref pl] [(pl, .inr (4, [.ref ho, .ref pl_1, .int 0, .int (-1), .int (-1), .ref pl_5])), (ho, .inr (2, [.ref fl, .ref pe, .ref ru, .int 0, .ref ho_4, .ref ho_5, .ref ho_6, .int 0, .ref ho_8, .ref ho_9, .ref ho_10, .ref ho_11, .ref ho_12, .int 50])), (pe, .inr (3, [.int 0, .ref pe_1, .ref pe_2, .ref pe_3, .ref pe_4, .ref pe_5, .ref pe_6, .ref pe_7, .ref pe_8, .ref pe_9, .ref pe_10]))] (fun r _ => r = 0) (fun _ => [(pl, .inr (4, [.ref ho, .ref pl_1, .int 0, .int (-1), .int (-1), .ref pl_5])), (ho, .inr (2, [.ref fl, .ref pe, .ref ru, .int 0, .ref ho_4, .ref ho_5, .ref ho_6, .int 0, .ref ho_8, .ref ho_9, .ref ho_10, .ref ho_11, .ref ho_12, .int 50])), (pe, .inr (3, [.int 0, .ref pe_1, .ref pe_2, .ref pe_3, .ref pe_4, .ref pe_5, .ref pe_6, .ref pe_7, .ref pe_8, .ref pe_9, .ref pe_10]))]) := by
  refine ctI_of (own := RX4) (by decide +kernel) rfl (Nat.le_of_ble_eq_true rfl) ?_
  intro p e s m below meth c A ls F hr hlk hnm hK hP hD hA hS hl
  have hx := F.1
  have hb := F.2.1
  have hown := F.2.2.2.1
  have hl : lv_has ls 5 [(0, .ref pl)] := hl
  refine lv_aload_n hx hb dX4_total_0 rfl (lv_at hl 0 rfl) ?_
  refine cvi (wr := [(pe, .inr (3, [.int 0, .ref pe_1, .ref pe_2, .ref pe_3, .ref pe_4, .ref pe_5, .ref pe_6, .ref pe_7, .ref pe_8, .ref pe_9, .ref pe_10]))]) (As := []) (rest := []) (b := pl) (k1 := 0) (s1 := 0) F hK hP hD hS hA (k_X4_tieWorth l G pl ho pl_1 pl_5 fl pe ru ho_4 ho_5 ho_6 ho_8 ho_9 ho_10 ho_11 ho_12) kmV_X4_tieWorth mlX4_136 clX4 rfl 0 rfl ⟨(Nat.le_of_ble_eq_true rfl), (Nat.le_of_ble_eq_true rfl)⟩ [0, 1] [2] rfl rfl rfl rfl (by decide) hl.1 rfl (Nat.le_of_ble_eq_true rfl) dX4_total_1 ⟨(Nat.le_of_ble_eq_true rfl), (Nat.le_of_ble_eq_true rfl)⟩ rfl rfl (fun r2 u1 H locs hwr2 (hP : va_P G.1 vwCl [(pe, .inr (3, [.int 0, .ref pe_1, .ref pe_2, .ref pe_3, .ref pe_4, .ref pe_5, .ref pe_6, .ref pe_7, .ref pe_8, .ref pe_9, .ref pe_10])), (pl, .inr (4, [.ref ho, .ref pl_1, .int 0, .int (-1), .int (-1), .ref pl_5])), (ho, .inr (2, [.ref fl, .ref pe, .ref ru, .int 0, .ref ho_4, .ref ho_5, .ref ho_6, .int 0, .ref ho_8, .ref ho_9, .ref ho_10, .ref ho_11, .ref ho_12, .int 50]))] H) (hD : va_D A [(pe, .inr (3, [.int 0, .ref pe_1, .ref pe_2, .ref pe_3, .ref pe_4, .ref pe_5, .ref pe_6, .ref pe_7, .ref pe_8, .ref pe_9, .ref pe_10])), (pl, .inr (4, [.ref ho, .ref pl_1, .int 0, .int (-1), .int (-1), .ref pl_5])), (ho, .inr (2, [.ref fl, .ref pe, .ref ru, .int 0, .ref ho_4, .ref ho_5, .ref ho_6, .int 0, .ref ho_8, .ref ho_9, .ref ho_10, .ref ho_11, .ref ho_12, .int 50]))]) hS => ?_)
  subst hwr2
  refine lv_istore_n (lv' := [(1, .int 0), (0, .ref pl)]) hx hb dX4_total_4 rfl hl (by decide) rfl (fun ls hl => ?_)
  refine lv_iconst (v := 0) hx hb dX4_total_5 (by decide) ?_
  refine lv_istore_n (lv' := [(2, .int 0), (1, .int 0), (0, .ref pl)]) hx hb dX4_total_6 rfl hl (by decide) rfl (fun ls hl => ?_)
  refine lv_iload_n hx hb dX4_total_7 rfl (lv_at hl 0 rfl) ?_
  refine lv_iconst (v := 5) hx hb dX4_total_8 (by decide) ?_
  refine lv_icmp_ge (tgt := 87) hx hb dX4_total_9 (by decide) (fun h_ => absurd h_ (by decide +kernel)) (fun _ => ?_)
  refine lv_aload_n hx hb dX4_total_12 rfl (lv_at hl 2 rfl) ?_
  refine lv_iload_n hx hb dX4_total_13 rfl (lv_at hl 0 rfl) ?_
  refine cvi (wr := []) (As := [.int 0]) (rest := []) (b := pl) (k1 := 0) (s1 := 0) F hK hP hD hS hA (k_X4_inCount l G pl 0 ho pl_1 pl_5 fl pe ru ho_4 ho_5 ho_6 ho_8 ho_9 ho_10 ho_11 ho_12 pe_1 pe_2 pe_3 pe_4 pe_5 pe_6 pe_7 pe_8 pe_9 pe_10) kmV_X4_inCount mlX4_140 clX4 rfl 0 rfl ⟨(Nat.le_of_ble_eq_true rfl), (Nat.le_of_ble_eq_true rfl)⟩ [1, 2, 0] [] rfl rfl rfl rfl (by decide) hl.1 rfl (Nat.le_of_ble_eq_true rfl) dX4_total_14 ⟨(Nat.le_of_ble_eq_true rfl), (Nat.le_of_ble_eq_true rfl)⟩ rfl rfl (fun r4 u3 H locs hwr4 (hP : va_P G.1 vwCl [(pl, .inr (4, [.ref ho, .ref pl_1, .int 0, .int (-1), .int (-1), .ref pl_5])), (ho, .inr (2, [.ref fl, .ref pe, .ref ru, .int 0, .ref ho_4, .ref ho_5, .ref ho_6, .int 0, .ref ho_8, .ref ho_9, .ref ho_10, .ref ho_11, .ref ho_12, .int 50])), (pe, .inr (3, [.int 0, .ref pe_1, .ref pe_2, .ref pe_3, .ref pe_4, .ref pe_5, .ref pe_6, .ref pe_7, .ref pe_8, .ref pe_9, .ref pe_10]))] H) (hD : va_D A [(pl, .inr (4, [.ref ho, .ref pl_1, .int 0, .int (-1), .int (-1), .ref pl_5])), (ho, .inr (2, [.ref fl, .ref pe, .ref ru, .int 0, .ref ho_4, .ref ho_5, .ref ho_6, .int 0, .ref ho_8, .ref ho_9, .ref ho_10, .ref ho_11, .ref ho_12, .int 50])), (pe, .inr (3, [.int 0, .ref pe_1, .ref pe_2, .ref pe_3, .ref pe_4, .ref pe_5, .ref pe_6, .ref pe_7, .ref pe_8, .ref pe_9, .ref pe_10]))]) hS => ?_)
  subst hwr4
  refine lv_istore_n (lv' := [(3, .int 0), (2, .int 0), (1, .int 0), (0, .ref pl)]) hx hb dX4_total_17 rfl hl (by decide) rfl (fun ls hl => ?_)
  refine lv_iconst (v := 0) hx hb dX4_total_18 (by decide) ?_
  refine lv_istore (lv' := [(4, .int 0), (3, .int 0), (2, .int 0), (1, .int 0), (0, .ref pl)]) hx hb dX4_total_19 hl (by decide) rfl (fun ls hl => ?_)
  refine lv_iload hx hb dX4_total_21 (lv_at hl 0 rfl) ?_
  refine lv_aload_n hx hb dX4_total_23 rfl (lv_at hl 4 rfl) ?_
  refine g_get F hK hP 0 rfl clX4 0 (by decide) flX4_28 rfl dX4_total_24 ?_
  refine g_get F hK hP 1 rfl clX2 1 (by decide) flX4_39 rfl dX4_total_27 ?_
  refine g_get F hK hP 2 rfl clX3 0 (by decide) flX4_45 rfl dX4_total_30 ?_
  refine lv_icmp_ge (tgt := 81) hx hb dX4_total_33 (by decide) (fun _ => ?_) (fun h_ => absurd (by decide +kernel) h_)
  refine lv_iinc (v := 1) (lv' := [(2, .int 1), (4, .int 0), (3, .int 0), (1, .int 0), (0, .ref pl)]) hx hb dX4_total_81 hl (k := 2) rfl (by decide +kernel) (by decide) rfl (fun ls hl => ?_)
  refine lv_goto (tgt := 7) hx hb dX4_total_84 (by decide) ?_
  refine lv_iload_n hx hb dX4_total_7 rfl (lv_at hl 0 rfl) ?_
  refine lv_iconst (v := 5) hx hb dX4_total_8 (by decide) ?_
  refine lv_icmp_ge (tgt := 87) hx hb dX4_total_9 (by decide) (fun h_ => absurd h_ (by decide +kernel)) (fun _ => ?_)
  refine lv_aload_n hx hb dX4_total_12 rfl (lv_at hl 4 rfl) ?_
  refine lv_iload_n hx hb dX4_total_13 rfl (lv_at hl 0 rfl) ?_
  refine cvi (wr := []) (As := [.int 1]) (rest := []) (b := pl) (k1 := 0) (s1 := 0) F hK hP hD hS hA (k_X4_inCount l G pl 1 ho pl_1 pl_5 fl pe ru ho_4 ho_5 ho_6 ho_8 ho_9 ho_10 ho_11 ho_12 pe_1 pe_2 pe_3 pe_4 pe_5 pe_6 pe_7 pe_8 pe_9 pe_10) kmV_X4_inCount mlX4_140 clX4 rfl 0 rfl ⟨(Nat.le_of_ble_eq_true rfl), (Nat.le_of_ble_eq_true rfl)⟩ [0, 1, 2] [] rfl rfl rfl rfl (by decide) hl.1 rfl (Nat.le_of_ble_eq_true rfl) dX4_total_14 ⟨(Nat.le_of_ble_eq_true rfl), (Nat.le_of_ble_eq_true rfl)⟩ rfl rfl (fun r6 u5 H locs hwr6 (hP : va_P G.1 vwCl [(pl, .inr (4, [.ref ho, .ref pl_1, .int 0, .int (-1), .int (-1), .ref pl_5])), (ho, .inr (2, [.ref fl, .ref pe, .ref ru, .int 0, .ref ho_4, .ref ho_5, .ref ho_6, .int 0, .ref ho_8, .ref ho_9, .ref ho_10, .ref ho_11, .ref ho_12, .int 50])), (pe, .inr (3, [.int 0, .ref pe_1, .ref pe_2, .ref pe_3, .ref pe_4, .ref pe_5, .ref pe_6, .ref pe_7, .ref pe_8, .ref pe_9, .ref pe_10]))] H) (hD : va_D A [(pl, .inr (4, [.ref ho, .ref pl_1, .int 0, .int (-1), .int (-1), .ref pl_5])), (ho, .inr (2, [.ref fl, .ref pe, .ref ru, .int 0, .ref ho_4, .ref ho_5, .ref ho_6, .int 0, .ref ho_8, .ref ho_9, .ref ho_10, .ref ho_11, .ref ho_12, .int 50])), (pe, .inr (3, [.int 0, .ref pe_1, .ref pe_2, .ref pe_3, .ref pe_4, .ref pe_5, .ref pe_6, .ref pe_7, .ref pe_8, .ref pe_9, .ref pe_10]))]) hS => ?_)
  subst hwr6
  refine lv_istore_n (lv' := [(3, .int 0), (2, .int 1), (4, .int 0), (1, .int 0), (0, .ref pl)]) hx hb dX4_total_17 rfl hl (by decide) rfl (fun ls hl => ?_)
  refine lv_iconst (v := 0) hx hb dX4_total_18 (by decide) ?_
  refine lv_istore (lv' := [(4, .int 0), (3, .int 0), (2, .int 1), (1, .int 0), (0, .ref pl)]) hx hb dX4_total_19 hl (by decide) rfl (fun ls hl => ?_)
  refine lv_iload hx hb dX4_total_21 (lv_at hl 0 rfl) ?_
  refine lv_aload_n hx hb dX4_total_23 rfl (lv_at hl 4 rfl) ?_
  refine g_get F hK hP 0 rfl clX4 0 (by decide) flX4_28 rfl dX4_total_24 ?_
  refine g_get F hK hP 1 rfl clX2 1 (by decide) flX4_39 rfl dX4_total_27 ?_
  refine g_get F hK hP 2 rfl clX3 0 (by decide) flX4_45 rfl dX4_total_30 ?_
  refine lv_icmp_ge (tgt := 81) hx hb dX4_total_33 (by decide) (fun _ => ?_) (fun h_ => absurd (by decide +kernel) h_)
  refine lv_iinc (v := 2) (lv' := [(2, .int 2), (4, .int 0), (3, .int 0), (1, .int 0), (0, .ref pl)]) hx hb dX4_total_81 hl (k := 2) rfl (by decide +kernel) (by decide) rfl (fun ls hl => ?_)
  refine lv_goto (tgt := 7) hx hb dX4_total_84 (by decide) ?_
  refine lv_iload_n hx hb dX4_total_7 rfl (lv_at hl 0 rfl) ?_
  refine lv_iconst (v := 5) hx hb dX4_total_8 (by decide) ?_
  refine lv_icmp_ge (tgt := 87) hx hb dX4_total_9 (by decide) (fun h_ => absurd h_ (by decide +kernel)) (fun _ => ?_)
  refine lv_aload_n hx hb dX4_total_12 rfl (lv_at hl 4 rfl) ?_
  refine lv_iload_n hx hb dX4_total_13 rfl (lv_at hl 0 rfl) ?_
  refine cvi (wr := []) (As := [.int 2]) (rest := []) (b := pl) (k1 := 0) (s1 := 0) F hK hP hD hS hA (k_X4_inCount l G pl 2 ho pl_1 pl_5 fl pe ru ho_4 ho_5 ho_6 ho_8 ho_9 ho_10 ho_11 ho_12 pe_1 pe_2 pe_3 pe_4 pe_5 pe_6 pe_7 pe_8 pe_9 pe_10) kmV_X4_inCount mlX4_140 clX4 rfl 0 rfl ⟨(Nat.le_of_ble_eq_true rfl), (Nat.le_of_ble_eq_true rfl)⟩ [0, 1, 2] [] rfl rfl rfl rfl (by decide) hl.1 rfl (Nat.le_of_ble_eq_true rfl) dX4_total_14 ⟨(Nat.le_of_ble_eq_true rfl), (Nat.le_of_ble_eq_true rfl)⟩ rfl rfl (fun r8 u7 H locs hwr8 (hP : va_P G.1 vwCl [(pl, .inr (4, [.ref ho, .ref pl_1, .int 0, .int (-1), .int (-1), .ref pl_5])), (ho, .inr (2, [.ref fl, .ref pe, .ref ru, .int 0, .ref ho_4, .ref ho_5, .ref ho_6, .int 0, .ref ho_8, .ref ho_9, .ref ho_10, .ref ho_11, .ref ho_12, .int 50])), (pe, .inr (3, [.int 0, .ref pe_1, .ref pe_2, .ref pe_3, .ref pe_4, .ref pe_5, .ref pe_6, .ref pe_7, .ref pe_8, .ref pe_9, .ref pe_10]))] H) (hD : va_D A [(pl, .inr (4, [.ref ho, .ref pl_1, .int 0, .int (-1), .int (-1), .ref pl_5])), (ho, .inr (2, [.ref fl, .ref pe, .ref ru, .int 0, .ref ho_4, .ref ho_5, .ref ho_6, .int 0, .ref ho_8, .ref ho_9, .ref ho_10, .ref ho_11, .ref ho_12, .int 50])), (pe, .inr (3, [.int 0, .ref pe_1, .ref pe_2, .ref pe_3, .ref pe_4, .ref pe_5, .ref pe_6, .ref pe_7, .ref pe_8, .ref pe_9, .ref pe_10]))]) hS => ?_)
  subst hwr8
  refine lv_istore_n (lv' := [(3, .int 0), (2, .int 2), (4, .int 0), (1, .int 0), (0, .ref pl)]) hx hb dX4_total_17 rfl hl (by decide) rfl (fun ls hl => ?_)
  refine lv_iconst (v := 0) hx hb dX4_total_18 (by decide) ?_
  refine lv_istore (lv' := [(4, .int 0), (3, .int 0), (2, .int 2), (1, .int 0), (0, .ref pl)]) hx hb dX4_total_19 hl (by decide) rfl (fun ls hl => ?_)
  refine lv_iload hx hb dX4_total_21 (lv_at hl 0 rfl) ?_
  refine lv_aload_n hx hb dX4_total_23 rfl (lv_at hl 4 rfl) ?_
  refine g_get F hK hP 0 rfl clX4 0 (by decide) flX4_28 rfl dX4_total_24 ?_
  refine g_get F hK hP 1 rfl clX2 1 (by decide) flX4_39 rfl dX4_total_27 ?_
  refine g_get F hK hP 2 rfl clX3 0 (by decide) flX4_45 rfl dX4_total_30 ?_
  refine lv_icmp_ge (tgt := 81) hx hb dX4_total_33 (by decide) (fun _ => ?_) (fun h_ => absurd (by decide +kernel) h_)
  refine lv_iinc (v := 3) (lv' := [(2, .int 3), (4, .int 0), (3, .int 0), (1, .int 0), (0, .ref pl)]) hx hb dX4_total_81 hl (k := 2) rfl (by decide +kernel) (by decide) rfl (fun ls hl => ?_)
  refine lv_goto (tgt := 7) hx hb dX4_total_84 (by decide) ?_
  refine lv_iload_n hx hb dX4_total_7 rfl (lv_at hl 0 rfl) ?_
  refine lv_iconst (v := 5) hx hb dX4_total_8 (by decide) ?_
  refine lv_icmp_ge (tgt := 87) hx hb dX4_total_9 (by decide) (fun h_ => absurd h_ (by decide +kernel)) (fun _ => ?_)
  refine lv_aload_n hx hb dX4_total_12 rfl (lv_at hl 4 rfl) ?_
  refine lv_iload_n hx hb dX4_total_13 rfl (lv_at hl 0 rfl) ?_
  refine cvi (wr := []) (As := [.int 3]) (rest := []) (b := pl) (k1 := 0) (s1 := 0) F hK hP hD hS hA (k_X4_inCount l G pl 3 ho pl_1 pl_5 fl pe ru ho_4 ho_5 ho_6 ho_8 ho_9 ho_10 ho_11 ho_12 pe_1 pe_2 pe_3 pe_4 pe_5 pe_6 pe_7 pe_8 pe_9 pe_10) kmV_X4_inCount mlX4_140 clX4 rfl 0 rfl ⟨(Nat.le_of_ble_eq_true rfl), (Nat.le_of_ble_eq_true rfl)⟩ [0, 1, 2] [] rfl rfl rfl rfl (by decide) hl.1 rfl (Nat.le_of_ble_eq_true rfl) dX4_total_14 ⟨(Nat.le_of_ble_eq_true rfl), (Nat.le_of_ble_eq_true rfl)⟩ rfl rfl (fun r10 u9 H locs hwr10 (hP : va_P G.1 vwCl [(pl, .inr (4, [.ref ho, .ref pl_1, .int 0, .int (-1), .int (-1), .ref pl_5])), (ho, .inr (2, [.ref fl, .ref pe, .ref ru, .int 0, .ref ho_4, .ref ho_5, .ref ho_6, .int 0, .ref ho_8, .ref ho_9, .ref ho_10, .ref ho_11, .ref ho_12, .int 50])), (pe, .inr (3, [.int 0, .ref pe_1, .ref pe_2, .ref pe_3, .ref pe_4, .ref pe_5, .ref pe_6, .ref pe_7, .ref pe_8, .ref pe_9, .ref pe_10]))] H) (hD : va_D A [(pl, .inr (4, [.ref ho, .ref pl_1, .int 0, .int (-1), .int (-1), .ref pl_5])), (ho, .inr (2, [.ref fl, .ref pe, .ref ru, .int 0, .ref ho_4, .ref ho_5, .ref ho_6, .int 0, .ref ho_8, .ref ho_9, .ref ho_10, .ref ho_11, .ref ho_12, .int 50])), (pe, .inr (3, [.int 0, .ref pe_1, .ref pe_2, .ref pe_3, .ref pe_4, .ref pe_5, .ref pe_6, .ref pe_7, .ref pe_8, .ref pe_9, .ref pe_10]))]) hS => ?_)
  subst hwr10
  refine lv_istore_n (lv' := [(3, .int 0), (2, .int 3), (4, .int 0), (1, .int 0), (0, .ref pl)]) hx hb dX4_total_17 rfl hl (by decide) rfl (fun ls hl => ?_)
  refine lv_iconst (v := 0) hx hb dX4_total_18 (by decide) ?_
  refine lv_istore (lv' := [(4, .int 0), (3, .int 0), (2, .int 3), (1, .int 0), (0, .ref pl)]) hx hb dX4_total_19 hl (by decide) rfl (fun ls hl => ?_)
  refine lv_iload hx hb dX4_total_21 (lv_at hl 0 rfl) ?_
  refine lv_aload_n hx hb dX4_total_23 rfl (lv_at hl 4 rfl) ?_
  refine g_get F hK hP 0 rfl clX4 0 (by decide) flX4_28 rfl dX4_total_24 ?_
  refine g_get F hK hP 1 rfl clX2 1 (by decide) flX4_39 rfl dX4_total_27 ?_
  refine g_get F hK hP 2 rfl clX3 0 (by decide) flX4_45 rfl dX4_total_30 ?_
  refine lv_icmp_ge (tgt := 81) hx hb dX4_total_33 (by decide) (fun _ => ?_) (fun h_ => absurd (by decide +kernel) h_)
  refine lv_iinc (v := 4) (lv' := [(2, .int 4), (4, .int 0), (3, .int 0), (1, .int 0), (0, .ref pl)]) hx hb dX4_total_81 hl (k := 2) rfl (by decide +kernel) (by decide) rfl (fun ls hl => ?_)
  refine lv_goto (tgt := 7) hx hb dX4_total_84 (by decide) ?_
  refine lv_iload_n hx hb dX4_total_7 rfl (lv_at hl 0 rfl) ?_
  refine lv_iconst (v := 5) hx hb dX4_total_8 (by decide) ?_
  refine lv_icmp_ge (tgt := 87) hx hb dX4_total_9 (by decide) (fun h_ => absurd h_ (by decide +kernel)) (fun _ => ?_)
  refine lv_aload_n hx hb dX4_total_12 rfl (lv_at hl 4 rfl) ?_
  refine lv_iload_n hx hb dX4_total_13 rfl (lv_at hl 0 rfl) ?_
  refine cvi (wr := []) (As := [.int 4]) (rest := []) (b := pl) (k1 := 0) (s1 := 0) F hK hP hD hS hA (k_X4_inCount l G pl 4 ho pl_1 pl_5 fl pe ru ho_4 ho_5 ho_6 ho_8 ho_9 ho_10 ho_11 ho_12 pe_1 pe_2 pe_3 pe_4 pe_5 pe_6 pe_7 pe_8 pe_9 pe_10) kmV_X4_inCount mlX4_140 clX4 rfl 0 rfl ⟨(Nat.le_of_ble_eq_true rfl), (Nat.le_of_ble_eq_true rfl)⟩ [0, 1, 2] [] rfl rfl rfl rfl (by decide) hl.1 rfl (Nat.le_of_ble_eq_true rfl) dX4_total_14 ⟨(Nat.le_of_ble_eq_true rfl), (Nat.le_of_ble_eq_true rfl)⟩ rfl rfl (fun r12 u11 H locs hwr12 (hP : va_P G.1 vwCl [(pl, .inr (4, [.ref ho, .ref pl_1, .int 0, .int (-1), .int (-1), .ref pl_5])), (ho, .inr (2, [.ref fl, .ref pe, .ref ru, .int 0, .ref ho_4, .ref ho_5, .ref ho_6, .int 0, .ref ho_8, .ref ho_9, .ref ho_10, .ref ho_11, .ref ho_12, .int 50])), (pe, .inr (3, [.int 0, .ref pe_1, .ref pe_2, .ref pe_3, .ref pe_4, .ref pe_5, .ref pe_6, .ref pe_7, .ref pe_8, .ref pe_9, .ref pe_10]))] H) (hD : va_D A [(pl, .inr (4, [.ref ho, .ref pl_1, .int 0, .int (-1), .int (-1), .ref pl_5])), (ho, .inr (2, [.ref fl, .ref pe, .ref ru, .int 0, .ref ho_4, .ref ho_5, .ref ho_6, .int 0, .ref ho_8, .ref ho_9, .ref ho_10, .ref ho_11, .ref ho_12, .int 50])), (pe, .inr (3, [.int 0, .ref pe_1, .ref pe_2, .ref pe_3, .ref pe_4, .ref pe_5, .ref pe_6, .ref pe_7, .ref pe_8, .ref pe_9, .ref pe_10]))]) hS => ?_)
  subst hwr12
  refine lv_istore_n (lv' := [(3, .int 0), (2, .int 4), (4, .int 0), (1, .int 0), (0, .ref pl)]) hx hb dX4_total_17 rfl hl (by decide) rfl (fun ls hl => ?_)
  refine lv_iconst (v := 0) hx hb dX4_total_18 (by decide) ?_
  refine lv_istore (lv' := [(4, .int 0), (3, .int 0), (2, .int 4), (1, .int 0), (0, .ref pl)]) hx hb dX4_total_19 hl (by decide) rfl (fun ls hl => ?_)
  refine lv_iload hx hb dX4_total_21 (lv_at hl 0 rfl) ?_
  refine lv_aload_n hx hb dX4_total_23 rfl (lv_at hl 4 rfl) ?_
  refine g_get F hK hP 0 rfl clX4 0 (by decide) flX4_28 rfl dX4_total_24 ?_
  refine g_get F hK hP 1 rfl clX2 1 (by decide) flX4_39 rfl dX4_total_27 ?_
  refine g_get F hK hP 2 rfl clX3 0 (by decide) flX4_45 rfl dX4_total_30 ?_
  refine lv_icmp_ge (tgt := 81) hx hb dX4_total_33 (by decide) (fun _ => ?_) (fun h_ => absurd (by decide +kernel) h_)
  refine lv_iinc (v := 5) (lv' := [(2, .int 5), (4, .int 0), (3, .int 0), (1, .int 0), (0, .ref pl)]) hx hb dX4_total_81 hl (k := 2) rfl (by decide +kernel) (by decide) rfl (fun ls hl => ?_)
  refine lv_goto (tgt := 7) hx hb dX4_total_84 (by decide) ?_
  refine lv_iload_n hx hb dX4_total_7 rfl (lv_at hl 0 rfl) ?_
  refine lv_iconst (v := 5) hx hb dX4_total_8 (by decide) ?_
  refine lv_icmp_ge (tgt := 87) hx hb dX4_total_9 (by decide) (fun _ => ?_) (fun h_ => absurd (by decide +kernel) h_)
  refine lv_iload_n hx hb dX4_total_87 rfl (lv_at hl 3 rfl) ?_
  exact r_i F hr hlk hP hD hS () [0, 1, 2] rfl rfl rfl dX4_total_88 (Nat.le_of_ble_eq_true rfl) (Nat.le_of_ble_eq_true rfl)
set_option maxHeartbeats 4000000 in
set_option maxRecDepth 100000 in
theorem k_X4_greatestUnmet (l : Launch) (G : Gx) (pl : Nat) (ho : Nat) (pl_1 : Nat) (pl_5 : Nat) (fl : Nat) (pe : Nat) (ru : Nat) (ho_4 : Nat) (ho_5 : Nat) (ho_6 : Nat) (ho_8 : Nat) (ho_9 : Nat) (ho_10 : Nat) (ho_11 : Nat) (ho_12 : Nat)  : CtI (S := Unit) l yX4_greatestUnmet cX4_greatestUnmet 3 (some .int) (rmD 1 0 0) G [.ref pl] [(pl, .inr (4, [.ref ho, .ref pl_1, .int 0, .int (-1), .int (-1), .ref pl_5])), (ho, .inr (2, [.ref fl, .ref pe, .ref ru, .int 0, .ref ho_4, .ref ho_5, .ref ho_6, .int 0, .ref ho_8, .ref ho_9, .ref ho_10, .ref ho_11, .ref ho_12, .int 50]))] (fun r _ => r = (-1)) (fun _ => [(pl, .inr (4, [.ref ho, .ref pl_1, .int 0, .int (-1), .int (-1), .ref pl_5])), (ho, .inr (2, [.ref fl, .ref pe, .ref ru, .int 0, .ref ho_4, .ref ho_5, .ref ho_6, .int 0, .ref ho_8, .ref ho_9, .ref ho_10, .ref ho_11, .ref ho_12, .int 50]))]) := by
  refine ctI_of (own := RX4) (by decide +kernel) rfl (Nat.le_of_ble_eq_true rfl) ?_
  intro p e s m below meth c A ls F hr hlk hnm hK hP hD hA hS hl
  have hx := F.1
  have hb := F.2.1
  have hown := F.2.2.2.1
  have hl : lv_has ls 3 [(0, .ref pl)] := hl
  refine lv_iconst (v := (-1)) hx hb dX4_greatestUnmet_0 (by decide) ?_
  refine lv_istore_n (lv' := [(1, .int (-1)), (0, .ref pl)]) hx hb dX4_greatestUnmet_1 rfl hl (by decide) rfl (fun ls hl => ?_)
  refine lv_iconst (v := 0) hx hb dX4_greatestUnmet_2 (by decide) ?_
  refine lv_istore_n (lv' := [(2, .int 0), (1, .int (-1)), (0, .ref pl)]) hx hb dX4_greatestUnmet_3 rfl hl (by decide) rfl (fun ls hl => ?_)
  refine lv_iload_n hx hb dX4_greatestUnmet_4 rfl (lv_at hl 0 rfl) ?_
  refine lv_aload_n hx hb dX4_greatestUnmet_5 rfl (lv_at hl 2 rfl) ?_
  refine g_get F hK hP 0 rfl clX4 0 (by decide) flX4_28 rfl dX4_greatestUnmet_6 ?_
  refine g_get F hK hP 1 rfl clX2 7 (by decide) flX4_127 rfl dX4_greatestUnmet_9 ?_
  refine lv_icmp_ge (tgt := 57) hx hb dX4_greatestUnmet_12 (by decide) (fun _ => ?_) (fun h_ => absurd (by decide +kernel) h_)
  refine lv_iload_n hx hb dX4_greatestUnmet_57 rfl (lv_at hl 1 rfl) ?_
  exact r_i F hr hlk hP hD hS () [0, 1] rfl rfl rfl dX4_greatestUnmet_58 (Nat.le_of_ble_eq_true rfl) (Nat.le_of_ble_eq_true rfl)
set_option maxHeartbeats 4000000 in
set_option maxRecDepth 100000 in
theorem k_X4_unmetTies (l : Launch) (G : Gx) (pl : Nat) (ho : Nat) (pl_1 : Nat) (pl_5 : Nat) (fl : Nat) (pe : Nat) (ru : Nat) (ho_4 : Nat) (ho_5 : Nat) (ho_6 : Nat) (ho_8 : Nat) (ho_9 : Nat) (ho_10 : Nat) (ho_11 : Nat) (ho_12 : Nat)  : CtI (S := Unit) l yX4_unmetTies cX4_unmetTies 3 (some .int) (rmD 1 0 0) G [.ref pl] [(pl, .inr (4, [.ref ho, .ref pl_1, .int 0, .int (-1), .int (-1), .ref pl_5])), (ho, .inr (2, [.ref fl, .ref pe, .ref ru, .int 0, .ref ho_4, .ref ho_5, .ref ho_6, .int 0, .ref ho_8, .ref ho_9, .ref ho_10, .ref ho_11, .ref ho_12, .int 50]))] (fun r _ => r = 0) (fun _ => [(pl, .inr (4, [.ref ho, .ref pl_1, .int 0, .int (-1), .int (-1), .ref pl_5])), (ho, .inr (2, [.ref fl, .ref pe, .ref ru, .int 0, .ref ho_4, .ref ho_5, .ref ho_6, .int 0, .ref ho_8, .ref ho_9, .ref ho_10, .ref ho_11, .ref ho_12, .int 50]))]) := by
  refine ctI_of (own := RX4) (by decide +kernel) rfl (Nat.le_of_ble_eq_true rfl) ?_
  intro p e s m below meth c A ls F hr hlk hnm hK hP hD hA hS hl
  have hx := F.1
  have hb := F.2.1
  have hown := F.2.2.2.1
  have hl : lv_has ls 3 [(0, .ref pl)] := hl
  refine lv_iconst (v := 0) hx hb dX4_unmetTies_0 (by decide) ?_
  refine lv_istore_n (lv' := [(1, .int 0), (0, .ref pl)]) hx hb dX4_unmetTies_1 rfl hl (by decide) rfl (fun ls hl => ?_)
  refine lv_iconst (v := 0) hx hb dX4_unmetTies_2 (by decide) ?_
  refine lv_istore_n (lv' := [(2, .int 0), (1, .int 0), (0, .ref pl)]) hx hb dX4_unmetTies_3 rfl hl (by decide) rfl (fun ls hl => ?_)
  refine lv_iload_n hx hb dX4_unmetTies_4 rfl (lv_at hl 0 rfl) ?_
  refine lv_aload_n hx hb dX4_unmetTies_5 rfl (lv_at hl 2 rfl) ?_
  refine g_get F hK hP 0 rfl clX4 0 (by decide) flX4_28 rfl dX4_unmetTies_6 ?_
  refine g_get F hK hP 1 rfl clX2 7 (by decide) flX4_127 rfl dX4_unmetTies_9 ?_
  refine lv_icmp_ge (tgt := 32) hx hb dX4_unmetTies_12 (by decide) (fun _ => ?_) (fun h_ => absurd (by decide +kernel) h_)
  refine lv_iload_n hx hb dX4_unmetTies_32 rfl (lv_at hl 1 rfl) ?_
  exact r_i F hr hlk hP hD hS () [0, 1] rfl rfl rfl dX4_unmetTies_33 (Nat.le_of_ble_eq_true rfl) (Nat.le_of_ble_eq_true rfl)
set_option maxHeartbeats 4000000 in
set_option maxRecDepth 100000 in
theorem k_X4_lonelyPersons (l : Launch) (G : Gx) (pl : Nat) (ho : Nat) (pl_1 : Nat) (pl_5 : Nat) (fl : Nat) (pe : Nat) (ru : Nat) (ho_4 : Nat) (ho_5 : Nat) (ho_6 : Nat) (ho_8 : Nat) (ho_9 : Nat) (ho_10 : Nat) (ho_11 : Nat) (ho_12 : Nat) (pe_1 : Nat) (pe_2 : Nat) (pe_3 : Nat) (pe_4 : Nat) (pe_5 : Nat) (pe_6 : Nat) (pe_7 : Nat) (pe_8 : Nat) (pe_9 : Nat) (pe_10 : Nat)  : CtI (S := Unit) l yX4_lonelyPersons cX4_lonelyPersons 3 (some .int) (rmD 1 0 0) G [.ref pl] [(pl, .inr (4, [.ref ho, .ref pl_1, .int 0, .int (-1), .int (-1), .ref pl_5])), (ho, .inr (2, [.ref fl, .ref pe, .ref ru, .int 0, .ref ho_4, .ref ho_5, .ref ho_6, .int 0, .ref ho_8, .ref ho_9, .ref ho_10, .ref ho_11, .ref ho_12, .int 50])), (pe, .inr (3, [.int 0, .ref pe_1, .ref pe_2, .ref pe_3, .ref pe_4, .ref pe_5, .ref pe_6, .ref pe_7, .ref pe_8, .ref pe_9, .ref pe_10]))] (fun r _ => r = 0) (fun _ => [(pl, .inr (4, [.ref ho, .ref pl_1, .int 0, .int (-1), .int (-1), .ref pl_5])), (ho, .inr (2, [.ref fl, .ref pe, .ref ru, .int 0, .ref ho_4, .ref ho_5, .ref ho_6, .int 0, .ref ho_8, .ref ho_9, .ref ho_10, .ref ho_11, .ref ho_12, .int 50])), (pe, .inr (3, [.int 0, .ref pe_1, .ref pe_2, .ref pe_3, .ref pe_4, .ref pe_5, .ref pe_6, .ref pe_7, .ref pe_8, .ref pe_9, .ref pe_10]))]) := by
  refine ctI_of (own := RX4) (by decide +kernel) rfl (Nat.le_of_ble_eq_true rfl) ?_
  intro p e s m below meth c A ls F hr hlk hnm hK hP hD hA hS hl
  have hx := F.1
  have hb := F.2.1
  have hown := F.2.2.2.1
  have hl : lv_has ls 3 [(0, .ref pl)] := hl
  refine lv_iconst (v := 0) hx hb dX4_lonelyPersons_0 (by decide) ?_
  refine lv_istore_n (lv' := [(1, .int 0), (0, .ref pl)]) hx hb dX4_lonelyPersons_1 rfl hl (by decide) rfl (fun ls hl => ?_)
  refine lv_iconst (v := 0) hx hb dX4_lonelyPersons_2 (by decide) ?_
  refine lv_istore_n (lv' := [(2, .int 0), (1, .int 0), (0, .ref pl)]) hx hb dX4_lonelyPersons_3 rfl hl (by decide) rfl (fun ls hl => ?_)
  refine lv_iload_n hx hb dX4_lonelyPersons_4 rfl (lv_at hl 0 rfl) ?_
  refine lv_aload_n hx hb dX4_lonelyPersons_5 rfl (lv_at hl 2 rfl) ?_
  refine g_get F hK hP 0 rfl clX4 0 (by decide) flX4_28 rfl dX4_lonelyPersons_6 ?_
  refine g_get F hK hP 1 rfl clX2 1 (by decide) flX4_39 rfl dX4_lonelyPersons_9 ?_
  refine g_get F hK hP 2 rfl clX3 0 (by decide) flX4_45 rfl dX4_lonelyPersons_12 ?_
  refine lv_icmp_ge (tgt := 35) hx hb dX4_lonelyPersons_15 (by decide) (fun _ => ?_) (fun h_ => absurd (by decide +kernel) h_)
  refine lv_iload_n hx hb dX4_lonelyPersons_35 rfl (lv_at hl 1 rfl) ?_
  exact r_i F hr hlk hP hD hS () [0, 1, 2] rfl rfl rfl dX4_lonelyPersons_36 (Nat.le_of_ble_eq_true rfl) (Nat.le_of_ble_eq_true rfl)
set_option maxHeartbeats 4000000 in
set_option maxRecDepth 100000 in
theorem k_X4_goRound (l : Launch) (G : Gx) (pl : Nat) (ho : Nat) (pl_1 : Nat) (pl_5 : Nat) (fl : Nat) (pe : Nat) (ru : Nat) (ho_4 : Nat) (ho_5 : Nat) (ho_6 : Nat) (ho_8 : Nat) (ho_9 : Nat) (ho_10 : Nat) (ho_11 : Nat) (ho_12 : Nat) (pe_1 : Nat) (pe_2 : Nat) (pe_3 : Nat) (pe_4 : Nat) (pe_5 : Nat) (pe_6 : Nat) (pe_7 : Nat) (pe_8 : Nat) (pe_9 : Nat) (pe_10 : Nat)  : CtI (S := Unit) l yX4_goRound cX4_goRound 4 (some .boolean) (rmD 1 0 0) G [.ref pl] [(pl, .inr (4, [.ref ho, .ref pl_1, .int 0, .int (-1), .int (-1), .ref pl_5])), (ho, .inr (2, [.ref fl, .ref pe, .ref ru, .int 0, .ref ho_4, .ref ho_5, .ref ho_6, .int 0, .ref ho_8, .ref ho_9, .ref ho_10, .ref ho_11, .ref ho_12, .int 50])), (pe, .inr (3, [.int 0, .ref pe_1, .ref pe_2, .ref pe_3, .ref pe_4, .ref pe_5, .ref pe_6, .ref pe_7, .ref pe_8, .ref pe_9, .ref pe_10]))] (fun r _ => r = 0) (fun _ => [(pl, .inr (4, [.ref ho, .ref pl_1, .int 0, .int (-1), .int (-1), .ref pl_5])), (ho, .inr (2, [.ref fl, .ref pe, .ref ru, .int 0, .ref ho_4, .ref ho_5, .ref ho_6, .int 0, .ref ho_8, .ref ho_9, .ref ho_10, .ref ho_11, .ref ho_12, .int 50])), (pe, .inr (3, [.int 0, .ref pe_1, .ref pe_2, .ref pe_3, .ref pe_4, .ref pe_5, .ref pe_6, .ref pe_7, .ref pe_8, .ref pe_9, .ref pe_10]))]) := by
  refine ctI_of (own := RX4) (by decide +kernel) rfl (Nat.le_of_ble_eq_true rfl) ?_
  intro p e s m below meth c A ls F hr hlk hnm hK hP hD hA hS hl
  have hx := F.1
  have hb := F.2.1
  have hown := F.2.2.2.1
  have hl : lv_has ls 4 [(0, .ref pl)] := hl
  refine lv_iconst (v := 0) hx hb dX4_goRound_0 (by decide) ?_
  refine lv_istore_n (lv' := [(1, .int 0), (0, .ref pl)]) hx hb dX4_goRound_1 rfl hl (by decide) rfl (fun ls hl => ?_)
  refine lv_iconst (v := 0) hx hb dX4_goRound_2 (by decide) ?_
  refine lv_istore_n (lv' := [(2, .int 0), (1, .int 0), (0, .ref pl)]) hx hb dX4_goRound_3 rfl hl (by decide) rfl (fun ls hl => ?_)
  refine lv_iload_n hx hb dX4_goRound_4 rfl (lv_at hl 0 rfl) ?_
  refine lv_aload_n hx hb dX4_goRound_5 rfl (lv_at hl 2 rfl) ?_
  refine g_get F hK hP 0 rfl clX4 0 (by decide) flX4_28 rfl dX4_goRound_6 ?_
  refine g_get F hK hP 1 rfl clX2 1 (by decide) flX4_39 rfl dX4_goRound_9 ?_
  refine g_get F hK hP 2 rfl clX3 0 (by decide) flX4_45 rfl dX4_goRound_12 ?_
  refine lv_icmp_ge (tgt := 49) hx hb dX4_goRound_15 (by decide) (fun _ => ?_) (fun h_ => absurd (by decide +kernel) h_)
  refine lv_iload_n hx hb dX4_goRound_49 rfl (lv_at hl 1 rfl) ?_
  exact r_z F hr hlk hP hD hS () [0, 1, 2] rfl rfl rfl dX4_goRound_50 (Nat.le_of_ble_eq_true rfl) (Nat.le_of_ble_eq_true rfl) (by decide)
set_option maxHeartbeats 4000000 in
set_option maxRecDepth 100000 in
theorem k_X4_unmetWithin (l : Launch) (G : Gx) (pl : Nat) (a : Int32) (ho : Nat) (pl_1 : Nat) (pl_5 : Nat) (fl : Nat) (pe : Nat) (ru : Nat) (ho_4 : Nat) (ho_5 : Nat) (ho_6 : Nat) (ho_8 : Nat) (ho_9 : Nat) (ho_10 : Nat) (ho_11 : Nat) (ho_12 : Nat)  : CtI (S := Unit) l yX4_unmetWithin cX4_unmetWithin 6 (some .int) (rmD 1 0 0) G [.ref pl, .int a] [(pl, .inr (4, [.ref ho, .ref pl_1, .int 0, .int (-1), .int (-1), .ref pl_5])), (ho, .inr (2, [.ref fl, .ref pe, .ref ru, .int 0, .ref ho_4, .ref ho_5, .ref ho_6, .int 0, .ref ho_8, .ref ho_9, .ref ho_10, .ref ho_11, .ref ho_12, .int 50]))] (fun r _ => r = 0) (fun _ => [(pl, .inr (4, [.ref ho, .ref pl_1, .int 0, .int (-1), .int (-1), .ref pl_5])), (ho, .inr (2, [.ref fl, .ref pe, .ref ru, .int 0, .ref ho_4, .ref ho_5, .ref ho_6, .int 0, .ref ho_8, .ref ho_9, .ref ho_10, .ref ho_11, .ref ho_12, .int 50]))]) := by
  refine ctI_of (own := RX4) (by decide +kernel) rfl (Nat.le_of_ble_eq_true rfl) ?_
  intro p e s m below meth c A ls F hr hlk hnm hK hP hD hA hS hl
  have hx := F.1
  have hb := F.2.1
  have hown := F.2.2.2.1
  have hl : lv_has ls 6 [(0, .ref pl), (1, .int a)] := hl
  refine lv_iconst (v := 0) hx hb dX4_unmetWithin_0 (by decide) ?_
  refine lv_istore_n (lv' := [(2, .int 0), (0, .ref pl), (1, .int a)]) hx hb dX4_unmetWithin_1 rfl hl (by decide) rfl (fun ls hl => ?_)
  refine lv_iconst (v := 0) hx hb dX4_unmetWithin_2 (by decide) ?_
  refine lv_istore_n (lv' := [(3, .int 0), (2, .int 0), (0, .ref pl), (1, .int a)]) hx hb dX4_unmetWithin_3 rfl hl (by decide) rfl (fun ls hl => ?_)
  refine lv_iload_n hx hb dX4_unmetWithin_4 rfl (lv_at hl 0 rfl) ?_
  refine lv_aload_n hx hb dX4_unmetWithin_5 rfl (lv_at hl 2 rfl) ?_
  refine g_get F hK hP 0 rfl clX4 0 (by decide) flX4_28 rfl dX4_unmetWithin_6 ?_
  refine g_get F hK hP 1 rfl clX2 7 (by decide) flX4_127 rfl dX4_unmetWithin_9 ?_
  refine lv_icmp_ge (tgt := 93) hx hb dX4_unmetWithin_12 (by decide) (fun _ => ?_) (fun h_ => absurd (by decide +kernel) h_)
  refine lv_iload_n hx hb dX4_unmetWithin_93 rfl (lv_at hl 1 rfl) ?_
  exact r_i F hr hlk hP hD hS () [0, 1] rfl rfl rfl dX4_unmetWithin_94 (Nat.le_of_ble_eq_true rfl) (Nat.le_of_ble_eq_true rfl)
set_option maxHeartbeats 4000000 in
set_option maxRecDepth 100000 in
theorem k_X8_settle (l : Launch) (G : Gx) (se : Nat) (a : Int32) (pl : Nat) (se_1 : Nat) (se_2 : Nat) (ho : Nat) (pl_1 : Nat) (pl_5 : Nat) (fl : Nat) (pe : Nat) (ru : Nat) (ho_4 : Nat) (ho_5 : Nat) (ho_6 : Nat) (ho_8 : Nat) (ho_9 : Nat) (ho_10 : Nat) (ho_11 : Nat) (ho_12 : Nat) (pe_1 : Nat) (pe_2 : Nat) (pe_3 : Nat) (pe_4 : Nat) (pe_5 : Nat) (pe_6 : Nat) (pe_7 : Nat) (pe_8 : Nat) (pe_9 : Nat) (pe_10 : Nat) (fl_3 : Nat) (fl_4 : Nat) (fl_5 : Nat) (fl_6 : Nat) (fl_7 : Nat)  : CtV (S := Unit) l yX8_settle cX8_settle 4 none (rmD 1 0 0) G [.ref se, .int a] [(se, .inr (8, [.ref pl, .ref se_1, .ref se_2])), (pl, .inr (4, [.ref ho, .ref pl_1, .int 0, .int (-1), .int (-1), .ref pl_5])), (ho, .inr (2, [.ref fl, .ref pe, .ref ru, .int 0, .ref ho_4, .ref ho_5, .ref ho_6, .int 0, .ref ho_8, .ref ho_9, .ref ho_10, .ref ho_11, .ref ho_12, .int 50])), (pe, .inr (3, [.int 0, .ref pe_1, .ref pe_2, .ref pe_3, .ref pe_4, .ref pe_5, .ref pe_6, .ref pe_7, .ref pe_8, .ref pe_9, .ref pe_10])), (fl, .inr (1, [.int 0, .int 0, .int 0, .ref fl_3, .ref fl_4, .ref fl_5, .ref fl_6, .ref fl_7]))] (fun _ => True) (fun _ => [(se, .inr (8, [.ref pl, .ref se_1, .ref se_2])), (pl, .inr (4, [.ref ho, .ref pl_1, .int 0, .int (-1), .int (-1), .ref pl_5])), (ho, .inr (2, [.ref fl, .ref pe, .ref ru, .int 0, .ref ho_4, .ref ho_5, .ref ho_6, .int 0, .ref ho_8, .ref ho_9, .ref ho_10, .ref ho_11, .ref ho_12, .int 50])), (pe, .inr (3, [.int 0, .ref pe_1, .ref pe_2, .ref pe_3, .ref pe_4, .ref pe_5, .ref pe_6, .ref pe_7, .ref pe_8, .ref pe_9, .ref pe_10])), (fl, .inr (1, [.int 0, .int 0, .int 0, .ref fl_3, .ref fl_4, .ref fl_5, .ref fl_6, .ref fl_7]))]) := by
  refine ctV_of (own := RX8) (by decide +kernel) rfl (Nat.le_of_ble_eq_true rfl) ?_
  intro p e s m below meth c A ls F hr hlk hnm hK hP hD hA hS hl
  have hx := F.1
  have hb := F.2.1
  have hown := F.2.2.2.1
  have hl : lv_has ls 4 [(0, .ref se), (1, .int a)] := hl
  refine lv_aload_n hx hb dX8_settle_0 rfl (lv_at hl 0 rfl) ?_
  refine g_get F hK hP 0 rfl clX8 0 (by decide) flX8_18 rfl dX8_settle_1 ?_
  refine g_get F hK hP 1 rfl clX4 0 (by decide) flX8_22 rfl dX8_settle_4 ?_
  refine lv_astore_n (lv' := [(2, .ref ho), (0, .ref se), (1, .int a)]) hx hb dX8_settle_7 rfl hl (by decide) rfl (fun ls hl => ?_)
  refine lv_iconst (v := 0) hx hb dX8_settle_8 (by decide) ?_
  refine lv_istore_n (lv' := [(3, .int 0), (2, .ref ho), (0, .ref se), (1, .int a)]) hx hb dX8_settle_9 rfl hl (by decide) rfl (fun ls hl => ?_)
  refine lv_iload_n hx hb dX8_settle_10 rfl (lv_at hl 0 rfl) ?_
  refine lv_aload_n hx hb dX8_settle_11 rfl (lv_at hl 1 rfl) ?_
  refine g_get F hK hP 2 rfl clX2 0 (by decide) flX8_28 rfl dX8_settle_12 ?_
  refine g_get F hK hP 4 rfl clX1 0 (by decide) flX8_34 rfl dX8_settle_15 ?_
  refine lv_icmp_ge (tgt := 52) hx hb dX8_settle_18 (by decide) (fun _ => ?_) (fun h_ => absurd (by decide +kernel) h_)
  refine lv_iconst (v := 0) hx hb dX8_settle_52 (by decide) ?_
  refine lv_istore_n (lv' := [(3, .int 0), (2, .ref ho), (0, .ref se), (1, .int a)]) hx hb dX8_settle_53 rfl hl (by decide) rfl (fun ls hl => ?_)
  refine lv_iload_n hx hb dX8_settle_54 rfl (lv_at hl 0 rfl) ?_
  refine lv_aload_n hx hb dX8_settle_55 rfl (lv_at hl 1 rfl) ?_
  refine g_get F hK hP 2 rfl clX2 1 (by decide) flX8_46 rfl dX8_settle_56 ?_
  refine g_get F hK hP 3 rfl clX3 0 (by decide) flX8_50 rfl dX8_settle_59 ?_
  refine lv_icmp_ge (tgt := 102) hx hb dX8_settle_62 (by decide) (fun _ => ?_) (fun h_ => absurd (by decide +kernel) h_)
  refine lv_iconst (v := 0) hx hb dX8_settle_102 (by decide) ?_
  refine lv_istore_n (lv' := [(3, .int 0), (2, .ref ho), (0, .ref se), (1, .int a)]) hx hb dX8_settle_103 rfl hl (by decide) rfl (fun ls hl => ?_)
  refine lv_iload_n hx hb dX8_settle_104 rfl (lv_at hl 0 rfl) ?_
  refine lv_aload_n hx hb dX8_settle_105 rfl (lv_at hl 1 rfl) ?_
  refine g_get F hK hP 2 rfl clX2 1 (by decide) flX8_46 rfl dX8_settle_106 ?_
  refine g_get F hK hP 3 rfl clX3 0 (by decide) flX8_50 rfl dX8_settle_109 ?_
  refine lv_icmp_ge (tgt := 151) hx hb dX8_settle_112 (by decide) (fun _ => ?_) (fun h_ => absurd (by decide +kernel) h_)
  exact r_v F hr hlk hP hD hS () [0, 1, 2, 3, 4] rfl rfl trivial dX8_settle_151 (Nat.le_of_ble_eq_true rfl) (Nat.le_of_ble_eq_true rfl)
set_option maxHeartbeats 4000000 in
set_option maxRecDepth 100000 in
theorem k_X8_fitNow (l : Launch) (G : Gx) (se : Nat) (pl : Nat) (se_1 : Nat) (se_2 : Nat) (ho : Nat) (pl_1 : Nat) (pl_5 : Nat) (fl : Nat) (pe : Nat) (ru : Nat) (ho_4 : Nat) (ho_5 : Nat) (ho_6 : Nat) (ho_8 : Nat) (ho_9 : Nat) (ho_10 : Nat) (ho_11 : Nat) (ho_12 : Nat) (pe_1 : Nat) (pe_2 : Nat) (pe_3 : Nat) (pe_4 : Nat) (pe_5 : Nat) (pe_6 : Nat) (pe_7 : Nat) (pe_8 : Nat) (pe_9 : Nat) (pe_10 : Nat) (fl_3 : Nat) (fl_4 : Nat) (fl_5 : Nat) (fl_6 : Nat) (fl_7 : Nat)  : CtI (S := Unit) l yX8_fitNow cX8_fitNow 5 (some .int) (rmD 1 0 0) G [.ref se] [(se, .inr (8, [.ref pl, .ref se_1, .ref se_2])), (pl, .inr (4, [.ref ho, .ref pl_1, .int 0, .int (-1), .int (-1), .ref pl_5])), (ho, .inr (2, [.ref fl, .ref pe, .ref ru, .int 0, .ref ho_4, .ref ho_5, .ref ho_6, .int 0, .ref ho_8, .ref ho_9, .ref ho_10, .ref ho_11, .ref ho_12, .int 50])), (pe, .inr (3, [.int 0, .ref pe_1, .ref pe_2, .ref pe_3, .ref pe_4, .ref pe_5, .ref pe_6, .ref pe_7, .ref pe_8, .ref pe_9, .ref pe_10])), (fl, .inr (1, [.int 0, .int 0, .int 0, .ref fl_3, .ref fl_4, .ref fl_5, .ref fl_6, .ref fl_7]))] (fun r _ => r = 0) (fun _ => [(se, .inr (8, [.ref pl, .ref se_1, .ref se_2])), (pl, .inr (4, [.ref ho, .ref pl_1, .int 0, .int (-1), .int (-1), .ref pl_5])), (ho, .inr (2, [.ref fl, .ref pe, .ref ru, .int 0, .ref ho_4, .ref ho_5, .ref ho_6, .int 0, .ref ho_8, .ref ho_9, .ref ho_10, .ref ho_11, .ref ho_12, .int 50])), (pe, .inr (3, [.int 0, .ref pe_1, .ref pe_2, .ref pe_3, .ref pe_4, .ref pe_5, .ref pe_6, .ref pe_7, .ref pe_8, .ref pe_9, .ref pe_10])), (fl, .inr (1, [.int 0, .int 0, .int 0, .ref fl_3, .ref fl_4, .ref fl_5, .ref fl_6, .ref fl_7]))]) := by
  refine ctI_of (own := RX8) (by decide +kernel) rfl (Nat.le_of_ble_eq_true rfl) ?_
  intro p e s m below meth c A ls F hr hlk hnm hK hP hD hA hS hl
  have hx := F.1
  have hb := F.2.1
  have hown := F.2.2.2.1
  have hl : lv_has ls 5 [(0, .ref se)] := hl
  refine lv_aload_n hx hb dX8_fitNow_0 rfl (lv_at hl 0 rfl) ?_
  refine g_get F hK hP 0 rfl clX8 0 (by decide) flX8_18 rfl dX8_fitNow_1 ?_
  refine g_get F hK hP 1 rfl clX4 0 (by decide) flX8_22 rfl dX8_fitNow_4 ?_
  refine lv_astore_n (lv' := [(1, .ref ho), (0, .ref se)]) hx hb dX8_fitNow_7 rfl hl (by decide) rfl (fun ls hl => ?_)
  refine lv_iconst (v := 0) hx hb dX8_fitNow_8 (by decide) ?_
  refine lv_istore_n (lv' := [(2, .int 0), (1, .ref ho), (0, .ref se)]) hx hb dX8_fitNow_9 rfl hl (by decide) rfl (fun ls hl => ?_)
  refine lv_iconst (v := 0) hx hb dX8_fitNow_10 (by decide) ?_
  refine lv_istore_n (lv' := [(3, .int 0), (2, .int 0), (1, .ref ho), (0, .ref se)]) hx hb dX8_fitNow_11 rfl hl (by decide) rfl (fun ls hl => ?_)
  refine lv_iload_n hx hb dX8_fitNow_12 rfl (lv_at hl 0 rfl) ?_
  refine lv_aload_n hx hb dX8_fitNow_13 rfl (lv_at hl 2 rfl) ?_
  refine g_get F hK hP 2 rfl clX2 7 (by decide) flX8_71 rfl dX8_fitNow_14 ?_
  refine lv_icmp_ge (tgt := 70) hx hb dX8_fitNow_17 (by decide) (fun _ => ?_) (fun h_ => absurd (by decide +kernel) h_)
  refine lv_iconst (v := 0) hx hb dX8_fitNow_70 (by decide) ?_
  refine lv_istore_n (lv' := [(3, .int 0), (2, .int 0), (1, .ref ho), (0, .ref se)]) hx hb dX8_fitNow_71 rfl hl (by decide) rfl (fun ls hl => ?_)
  refine lv_iload_n hx hb dX8_fitNow_72 rfl (lv_at hl 0 rfl) ?_
  refine lv_aload_n hx hb dX8_fitNow_73 rfl (lv_at hl 2 rfl) ?_
  refine g_get F hK hP 2 rfl clX2 1 (by decide) flX8_46 rfl dX8_fitNow_74 ?_
  refine g_get F hK hP 3 rfl clX3 0 (by decide) flX8_50 rfl dX8_fitNow_77 ?_
  refine lv_icmp_ge (tgt := 116) hx hb dX8_fitNow_80 (by decide) (fun _ => ?_) (fun h_ => absurd (by decide +kernel) h_)
  refine lv_iload_n hx hb dX8_fitNow_116 rfl (lv_at hl 1 rfl) ?_
  exact r_i F hr hlk hP hD hS () [0, 1, 2, 3, 4] rfl rfl rfl dX8_fitNow_117 (Nat.le_of_ble_eq_true rfl) (Nat.le_of_ble_eq_true rfl)
set_option maxHeartbeats 4000000 in
set_option maxRecDepth 100000 in
theorem k_X8_exchangeFirst (l : Launch) (G : Gx) (se : Nat) (pl : Nat) (se_1 : Nat) (se_2 : Nat) (ho : Nat) (pl_1 : Nat) (pl_5 : Nat) (fl : Nat) (pe : Nat) (ru : Nat) (ho_4 : Nat) (ho_5 : Nat) (ho_6 : Nat) (ho_8 : Nat) (ho_9 : Nat) (ho_10 : Nat) (ho_11 : Nat) (ho_12 : Nat) (pe_1 : Nat) (pe_2 : Nat) (pe_3 : Nat) (pe_4 : Nat) (pe_5 : Nat) (pe_6 : Nat) (pe_7 : Nat) (pe_8 : Nat) (pe_9 : Nat) (pe_10 : Nat) (fl_3 : Nat) (fl_4 : Nat) (fl_5 : Nat) (fl_6 : Nat) (fl_7 : Nat)  : CtI (S := Unit) l yX8_exchangeFirst cX8_exchangeFirst 4 (some .boolean) (rmD 2 0 0) G [.ref se] [(se, .inr (8, [.ref pl, .ref se_1, .ref se_2])), (pl, .inr (4, [.ref ho, .ref pl_1, .int 0, .int (-1), .int (-1), .ref pl_5])), (ho, .inr (2, [.ref fl, .ref pe, .ref ru, .int 0, .ref ho_4, .ref ho_5, .ref ho_6, .int 0, .ref ho_8, .ref ho_9, .ref ho_10, .ref ho_11, .ref ho_12, .int 50])), (pe, .inr (3, [.int 0, .ref pe_1, .ref pe_2, .ref pe_3, .ref pe_4, .ref pe_5, .ref pe_6, .ref pe_7, .ref pe_8, .ref pe_9, .ref pe_10])), (fl, .inr (1, [.int 0, .int 0, .int 0, .ref fl_3, .ref fl_4, .ref fl_5, .ref fl_6, .ref fl_7]))] (fun r _ => r = 0) (fun _ => [(se, .inr (8, [.ref pl, .ref se_1, .ref se_2])), (pl, .inr (4, [.ref ho, .ref pl_1, .int 0, .int (-1), .int (-1), .ref pl_5])), (ho, .inr (2, [.ref fl, .ref pe, .ref ru, .int 0, .ref ho_4, .ref ho_5, .ref ho_6, .int 0, .ref ho_8, .ref ho_9, .ref ho_10, .ref ho_11, .ref ho_12, .int 50])), (pe, .inr (3, [.int 0, .ref pe_1, .ref pe_2, .ref pe_3, .ref pe_4, .ref pe_5, .ref pe_6, .ref pe_7, .ref pe_8, .ref pe_9, .ref pe_10])), (fl, .inr (1, [.int 0, .int 0, .int 0, .ref fl_3, .ref fl_4, .ref fl_5, .ref fl_6, .ref fl_7]))]) := by
  refine ctI_of (own := RX8) (by decide +kernel) rfl (Nat.le_of_ble_eq_true rfl) ?_
  intro p e s m below meth c A ls F hr hlk hnm hK hP hD hA hS hl
  have hx := F.1
  have hb := F.2.1
  have hown := F.2.2.2.1
  have hl : lv_has ls 4 [(0, .ref se)] := hl
  refine lv_aload_n hx hb dX8_exchangeFirst_0 rfl (lv_at hl 0 rfl) ?_
  refine cvi (wr := []) (As := []) (rest := []) (b := se) (k1 := 0) (s1 := 0) F hK hP hD hS hA (k_X8_fitNow l G se pl se_1 se_2 ho pl_1 pl_5 fl pe ru ho_4 ho_5 ho_6 ho_8 ho_9 ho_10 ho_11 ho_12 pe_1 pe_2 pe_3 pe_4 pe_5 pe_6 pe_7 pe_8 pe_9 pe_10 fl_3 fl_4 fl_5 fl_6 fl_7) kmV_X8_fitNow mlX8_87 clX8 rfl 0 rfl ⟨(Nat.le_of_ble_eq_true rfl), (Nat.le_of_ble_eq_true rfl)⟩ [0, 1, 2, 3, 4] [] rfl rfl rfl rfl (by decide) hl.1 rfl (Nat.le_of_ble_eq_true rfl) dX8_exchangeFirst_1 ⟨(Nat.le_of_ble_eq_true rfl), (Nat.le_of_ble_eq_true rfl)⟩ rfl rfl (fun r2 u1 H locs hwr2 (hP : va_P G.1 vwCl [(se, .inr (8, [.ref pl, .ref se_1, .ref se_2])), (pl, .inr (4, [.ref ho, .ref pl_1, .int 0, .int (-1), .int (-1), .ref pl_5])), (ho, .inr (2, [.ref fl, .ref pe, .ref ru, .int 0, .ref ho_4, .ref ho_5, .ref ho_6, .int 0, .ref ho_8, .ref ho_9, .ref ho_10, .ref ho_11, .ref ho_12, .int 50])), (pe, .inr (3, [.int 0, .ref pe_1, .ref pe_2, .ref pe_3, .ref pe_4, .ref pe_5, .ref pe_6, .ref pe_7, .ref pe_8, .ref pe_9, .ref pe_10])), (fl, .inr (1, [.int 0, .int 0, .int 0, .ref fl_3, .ref fl_4, .ref fl_5, .ref fl_6, .ref fl_7]))] H) (hD : va_D A [(se, .inr (8, [.ref pl, .ref se_1, .ref se_2])), (pl, .inr (4, [.ref ho, .ref pl_1, .int 0, .int (-1), .int (-1), .ref pl_5])), (ho, .inr (2, [.ref fl, .ref pe, .ref ru, .int 0, .ref ho_4, .ref ho_5, .ref ho_6, .int 0, .ref ho_8, .ref ho_9, .ref ho_10, .ref ho_11, .ref ho_12, .int 50])), (pe, .inr (3, [.int 0, .ref pe_1, .ref pe_2, .ref pe_3, .ref pe_4, .ref pe_5, .ref pe_6, .ref pe_7, .ref pe_8, .ref pe_9, .ref pe_10])), (fl, .inr (1, [.int 0, .int 0, .int 0, .ref fl_3, .ref fl_4, .ref fl_5, .ref fl_6, .ref fl_7]))]) hS => ?_)
  subst hwr2
  refine lv_istore_n (lv' := [(1, .int 0), (0, .ref se)]) hx hb dX8_exchangeFirst_4 rfl hl (by decide) rfl (fun ls hl => ?_)
  refine lv_iconst (v := 0) hx hb dX8_exchangeFirst_5 (by decide) ?_
  refine lv_istore_n (lv' := [(2, .int 0), (1, .int 0), (0, .ref se)]) hx hb dX8_exchangeFirst_6 rfl hl (by decide) rfl (fun ls hl => ?_)
  refine lv_iload_n hx hb dX8_exchangeFirst_7 rfl (lv_at hl 0 rfl) ?_
  refine lv_aload_n hx hb dX8_exchangeFirst_8 rfl (lv_at hl 2 rfl) ?_
  refine g_get F hK hP 0 rfl clX8 0 (by decide) flX8_18 rfl dX8_exchangeFirst_9 ?_
  refine g_get F hK hP 1 rfl clX4 0 (by decide) flX8_22 rfl dX8_exchangeFirst_12 ?_
  refine g_get F hK hP 2 rfl clX2 1 (by decide) flX8_46 rfl dX8_exchangeFirst_15 ?_
  refine g_get F hK hP 3 rfl clX3 0 (by decide) flX8_50 rfl dX8_exchangeFirst_18 ?_
  refine lv_icmp_ge (tgt := 110) hx hb dX8_exchangeFirst_21 (by decide) (fun _ => ?_) (fun h_ => absurd (by decide +kernel) h_)
  refine lv_iconst (v := 0) hx hb dX8_exchangeFirst_110 (by decide) ?_
  exact r_z F hr hlk hP hD hS () [0, 1, 2, 3, 4] rfl rfl rfl dX8_exchangeFirst_111 (Nat.le_of_ble_eq_true rfl) (Nat.le_of_ble_eq_true rfl) (by decide)
set_option maxHeartbeats 4000000 in
set_option maxRecDepth 100000 in
theorem k_X8_exchangeAll (l : Launch) (G : Gx) (se : Nat) (pl : Nat) (se_1 : Nat) (se_2 : Nat) (ho : Nat) (pl_1 : Nat) (pl_5 : Nat) (fl : Nat) (pe : Nat) (ru : Nat) (ho_4 : Nat) (ho_5 : Nat) (ho_6 : Nat) (ho_8 : Nat) (ho_9 : Nat) (ho_10 : Nat) (ho_11 : Nat) (ho_12 : Nat) (pe_1 : Nat) (pe_2 : Nat) (pe_3 : Nat) (pe_4 : Nat) (pe_5 : Nat) (pe_6 : Nat) (pe_7 : Nat) (pe_8 : Nat) (pe_9 : Nat) (pe_10 : Nat) (fl_3 : Nat) (fl_4 : Nat) (fl_5 : Nat) (fl_6 : Nat) (fl_7 : Nat)  : CtI (S := Unit) l yX8_exchangeAll cX8_exchangeAll 2 (some .int) (rmD 3 0 0) G [.ref se] [(se, .inr (8, [.ref pl, .ref se_1, .ref se_2])), (pl, .inr (4, [.ref ho, .ref pl_1, .int 0, .int (-1), .int (-1), .ref pl_5])), (ho, .inr (2, [.ref fl, .ref pe, .ref ru, .int 0, .ref ho_4, .ref ho_5, .ref ho_6, .int 0, .ref ho_8, .ref ho_9, .ref ho_10, .ref ho_11, .ref ho_12, .int 50])), (pe, .inr (3, [.int 0, .ref pe_1, .ref pe_2, .ref pe_3, .ref pe_4, .ref pe_5, .ref pe_6, .ref pe_7, .ref pe_8, .ref pe_9, .ref pe_10])), (fl, .inr (1, [.int 0, .int 0, .int 0, .ref fl_3, .ref fl_4, .ref fl_5, .ref fl_6, .ref fl_7]))] (fun r _ => r = 0) (fun _ => [(se, .inr (8, [.ref pl, .ref se_1, .ref se_2])), (pl, .inr (4, [.ref ho, .ref pl_1, .int 0, .int (-1), .int (-1), .ref pl_5])), (ho, .inr (2, [.ref fl, .ref pe, .ref ru, .int 0, .ref ho_4, .ref ho_5, .ref ho_6, .int 0, .ref ho_8, .ref ho_9, .ref ho_10, .ref ho_11, .ref ho_12, .int 50])), (pe, .inr (3, [.int 0, .ref pe_1, .ref pe_2, .ref pe_3, .ref pe_4, .ref pe_5, .ref pe_6, .ref pe_7, .ref pe_8, .ref pe_9, .ref pe_10])), (fl, .inr (1, [.int 0, .int 0, .int 0, .ref fl_3, .ref fl_4, .ref fl_5, .ref fl_6, .ref fl_7]))]) := by
  refine ctI_of (own := RX8) (by decide +kernel) rfl (Nat.le_of_ble_eq_true rfl) ?_
  intro p e s m below meth c A ls F hr hlk hnm hK hP hD hA hS hl
  have hx := F.1
  have hb := F.2.1
  have hown := F.2.2.2.1
  have hl : lv_has ls 2 [(0, .ref se)] := hl
  refine lv_iconst (v := 0) hx hb dX8_exchangeAll_0 (by decide) ?_
  refine lv_istore_n (lv' := [(1, .int 0), (0, .ref se)]) hx hb dX8_exchangeAll_1 rfl hl (by decide) rfl (fun ls hl => ?_)
  refine lv_iload_n hx hb dX8_exchangeAll_2 rfl (lv_at hl 0 rfl) ?_
  refine lv_bipush (v := 50) hx hb dX8_exchangeAll_3 (by decide) ?_
  refine lv_icmp_ge (tgt := 23) hx hb dX8_exchangeAll_5 (by decide) (fun h_ => absurd h_ (by decide +kernel)) (fun _ => ?_)
  refine lv_aload_n hx hb dX8_exchangeAll_8 rfl (lv_at hl 1 rfl) ?_
  refine cvi (wr := []) (As := []) (rest := []) (b := se) (k1 := 0) (s1 := 0) F hK hP hD hS hA (k_X8_exchangeFirst l G se pl se_1 se_2 ho pl_1 pl_5 fl pe ru ho_4 ho_5 ho_6 ho_8 ho_9 ho_10 ho_11 ho_12 pe_1 pe_2 pe_3 pe_4 pe_5 pe_6 pe_7 pe_8 pe_9 pe_10 fl_3 fl_4 fl_5 fl_6 fl_7) kmV_X8_exchangeFirst mlX8_83 clX8 rfl 0 rfl ⟨(Nat.le_of_ble_eq_true rfl), (Nat.le_of_ble_eq_true rfl)⟩ [0, 1, 2, 3, 4] [] rfl rfl rfl rfl (by decide) hl.1 rfl (Nat.le_of_ble_eq_true rfl) dX8_exchangeAll_9 ⟨(Nat.le_of_ble_eq_true rfl), (Nat.le_of_ble_eq_true rfl)⟩ rfl rfl (fun r2 u1 H locs hwr2 (hP : va_P G.1 vwCl [(se, .inr (8, [.ref pl, .ref se_1, .ref se_2])), (pl, .inr (4, [.ref ho, .ref pl_1, .int 0, .int (-1), .int (-1), .ref pl_5])), (ho, .inr (2, [.ref fl, .ref pe, .ref ru, .int 0, .ref ho_4, .ref ho_5, .ref ho_6, .int 0, .ref ho_8, .ref ho_9, .ref ho_10, .ref ho_11, .ref ho_12, .int 50])), (pe, .inr (3, [.int 0, .ref pe_1, .ref pe_2, .ref pe_3, .ref pe_4, .ref pe_5, .ref pe_6, .ref pe_7, .ref pe_8, .ref pe_9, .ref pe_10])), (fl, .inr (1, [.int 0, .int 0, .int 0, .ref fl_3, .ref fl_4, .ref fl_5, .ref fl_6, .ref fl_7]))] H) (hD : va_D A [(se, .inr (8, [.ref pl, .ref se_1, .ref se_2])), (pl, .inr (4, [.ref ho, .ref pl_1, .int 0, .int (-1), .int (-1), .ref pl_5])), (ho, .inr (2, [.ref fl, .ref pe, .ref ru, .int 0, .ref ho_4, .ref ho_5, .ref ho_6, .int 0, .ref ho_8, .ref ho_9, .ref ho_10, .ref ho_11, .ref ho_12, .int 50])), (pe, .inr (3, [.int 0, .ref pe_1, .ref pe_2, .ref pe_3, .ref pe_4, .ref pe_5, .ref pe_6, .ref pe_7, .ref pe_8, .ref pe_9, .ref pe_10])), (fl, .inr (1, [.int 0, .int 0, .int 0, .ref fl_3, .ref fl_4, .ref fl_5, .ref fl_6, .ref fl_7]))]) hS => ?_)
  subst hwr2
  refine lv_if_ne (tgt := 17) hx hb dX8_exchangeAll_12 (by decide) (fun h_ => absurd (by decide +kernel) h_) (fun _ => ?_)
  refine lv_iload_n hx hb dX8_exchangeAll_15 rfl (lv_at hl 0 rfl) ?_
  exact r_i F hr hlk hP hD hS () [0, 1, 2, 3, 4] rfl rfl rfl dX8_exchangeAll_16 (Nat.le_of_ble_eq_true rfl) (Nat.le_of_ble_eq_true rfl)
set_option maxHeartbeats 4000000 in
set_option maxRecDepth 100000 in
theorem k_X8_dearestToShut (l : Launch) (G : Gx) (se : Nat) (a : Int32) (pl : Nat) (se_1 : Nat) (se_2 : Nat) (ho : Nat) (pl_1 : Nat) (pl_5 : Nat) (fl : Nat) (pe : Nat) (ru : Nat) (ho_4 : Nat) (ho_5 : Nat) (ho_6 : Nat) (ho_8 : Nat) (ho_9 : Nat) (ho_10 : Nat) (ho_11 : Nat) (ho_12 : Nat) (pe_1 : Nat) (pe_2 : Nat) (pe_3 : Nat) (pe_4 : Nat) (pe_5 : Nat) (pe_6 : Nat) (pe_7 : Nat) (pe_8 : Nat) (pe_9 : Nat) (pe_10 : Nat) (fl_3 : Nat) (fl_4 : Nat) (fl_5 : Nat) (fl_6 : Nat) (fl_7 : Nat)  : CtI (S := Unit) l yX8_dearestToShut cX8_dearestToShut 8 (some .int) (rmD 2 0 0) G [.ref se, .int a] [(se, .inr (8, [.ref pl, .ref se_1, .ref se_2])), (pl, .inr (4, [.ref ho, .ref pl_1, .int 0, .int (-1), .int (-1), .ref pl_5])), (ho, .inr (2, [.ref fl, .ref pe, .ref ru, .int 0, .ref ho_4, .ref ho_5, .ref ho_6, .int 0, .ref ho_8, .ref ho_9, .ref ho_10, .ref ho_11, .ref ho_12, .int 50])), (pe, .inr (3, [.int 0, .ref pe_1, .ref pe_2, .ref pe_3, .ref pe_4, .ref pe_5, .ref pe_6, .ref pe_7, .ref pe_8, .ref pe_9, .ref pe_10])), (fl, .inr (1, [.int 0, .int 0, .int 0, .ref fl_3, .ref fl_4, .ref fl_5, .ref fl_6, .ref fl_7]))] (fun r _ => r = (-1)) (fun _ => [(se, .inr (8, [.ref pl, .ref se_1, .ref se_2])), (pl, .inr (4, [.ref ho, .ref pl_1, .int 0, .int (-1), .int (-1), .ref pl_5])), (ho, .inr (2, [.ref fl, .ref pe, .ref ru, .int 0, .ref ho_4, .ref ho_5, .ref ho_6, .int 0, .ref ho_8, .ref ho_9, .ref ho_10, .ref ho_11, .ref ho_12, .int 50])), (pe, .inr (3, [.int 0, .ref pe_1, .ref pe_2, .ref pe_3, .ref pe_4, .ref pe_5, .ref pe_6, .ref pe_7, .ref pe_8, .ref pe_9, .ref pe_10])), (fl, .inr (1, [.int 0, .int 0, .int 0, .ref fl_3, .ref fl_4, .ref fl_5, .ref fl_6, .ref fl_7]))]) := by
  refine ctI_of (own := RX8) (by decide +kernel) rfl (Nat.le_of_ble_eq_true rfl) ?_
  intro p e s m below meth c A ls F hr hlk hnm hK hP hD hA hS hl
  have hx := F.1
  have hb := F.2.1
  have hown := F.2.2.2.1
  have hl : lv_has ls 8 [(0, .ref se), (1, .int a)] := hl
  refine lv_aload_n hx hb dX8_dearestToShut_0 rfl (lv_at hl 0 rfl) ?_
  refine g_get F hK hP 0 rfl clX8 0 (by decide) flX8_18 rfl dX8_dearestToShut_1 ?_
  refine g_get F hK hP 1 rfl clX4 0 (by decide) flX8_22 rfl dX8_dearestToShut_4 ?_
  refine lv_astore_n (lv' := [(2, .ref ho), (0, .ref se), (1, .int a)]) hx hb dX8_dearestToShut_7 rfl hl (by decide) rfl (fun ls hl => ?_)
  refine lv_aload_n hx hb dX8_dearestToShut_8 rfl (lv_at hl 0 rfl) ?_
  refine g_get F hK hP 2 rfl clX2 0 (by decide) flX8_28 rfl dX8_dearestToShut_9 ?_
  refine g_get F hK hP 4 rfl clX1 1 (by decide) flX8_99 rfl dX8_dearestToShut_12 ?_
  refine lv_aload_n hx hb dX8_dearestToShut_15 rfl (lv_at hl 0 rfl) ?_
  refine g_get F hK hP 2 rfl clX2 0 (by decide) flX8_28 rfl dX8_dearestToShut_16 ?_
  refine g_get F hK hP 4 rfl clX1 2 (by decide) flX8_102 rfl dX8_dearestToShut_19 ?_
  refine lv_isub hx hb dX8_dearestToShut_22 ?_
  refine cst_i (y := 0) (by decide +kernel) ?_
  refine lv_istore_n (lv' := [(3, .int 0), (2, .ref ho), (0, .ref se), (1, .int a)]) hx hb dX8_dearestToShut_23 rfl hl (by decide) rfl (fun ls hl => ?_)
  refine lv_aload_n hx hb dX8_dearestToShut_24 rfl (lv_at hl 2 rfl) ?_
  refine g_get F hK hP 0 rfl clX8 0 (by decide) flX8_18 rfl dX8_dearestToShut_25 ?_
  refine lv_iload_n hx hb dX8_dearestToShut_28 rfl (lv_at hl 3 rfl) ?_
  refine cvi (wr := [(se, .inr (8, [.ref pl, .ref se_1, .ref se_2])), (fl, .inr (1, [.int 0, .int 0, .int 0, .ref fl_3, .ref fl_4, .ref fl_5, .ref fl_6, .ref fl_7]))]) (As := [.int a]) (rest := []) (b := pl) (k1 := 0) (s1 := 0) F hK hP hD hS hA (k_X4_inWithoutOwn l G pl a ho pl_1 pl_5 fl pe ru ho_4 ho_5 ho_6 ho_8 ho_9 ho_10 ho_11 ho_12 pe_1 pe_2 pe_3 pe_4 pe_5 pe_6 pe_7 pe_8 pe_9 pe_10) kmV_X4_inWithoutOwn mlX8_105 clX4 rfl 0 rfl ⟨(Nat.le_of_ble_eq_true rfl), (Nat.le_of_ble_eq_true rfl)⟩ [1, 2, 3] [0, 4] rfl rfl rfl rfl (by decide) hl.1 rfl (Nat.le_of_ble_eq_true rfl) dX8_dearestToShut_29 ⟨(Nat.le_of_ble_eq_true rfl), (Nat.le_of_ble_eq_true rfl)⟩ rfl rfl (fun r2 u1 H locs hwr2 (hP : va_P G.1 vwCl [(se, .inr (8, [.ref pl, .ref se_1, .ref se_2])), (fl, .inr (1, [.int 0, .int 0, .int 0, .ref fl_3, .ref fl_4, .ref fl_5, .ref fl_6, .ref fl_7])), (pl, .inr (4, [.ref ho, .ref pl_1, .int 0, .int (-1), .int (-1), .ref pl_5])), (ho, .inr (2, [.ref fl, .ref pe, .ref ru, .int 0, .ref ho_4, .ref ho_5, .ref ho_6, .int 0, .ref ho_8, .ref ho_9, .ref ho_10, .ref ho_11, .ref ho_12, .int 50])), (pe, .inr (3, [.int 0, .ref pe_1, .ref pe_2, .ref pe_3, .ref pe_4, .ref pe_5, .ref pe_6, .ref pe_7, .ref pe_8, .ref pe_9, .ref pe_10]))] H) (hD : va_D A [(se, .inr (8, [.ref pl, .ref se_1, .ref se_2])), (fl, .inr (1, [.int 0, .int 0, .int 0, .ref fl_3, .ref fl_4, .ref fl_5, .ref fl_6, .ref fl_7])), (pl, .inr (4, [.ref ho, .ref pl_1, .int 0, .int (-1), .int (-1), .ref pl_5])), (ho, .inr (2, [.ref fl, .ref pe, .ref ru, .int 0, .ref ho_4, .ref ho_5, .ref ho_6, .int 0, .ref ho_8, .ref ho_9, .ref ho_10, .ref ho_11, .ref ho_12, .int 50])), (pe, .inr (3, [.int 0, .ref pe_1, .ref pe_2, .ref pe_3, .ref pe_4, .ref pe_5, .ref pe_6, .ref pe_7, .ref pe_8, .ref pe_9, .ref pe_10]))]) hS => ?_)
  subst hwr2
  refine lv_istore (lv' := [(4, .int 0), (3, .int 0), (2, .ref ho), (0, .ref se), (1, .int a)]) hx hb dX8_dearestToShut_32 hl (by decide) rfl (fun ls hl => ?_)
  refine lv_iconst (v := (-1)) hx hb dX8_dearestToShut_34 (by decide) ?_
  refine lv_istore (lv' := [(5, .int (-1)), (4, .int 0), (3, .int 0), (2, .ref ho), (0, .ref se), (1, .int a)]) hx hb dX8_dearestToShut_35 hl (by decide) rfl (fun ls hl => ?_)
  refine lv_iconst (v := 0) hx hb dX8_dearestToShut_37 (by decide) ?_
  refine lv_istore (lv' := [(6, .int 0), (5, .int (-1)), (4, .int 0), (3, .int 0), (2, .ref ho), (0, .ref se), (1, .int a)]) hx hb dX8_dearestToShut_38 hl (by decide) rfl (fun ls hl => ?_)
  refine lv_iload hx hb dX8_dearestToShut_40 (lv_at hl 0 rfl) ?_
  refine lv_aload_n hx hb dX8_dearestToShut_42 rfl (lv_at hl 4 rfl) ?_
  refine g_get F hK hP 3 rfl clX2 0 (by decide) flX8_28 rfl dX8_dearestToShut_43 ?_
  refine g_get F hK hP 1 rfl clX1 0 (by decide) flX8_34 rfl dX8_dearestToShut_46 ?_
  refine lv_icmp_ge (tgt := 133) hx hb dX8_dearestToShut_49 (by decide) (fun _ => ?_) (fun h_ => absurd (by decide +kernel) h_)
  refine lv_iload hx hb dX8_dearestToShut_133 (lv_at hl 1 rfl) ?_
  exact r_i F hr hlk hP hD hS () [0, 2, 3, 4, 1] rfl rfl rfl dX8_dearestToShut_135 (Nat.le_of_ble_eq_true rfl) (Nat.le_of_ble_eq_true rfl)
set_option maxHeartbeats 4000000 in
set_option maxRecDepth 100000 in
theorem k_X11_areSets (l : Launch) (G : Gx) (x : Nat) (a : Int32) (x_0 : Nat) (sp : Nat) (stm : Nat) (pl : Nat) (sk : Nat) (se : Nat) (ch : Nat) (x_11 : Nat) (x_13 : Nat) (ho : Nat) (pl_1 : Nat) (pl_5 : Nat) (fl : Nat) (pe : Nat) (ru : Nat) (ho_4 : Nat) (ho_5 : Nat) (ho_6 : Nat) (ho_8 : Nat) (ho_9 : Nat) (ho_10 : Nat) (ho_11 : Nat) (ho_12 : Nat) (pe_1 : Nat) (pe_2 : Nat) (pe_3 : Nat) (pe_4 : Nat) (pe_5 : Nat) (pe_6 : Nat) (pe_7 : Nat) (pe_8 : Nat) (pe_9 : Nat) (pe_10 : Nat)  : CtI (S := Unit) l yX11_areSets cX11_areSets 5 (some .boolean) (rmD 1 0 0) G [.ref x, .int a] [(x, .inr (11, [.ref x_0, .int 0, .ref sp, .ref stm, .ref pl, .ref sk, .ref se, .ref ch, .int 0, .int (-1), .long 1, .ref x_11, .int 0, .ref x_13])), (pl, .inr (4, [.ref ho, .ref pl_1, .int 0, .int (-1), .int (-1), .ref pl_5])), (ho, .inr (2, [.ref fl, .ref pe, .ref ru, .int 0, .ref ho_4, .ref ho_5, .ref ho_6, .int 0, .ref ho_8, .ref ho_9, .ref ho_10, .ref ho_11, .ref ho_12, .int 50])), (pe, .inr (3, [.int 0, .ref pe_1, .ref pe_2, .ref pe_3, .ref pe_4, .ref pe_5, .ref pe_6, .ref pe_7, .ref pe_8, .ref pe_9, .ref pe_10]))] (fun r _ => r = 1) (fun _ => [(x, .inr (11, [.ref x_0, .int 0, .ref sp, .ref stm, .ref pl, .ref sk, .ref se, .ref ch, .int 0, .int (-1), .long 1, .ref x_11, .int 0, .ref x_13])), (pl, .inr (4, [.ref ho, .ref pl_1, .int 0, .int (-1), .int (-1), .ref pl_5])), (ho, .inr (2, [.ref fl, .ref pe, .ref ru, .int 0, .ref ho_4, .ref ho_5, .ref ho_6, .int 0, .ref ho_8, .ref ho_9, .ref ho_10, .ref ho_11, .ref ho_12, .int 50])), (pe, .inr (3, [.int 0, .ref pe_1, .ref pe_2, .ref pe_3, .ref pe_4, .ref pe_5, .ref pe_6, .ref pe_7, .ref pe_8, .ref pe_9, .ref pe_10]))]) := by
  refine ctI_of (own := RX11) (by decide +kernel) rfl (Nat.le_of_ble_eq_true rfl) ?_
  intro p e s m below meth c A ls F hr hlk hnm hK hP hD hA hS hl
  have hx := F.1
  have hb := F.2.1
  have hown := F.2.2.2.1
  have hl : lv_has ls 5 [(0, .ref x), (1, .int a)] := hl
  refine lv_aload_n hx hb dX11_areSets_0 rfl (lv_at hl 0 rfl) ?_
  refine g_get F hK hP 0 rfl clX11 4 (by decide) flX11_43 rfl dX11_areSets_1 ?_
  refine g_get F hK hP 1 rfl clX4 0 (by decide) flX11_121 rfl dX11_areSets_4 ?_
  refine g_get F hK hP 2 rfl clX2 1 (by decide) flX11_139 rfl dX11_areSets_7 ?_
  refine g_get F hK hP 3 rfl clX3 0 (by decide) flX11_143 rfl dX11_areSets_10 ?_
  refine lv_istore_n (lv' := [(2, .int 0), (0, .ref x), (1, .int a)]) hx hb dX11_areSets_13 rfl hl (by decide) rfl (fun ls hl => ?_)
  refine lv_iconst (v := 0) hx hb dX11_areSets_14 (by decide) ?_
  refine lv_istore_n (lv' := [(3, .int 0), (2, .int 0), (0, .ref x), (1, .int a)]) hx hb dX11_areSets_15 rfl hl (by decide) rfl (fun ls hl => ?_)
  refine lv_iload_n hx hb dX11_areSets_16 rfl (lv_at hl 0 rfl) ?_
  refine lv_iload_n hx hb dX11_areSets_17 rfl (lv_at hl 1 rfl) ?_
  refine lv_icmp_ge (tgt := 55) hx hb dX11_areSets_18 (by decide) (fun _ => ?_) (fun h_ => absurd (by decide +kernel) h_)
  refine lv_iconst (v := 1) hx hb dX11_areSets_55 (by decide) ?_
  exact r_z F hr hlk hP hD hS () [0, 1, 2, 3] rfl rfl rfl dX11_areSets_56 (Nat.le_of_ble_eq_true rfl) (Nat.le_of_ble_eq_true rfl) (by decide)
set_option maxHeartbeats 4000000 in
set_option maxRecDepth 100000 in
theorem k_X11_takeSets (l : Launch) (G : Gx) (x : Nat) (a : Int32) (x_0 : Nat) (sp : Nat) (stm : Nat) (pl : Nat) (sk : Nat) (se : Nat) (ch : Nat) (x_11 : Nat) (x_13 : Nat) (ho : Nat) (pl_1 : Nat) (pl_5 : Nat) (fl : Nat) (pe : Nat) (ru : Nat) (ho_4 : Nat) (ho_5 : Nat) (ho_6 : Nat) (ho_8 : Nat) (ho_9 : Nat) (ho_10 : Nat) (ho_11 : Nat) (ho_12 : Nat) (pe_1 : Nat) (pe_2 : Nat) (pe_3 : Nat) (pe_4 : Nat) (pe_5 : Nat) (pe_6 : Nat) (pe_7 : Nat) (pe_8 : Nat) (pe_9 : Nat) (pe_10 : Nat)  : CtV (S := Unit) l yX11_takeSets cX11_takeSets 4 none (rmD 1 0 0) G [.ref x, .int a] [(x, .inr (11, [.ref x_0, .int 0, .ref sp, .ref stm, .ref pl, .ref sk, .ref se, .ref ch, .int 0, .int (-1), .long 1, .ref x_11, .int 0, .ref x_13])), (pl, .inr (4, [.ref ho, .ref pl_1, .int 0, .int (-1), .int (-1), .ref pl_5])), (ho, .inr (2, [.ref fl, .ref pe, .ref ru, .int 0, .ref ho_4, .ref ho_5, .ref ho_6, .int 0, .ref ho_8, .ref ho_9, .ref ho_10, .ref ho_11, .ref ho_12, .int 50])), (pe, .inr (3, [.int 0, .ref pe_1, .ref pe_2, .ref pe_3, .ref pe_4, .ref pe_5, .ref pe_6, .ref pe_7, .ref pe_8, .ref pe_9, .ref pe_10]))] (fun _ => True) (fun _ => [(x, .inr (11, [.ref x_0, .int 0, .ref sp, .ref stm, .ref pl, .ref sk, .ref se, .ref ch, .int 0, .int (-1), .long 1, .ref x_11, .int 0, .ref x_13])), (pl, .inr (4, [.ref ho, .ref pl_1, .int 0, .int (-1), .int (-1), .ref pl_5])), (ho, .inr (2, [.ref fl, .ref pe, .ref ru, .int 0, .ref ho_4, .ref ho_5, .ref ho_6, .int 0, .ref ho_8, .ref ho_9, .ref ho_10, .ref ho_11, .ref ho_12, .int 50])), (pe, .inr (3, [.int 0, .ref pe_1, .ref pe_2, .ref pe_3, .ref pe_4, .ref pe_5, .ref pe_6, .ref pe_7, .ref pe_8, .ref pe_9, .ref pe_10]))]) := by
  refine ctV_of (own := RX11) (by decide +kernel) rfl (Nat.le_of_ble_eq_true rfl) ?_
  intro p e s m below meth c A ls F hr hlk hnm hK hP hD hA hS hl
  have hx := F.1
  have hb := F.2.1
  have hown := F.2.2.2.1
  have hl : lv_has ls 4 [(0, .ref x), (1, .int a)] := hl
  refine lv_aload_n hx hb dX11_takeSets_0 rfl (lv_at hl 0 rfl) ?_
  refine g_get F hK hP 0 rfl clX11 4 (by decide) flX11_43 rfl dX11_takeSets_1 ?_
  refine g_get F hK hP 1 rfl clX4 0 (by decide) flX11_121 rfl dX11_takeSets_4 ?_
  refine g_get F hK hP 2 rfl clX2 1 (by decide) flX11_139 rfl dX11_takeSets_7 ?_
  refine g_get F hK hP 3 rfl clX3 0 (by decide) flX11_143 rfl dX11_takeSets_10 ?_
  refine lv_istore_n (lv' := [(2, .int 0), (0, .ref x), (1, .int a)]) hx hb dX11_takeSets_13 rfl hl (by decide) rfl (fun ls hl => ?_)
  refine lv_iconst (v := 0) hx hb dX11_takeSets_14 (by decide) ?_
  refine lv_istore_n (lv' := [(3, .int 0), (2, .int 0), (0, .ref x), (1, .int a)]) hx hb dX11_takeSets_15 rfl hl (by decide) rfl (fun ls hl => ?_)
  refine lv_iload_n hx hb dX11_takeSets_16 rfl (lv_at hl 0 rfl) ?_
  refine lv_iload_n hx hb dX11_takeSets_17 rfl (lv_at hl 1 rfl) ?_
  refine lv_icmp_ge (tgt := 55) hx hb dX11_takeSets_18 (by decide) (fun _ => ?_) (fun h_ => absurd (by decide +kernel) h_)
  exact r_v F hr hlk hP hD hS () [0, 1, 2, 3] rfl rfl trivial dX11_takeSets_55 (Nat.le_of_ble_eq_true rfl) (Nat.le_of_ble_eq_true rfl)
