set_option maxHeartbeats 4000000 in
set_option maxRecDepth 100000 in
theorem k_X11_isPart (l : Launch) (G : Gx) (a : Int32)  : CtI (S := Unit) l yX11_isPart cX11_isPart 1 (some .boolean) (rmD 1 0 0) G [.int a] [] (fun r _ => r = isP a) (fun _ => []) := by
  refine ctI_of (own := RX11) (by decide +kernel) rfl (Nat.le_of_ble_eq_true rfl) ?_
  intro p e s m below meth c A ls F hr hlk hnm hK hP hD hA hS hl
  have hx := F.1
  have hb := F.2.1
  have hown := F.2.2.2.1
  have hl : lv_has ls 1 [(0, .int a)] := hl
  refine lv_iload_n hx hb dX11_isPart_0 rfl (lv_at hl 0 rfl) ?_
  refine lv_if_lt (tgt := 14) hx hb dX11_isPart_1 (by decide) (fun c1 => ?_) (fun c1 => ?_)
  · refine lv_iconst (v := 0) hx hb dX11_isPart_14 (by decide) ?_
    exact r_z F hr hlk hP hD hS () [] rfl rfl (by simp [isP, c1]) dX11_isPart_15 (Nat.le_of_ble_eq_true rfl) (Nat.le_of_ble_eq_true rfl) (by decide)
  · refine lv_iload_n hx hb dX11_isPart_4 rfl (lv_at hl 0 rfl) ?_
    refine lv_bipush (v := 100) hx hb dX11_isPart_5 (by decide) ?_
    refine lv_icmp_gt (tgt := 14) hx hb dX11_isPart_7 (by decide) (fun c2 => ?_) (fun c2 => ?_)
    · refine lv_iconst (v := 0) hx hb dX11_isPart_14 (by decide) ?_
      exact r_z F hr hlk hP hD hS () [] rfl rfl (by simp [isP, c1, c2]) dX11_isPart_15 (Nat.le_of_ble_eq_true rfl) (Nat.le_of_ble_eq_true rfl) (by decide)
    · refine lv_iconst (v := 1) hx hb dX11_isPart_10 (by decide) ?_
      refine lv_goto (tgt := 15) hx hb dX11_isPart_11 (by decide) ?_
      exact r_z F hr hlk hP hD hS () [] rfl rfl (by simp [isP, c1, c2]) dX11_isPart_15 (Nat.le_of_ble_eq_true rfl) (Nat.le_of_ble_eq_true rfl) (by decide)
set_option maxHeartbeats 4000000 in
set_option maxRecDepth 100000 in
theorem k_X12_is (l : Launch) (G : Gx) (a : Int32) (b : Int32) (d : Int32)  : CtI (S := Unit) l yX12_is cX12_is 3 (some .boolean) (rmD 1 0 0) G [.int a, .int b, .int d] [] (fun r _ => r = isR a b d) (fun _ => []) := by
  refine ctI_of (own := RX12) (by decide +kernel) rfl (Nat.le_of_ble_eq_true rfl) ?_
  intro p e s m below meth c A ls F hr hlk hnm hK hP hD hA hS hl
  have hx := F.1
  have hb := F.2.1
  have hown := F.2.2.2.1
  have hl : lv_has ls 3 [(0, .int a), (1, .int b), (2, .int d)] := hl
  refine lv_iload_n hx hb dX12_is_0 rfl (lv_at hl 0 rfl) ?_
  refine lv_iload_n hx hb dX12_is_1 rfl (lv_at hl 1 rfl) ?_
  refine lv_icmp_lt (tgt := 14) hx hb dX12_is_2 (by decide) (fun c1 => ?_) (fun c1 => ?_)
  · refine lv_iconst (v := 0) hx hb dX12_is_14 (by decide) ?_
    exact r_z F hr hlk hP hD hS () [] rfl rfl (by simp [isR, c1]) dX12_is_15 (Nat.le_of_ble_eq_true rfl) (Nat.le_of_ble_eq_true rfl) (by decide)
  · refine lv_iload_n hx hb dX12_is_5 rfl (lv_at hl 0 rfl) ?_
    refine lv_iload_n hx hb dX12_is_6 rfl (lv_at hl 2 rfl) ?_
    refine lv_icmp_gt (tgt := 14) hx hb dX12_is_7 (by decide) (fun c2 => ?_) (fun c2 => ?_)
    · refine lv_iconst (v := 0) hx hb dX12_is_14 (by decide) ?_
      exact r_z F hr hlk hP hD hS () [] rfl rfl (by simp [isR, c1, c2]) dX12_is_15 (Nat.le_of_ble_eq_true rfl) (Nat.le_of_ble_eq_true rfl) (by decide)
    · refine lv_iconst (v := 1) hx hb dX12_is_10 (by decide) ?_
      refine lv_goto (tgt := 15) hx hb dX12_is_11 (by decide) ?_
      exact r_z F hr hlk hP hD hS () [] rfl rfl (by simp [isR, c1, c2]) dX12_is_15 (Nat.le_of_ble_eq_true rfl) (Nat.le_of_ble_eq_true rfl) (by decide)
set_option maxHeartbeats 4000000 in
set_option maxRecDepth 100000 in
theorem k_X0_begin (l : Launch) (G : Gx) (ch : Nat) (lk : Nat) (cc0 : Int32) (f : Nat → Int64)  : CtV (S := Nat → Int64) l yX0_begin cX0_begin 1 none (rmD 5 0 0) G [.ref ch] [(ch, .inr (0, [.ref lk, .int cc0])), (lk, .inl (G.2.2.1, 41, .inr (.inl f)))] (fun u => ∀ j, j < 41 → u j = d0 j) (fun u => [(ch, .inr (0, [.ref lk, .int 0])), (lk, .inl (G.2.2.1, 41, .inr (.inl u)))]) := by
  refine ctV_of (own := RX0) (by decide +kernel) rfl (Nat.le_of_ble_eq_true rfl) ?_
  intro p e s m below meth c A ls F hr hlk hnm hK hP hD hA hS hl
  have hx := F.1
  have hb := F.2.1
  have hown := F.2.2.2.1
  have hl : lv_has ls 1 [(0, .ref ch)] := hl
  refine lv_aload_n hx hb dX0_begin_0 rfl (lv_at hl 0 rfl) ?_
  refine g_get F hK hP 0 rfl clX0 0 (by decide) flX0_9 rfl dX0_begin_1 ?_
  refine lv_lconst (v := 0) hx hb dX0_begin_4 (by decide) ?_
  refine csv (wr := [(ch, .inr (0, [.ref lk, .int cc0]))]) (As := [.ref lk, .long 0]) (rest := []) (k1 := 0) (s1 := 0) F hK hP hD hS hA (k_J7_fill_d0a16 l G 41 lk 0 f (by decide)) kmS_J7_fill_d0a16 mlX0_17 ⟨(Nat.le_of_ble_eq_true rfl), (Nat.le_of_ble_eq_true rfl)⟩ [1] [0] rfl rfl rfl rfl (by decide) hl.1 rfl (Nat.le_of_ble_eq_true rfl) dX0_begin_5 ⟨(Nat.le_of_ble_eq_true rfl), (Nat.le_of_ble_eq_true rfl)⟩ rfl rfl (fun u1 H locs hwr2 (hP : va_P G.1 vwCl [(ch, .inr (0, [.ref lk, .int cc0])), (lk, .inl (G.2.2.1, 41, .inr (.inl u1)))] H) (hD : va_D A [(ch, .inr (0, [.ref lk, .int cc0])), (lk, .inl (G.2.2.1, 41, .inr (.inl u1)))]) hS => ?_)
  refine lv_aload_n hx hb dX0_begin_8 rfl (lv_at hl 0 rfl) ?_
  refine g_get F hK hP 0 rfl clX0 0 (by decide) flX0_9 rfl dX0_begin_9 ?_
  refine lv_iconst (v := 0) hx hb dX0_begin_12 (by decide) ?_
  refine lv_ldc2 hx hb hown (F.2.2.2.2 _ clX0_23) dX0_begin_13 ?_
  refine g_last F hK hP hD hS 1 rfl (vin (by decide +kernel)) dX0_begin_16 (fun f_ => [(ch, .inr (0, [.ref lk, .int cc0])), (lk, .inl (G.2.2.1, 41, .inr (.inl f_)))]) (fun _ => rfl) (fun f3 H locs ef3 (hP : va_P G.1 vwCl [(ch, .inr (0, [.ref lk, .int cc0])), (lk, .inl (G.2.2.1, 41, .inr (.inl f3)))] H) (hD : va_D A [(ch, .inr (0, [.ref lk, .int cc0])), (lk, .inl (G.2.2.1, 41, .inr (.inl f3)))]) hS => ?_)
  refine lv_aload_n hx hb dX0_begin_17 rfl (lv_at hl 0 rfl) ?_
  refine lv_iconst (v := 0) hx hb dX0_begin_18 (by decide) ?_
  refine g_put (w' := [(ch, .inr (0, [.ref lk, .int 0])), (lk, .inl (G.2.2.1, 41, .inr (.inl f3)))]) F hK hP hD hS 0 rfl clX0 1 (by decide) flX0_13 rfl rfl rfl (Nat.le_of_ble_eq_true rfl) dX0_begin_19 rfl (fun H locs hP hD hS => ?_)
  exact r_v F hr hlk hP hD hS f3 [0, 1] rfl rfl (begin_inv hwr2 ef3) dX0_begin_22 (Nat.le_of_ble_eq_true rfl) (Nat.le_of_ble_eq_true rfl)
set_option maxHeartbeats 4000000 in
set_option maxRecDepth 100000 in
theorem lp_admit {p : Program} {l : Launch} {e : Env} {R : Room} {s : State} {m : MethodId} {args : Array Value} {below : List Frame} {meth : Method} {c : Code} {A : Nat → Prop} {cells slots : Nat} {Q : State → Prop} (G : Gx) (n : Nat) (f0 : Nat → Int64) (ch : Nat) (cm : Int32) (lk : Nat) (hn : n < 40) (hRf : 3 ≤ R.frames) (hRl : 180 ≤ R.locals) (hRc : cells ≤ R.cells) (hRs : slots ≤ R.slots) (F : CallFix p m c cX0_admit 3 s args tb RX0) (hK : KX G s) (hA : HA G s A)
    (kx : ∀ (f : Nat → Int64) (H : Heap) (locs : List Loc) (ls : Array Slot), ((∀ j, j ≤ 0 → f j = f0 j) ∧ (∀ j, 0 < j → j ≤ n + 1 → f j = stp cm f0 j) ∧ ∀ j, n + 1 < j → j < 41 → f j = f0 j) → va_P G.1 vwCl [(ch, .inr (0, [.ref lk, .int (nI (n + 1))])), (lk, .inl (G.2.2.1, 41, .inr (.inl f)))] H → va_D A [(ch, .inr (0, [.ref lk, .int (nI (n + 1))])), (lk, .inl (G.2.2.1, 41, .inr (.inl f)))] → va_S A s.heap H locs → lv_has ls 3 [(0, .ref ch), (1, .int cm)] → W p l e R s m args below meth c H locs cells slots Q (F0 m 70 ls [])) :
    ∀ (k : Nat) (f : Nat → Int64) (H : Heap) (locs : List Loc) (ls : Array Slot), k ≤ n + 1 → ((∀ j, j ≤ k → f j = f0 j) ∧ (∀ j, k < j → j ≤ n + 1 → f j = stp cm f0 j) ∧ ∀ j, n + 1 < j → j < 41 → f j = f0 j) → va_P G.1 vwCl [(ch, .inr (0, [.ref lk, .int (nI (n + 1))])), (lk, .inl (G.2.2.1, 41, .inr (.inl f)))] H → va_D A [(ch, .inr (0, [.ref lk, .int (nI (n + 1))])), (lk, .inl (G.2.2.1, 41, .inr (.inl f)))] → va_S A s.heap H locs → lv_has ls 3 [(2, .int (nI k)), (0, .ref ch), (1, .int cm)] → W p l e R s m args below meth c H locs cells slots Q (F0 m 25 ls []) := by
  have hx := F.1
  have hb := F.2.1
  have hown := F.2.2.2.1
  intro k
  induction k with
  | zero =>
    intro f H locs ls hm hI hP hD hS hl
    refine lv_iload_n hx hb dX0_admit_25 rfl (lv_at hl 0 rfl) ?_
    refine lv_iconst (v := 1) hx hb dX0_admit_26 (by decide) ?_
    refine lv_icmp_lt (tgt := 70) hx hb dX0_admit_27 (by decide) (fun _ => ?_) (fun h_ => absurd (by decide +kernel) h_)
    exact kx f H locs ls hI hP hD hS (lv_sub hl [1, 2] rfl)
  | succ k ih =>
    intro f H locs ls hm hI hP hD hS hl
    refine lv_iload_n hx hb dX0_admit_25 rfl (lv_at hl 0 rfl) ?_
    refine lv_iconst (v := 1) hx hb dX0_admit_26 (by decide) ?_
    refine lv_icmp_lt (tgt := 70) hx hb dX0_admit_27 (by decide) (fun h_ => absurd h_ (nI_nlt (a := k + 1) (b := 1) (by omega) (by omega))) (fun _ => ?_)
    refine lv_aload_n hx hb dX0_admit_30 rfl (lv_at hl 1 rfl) ?_
    refine g_get F hK hP 0 rfl clX0 0 (by decide) flX0_9 rfl dX0_admit_31 ?_
    refine lv_iload_n hx hb dX0_admit_34 rfl (lv_at hl 0 rfl) ?_
    refine lv_aload_n hx hb dX0_admit_35 rfl (lv_at hl 1 rfl) ?_
    refine g_get F hK hP 0 rfl clX0 0 (by decide) flX0_9 rfl dX0_admit_36 ?_
    refine lv_iload_n hx hb dX0_admit_39 rfl (lv_at hl 0 rfl) ?_
    refine g_lald (v := (f (k + 1))) F hK hP 1 rfl (vp_in_nI (n := k + 1) (N := 41) (by omega) (by decide)) dX0_admit_40 (by rw [nI_clamp (by omega)]) ?_
    refine lv_bipush (v := 100) hx hb dX0_admit_41 (by decide) ?_
    refine lv_iload_n hx hb dX0_admit_43 rfl (lv_at hl 2 rfl) ?_
    refine lv_isub hx hb dX0_admit_44 ?_
    refine lv_topi (fun x1 ex1 => ?_)
    refine lv_i2l (v := (x1).toInt64) hx hb dX0_admit_45 rfl ?_
    refine lv_lmul hx hb dX0_admit_46 ?_
    refine lv_topl (fun x2 ex2 => ?_)
    refine lv_aload_n hx hb dX0_admit_47 rfl (lv_at hl 1 rfl) ?_
    refine g_get F hK hP 0 rfl clX0 0 (by decide) flX0_9 rfl dX0_admit_48 ?_
    refine lv_iload_n hx hb dX0_admit_51 rfl (lv_at hl 0 rfl) ?_
    refine lv_iconst (v := 1) hx hb dX0_admit_52 (by decide) ?_
    refine lv_isub hx hb dX0_admit_53 ?_
    refine cst_i (y := (nI k)) (nI_pred k) ?_
    refine g_lald (v := (f k)) F hK hP 1 rfl (vp_in_nI (n := k) (N := 41) (by omega) (by decide)) dX0_admit_54 (by rw [nI_clamp (by omega)]) ?_
    refine lv_iload_n hx hb dX0_admit_55 rfl (lv_at hl 2 rfl) ?_
    refine lv_i2l (v := (cm).toInt64) hx hb dX0_admit_56 rfl ?_
    refine lv_lmul hx hb dX0_admit_57 ?_
    refine lv_topl (fun x3 ex3 => ?_)
    refine lv_ladd hx hb dX0_admit_58 ?_
    refine lv_topl (fun x4 ex4 => ?_)
    refine lv_ldc2 hx hb hown (F.2.2.2.2 _ clX0_25) dX0_admit_59 ?_
    refine lv_ldiv hx hb dX0_admit_62 (by decide) ?_
    refine lv_topl (fun x5 ex5 => ?_)
    refine g_last F hK hP hD hS 1 rfl (vp_in_nI (n := k + 1) (N := 41) (by omega) (by decide)) dX0_admit_63 (fun f_ => [(ch, .inr (0, [.ref lk, .int (nI (n + 1))])), (lk, .inl (G.2.2.1, 41, .inr (.inl f_)))]) (fun _ => rfl) (fun f6 H locs ef6 (hP : va_P G.1 vwCl [(ch, .inr (0, [.ref lk, .int (nI (n + 1))])), (lk, .inl (G.2.2.1, 41, .inr (.inl f6)))] H) (hD : va_D A [(ch, .inr (0, [.ref lk, .int (nI (n + 1))])), (lk, .inl (G.2.2.1, 41, .inr (.inl f6)))]) hS => ?_)
    refine lv_iinc (v := (nI k)) (lv' := [(2, .int (nI k)), (0, .ref ch), (1, .int cm)]) hx hb dX0_admit_64 hl (k := 0) rfl (pk_m1 k) (by decide) rfl (fun ls hl => ?_)
    refine lv_goto (tgt := 25) hx hb dX0_admit_67 (by decide) ?_
    exact ih f6 H locs ls (by omega) (ad_inv (by omega) hn hI ex1 ex2 ex3 ex4 ex5 ef6) hP hD hS (lv_sub hl [0, 1, 2] rfl)
set_option maxHeartbeats 4000000 in
set_option maxRecDepth 100000 in
theorem k_X0_admit (l : Launch) (G : Gx) (ch : Nat) (cm : Int32) (lk : Nat) (n : Nat) (f : Nat → Int64) (hn : n < 40) (hf : ∀ j, j < 41 → f j = dst cm n j) : CtV (S := Nat → Int64) l yX0_admit cX0_admit 3 none (rmD 4 0 0) G [.ref ch, .int cm] [(ch, .inr (0, [.ref lk, .int (nI n)])), (lk, .inl (G.2.2.1, 41, .inr (.inl f)))] (fun u => ∀ j, j < 41 → u j = dst cm (n + 1) j) (fun u => [(ch, .inr (0, [.ref lk, .int (nI (n + 1))])), (lk, .inl (G.2.2.1, 41, .inr (.inl u)))]) := by
  refine ctV_of (own := RX0) (by decide +kernel) (by decide +kernel) (Nat.le_of_ble_eq_true rfl) ?_
  intro p e s m below meth c A ls F hr hlk hnm hK hP hD hA hS hl
  have hx := F.1
  have hb := F.2.1
  have hown := F.2.2.2.1
  have hl : lv_has ls 3 [(0, .ref ch), (1, .int cm)] := hl
  refine lv_aload_n hx hb dX0_admit_0 rfl (lv_at hl 0 rfl) ?_
  refine g_get F hK hP 0 rfl clX0 1 (by decide) flX0_13 rfl dX0_admit_1 ?_
  refine lv_bipush (v := 40) hx hb dX0_admit_4 (by decide) ?_
  refine lv_icmp_lt (tgt := 10) hx hb dX0_admit_6 (by decide) (fun _ => ?_) (fun h_ => absurd (nI_lt (a := n) (b := 40) hn (by decide)) h_)
  refine lv_aload_n hx hb dX0_admit_10 rfl (lv_at hl 0 rfl) ?_
  refine lv_dup hx hb dX0_admit_11 rfl ?_
  refine g_get F hK hP 0 rfl clX0 1 (by decide) flX0_13 rfl dX0_admit_12 ?_
  refine lv_iconst (v := 1) hx hb dX0_admit_15 (by decide) ?_
  refine lv_iadd hx hb dX0_admit_16 ?_
  refine cst_i (y := (nI (n + 1))) (nI_1 n) ?_
  refine g_put (w' := [(ch, .inr (0, [.ref lk, .int (nI (n + 1))])), (lk, .inl (G.2.2.1, 41, .inr (.inl f)))]) F hK hP hD hS 0 rfl clX0 1 (by decide) flX0_13 rfl rfl rfl (Nat.le_of_ble_eq_true rfl) dX0_admit_17 rfl (fun H locs hP hD hS => ?_)
  refine lv_aload_n hx hb dX0_admit_20 rfl (lv_at hl 0 rfl) ?_
  refine g_get F hK hP 0 rfl clX0 1 (by decide) flX0_13 rfl dX0_admit_21 ?_
  refine lv_istore_n (lv' := [(2, .int (nI (n + 1))), (0, .ref ch), (1, .int cm)]) hx hb dX0_admit_24 rfl hl (by decide) rfl (fun ls hl => ?_)
  refine lp_admit G n f ch cm lk hn (by exact Nat.le_of_ble_eq_true rfl) (by exact Nat.le_of_ble_eq_true rfl) (by exact Nat.le_of_ble_eq_true rfl) (by exact Nat.le_of_ble_eq_true rfl) F hK hA (fun v1 H locs ls hI2 hP hD hS hl => ?_) (n + 1) f _ _ _ (Nat.le_refl _) ⟨fun _ _ => rfl, fun j h1 h2 => absurd h1 (by omega), fun _ _ _ => rfl⟩ hP hD hS (lv_sub hl [0, 1, 2] rfl)
  refine lv_aload_n hx hb dX0_admit_70 rfl (lv_at hl 0 rfl) ?_
  refine g_get F hK hP 0 rfl clX0 0 (by decide) flX0_9 rfl dX0_admit_71 ?_
  refine lv_iconst (v := 0) hx hb dX0_admit_74 (by decide) ?_
  refine lv_aload_n hx hb dX0_admit_75 rfl (lv_at hl 0 rfl) ?_
  refine g_get F hK hP 0 rfl clX0 0 (by decide) flX0_9 rfl dX0_admit_76 ?_
  refine lv_iconst (v := 0) hx hb dX0_admit_79 (by decide) ?_
  refine g_lald (v := (v1 0)) F hK hP 1 rfl (vin (by decide +kernel)) dX0_admit_80 rfl ?_
  refine lv_bipush (v := 100) hx hb dX0_admit_81 (by decide) ?_
  refine lv_iload_n hx hb dX0_admit_83 rfl (lv_at hl 1 rfl) ?_
  refine lv_isub hx hb dX0_admit_84 ?_
  refine lv_topi (fun x3 ex3 => ?_)
  refine lv_i2l (v := (x3).toInt64) hx hb dX0_admit_85 rfl ?_
  refine lv_lmul hx hb dX0_admit_86 ?_
  refine lv_topl (fun x4 ex4 => ?_)
  refine lv_ldc2 hx hb hown (F.2.2.2.2 _ clX0_25) dX0_admit_87 ?_
  refine lv_ldiv hx hb dX0_admit_90 (by decide) ?_
  refine lv_topl (fun x5 ex5 => ?_)
  refine g_last F hK hP hD hS 1 rfl (vin (by decide +kernel)) dX0_admit_91 (fun f_ => [(ch, .inr (0, [.ref lk, .int (nI (n + 1))])), (lk, .inl (G.2.2.1, 41, .inr (.inl f_)))]) (fun _ => rfl) (fun f6 H locs ef6 (hP : va_P G.1 vwCl [(ch, .inr (0, [.ref lk, .int (nI (n + 1))])), (lk, .inl (G.2.2.1, 41, .inr (.inl f6)))] H) (hD : va_D A [(ch, .inr (0, [.ref lk, .int (nI (n + 1))])), (lk, .inl (G.2.2.1, 41, .inr (.inl f6)))]) hS => ?_)
  exact r_v F hr hlk hP hD hS f6 [0, 1] rfl rfl (ad_end hn hf hI2 ex3 ex4 ex5 ef6) dX0_admit_92 (Nat.le_of_ble_eq_true rfl) (Nat.le_of_ble_eq_true rfl)
set_option maxHeartbeats 4000000 in
set_option maxRecDepth 100000 in
theorem lp_aboveX {p : Program} {l : Launch} {e : Env} {R : Room} {s : State} {m : MethodId} {args : Array Value} {below : List Frame} {meth : Method} {c : Code} {A : Nat → Prop} {cells slots : Nat} {Q : State → Prop} (G : Gx) (t : Nat) (n : Nat) (ch : Nat) (lk : Nat) (f : Nat → Int64) (ht : t ≤ 40) (hn : n ≤ 40) (hRf : 3 ≤ R.frames) (hRl : 180 ≤ R.locals) (hRc : cells ≤ R.cells) (hRs : slots ≤ R.slots) (F : CallFix p m c cX0_above 5 s args tb RX0) (hK : KX G s) (hA : HA G s A)
    (kx : ∀ (z : Int64) (H : Heap) (locs : List Loc) (ls : Array Slot), (z = sm f (t + 1) (n - t)) → va_P G.1 vwCl [(ch, .inr (0, [.ref lk, .int (nI n)])), (lk, .inl (G.2.2.1, 41, .inr (.inl f)))] H → va_D A [(ch, .inr (0, [.ref lk, .int (nI n)])), (lk, .inl (G.2.2.1, 41, .inr (.inl f)))] → va_S A s.heap H locs → lv_has ls 5 [(2, .long z), (0, .ref ch)] → W p l e R s m args below meth c H locs cells slots Q (F0 m 36 ls [])) :
    ∀ (k : Nat) (z : Int64) (i : Nat) (H : Heap) (locs : List Loc) (ls : Array Slot), i + k = (max (t + 1) (n + 1)) → (z = sm f (t + 1) (i - (t + 1)) ∧ t + 1 ≤ i) → va_P G.1 vwCl [(ch, .inr (0, [.ref lk, .int (nI n)])), (lk, .inl (G.2.2.1, 41, .inr (.inl f)))] H → va_D A [(ch, .inr (0, [.ref lk, .int (nI n)])), (lk, .inl (G.2.2.1, 41, .inr (.inl f)))] → va_S A s.heap H locs → lv_has ls 5 [(4, .int (nI i)), (2, .long z), (0, .ref ch), (1, .int (nI t))] → W p l e R s m args below meth c H locs cells slots Q (F0 m 11 ls []) := by
  have hx := F.1
  have hb := F.2.1
  have hown := F.2.2.2.1
  intro k
  induction k with
  | zero =>
    intro z i H locs ls hm hI hP hD hS hl
    have hI2 := hI.2
    refine lv_iload hx hb dX0_above_11 (lv_at hl 0 rfl) ?_
    refine lv_aload_n hx hb dX0_above_13 rfl (lv_at hl 2 rfl) ?_
    refine g_get F hK hP 0 rfl clX0 1 (by decide) flX0_13 rfl dX0_above_14 ?_
    refine lv_icmp_gt (tgt := 36) hx hb dX0_above_17 (by decide) (fun _ => ?_) (fun h_ => absurd (nI_lt (a := n) (b := i) (by omega) (by omega)) h_)
    exact kx z H locs ls (by rw [hI.1]; congr 1; omega) hP hD hS (lv_sub hl [1, 2] rfl)
  | succ k ih =>
    intro z i H locs ls hm hI hP hD hS hl
    have hI2 := hI.2
    refine lv_iload hx hb dX0_above_11 (lv_at hl 0 rfl) ?_
    refine lv_aload_n hx hb dX0_above_13 rfl (lv_at hl 2 rfl) ?_
    refine g_get F hK hP 0 rfl clX0 1 (by decide) flX0_13 rfl dX0_above_14 ?_
    refine lv_icmp_gt (tgt := 36) hx hb dX0_above_17 (by decide) (fun h_ => absurd h_ (nI_nlt (a := n) (b := i) (by omega) (by omega))) (fun _ => ?_)
    refine lv_lload_n hx hb dX0_above_20 rfl (lv_at hl 1 rfl) ?_
    refine lv_aload_n hx hb dX0_above_21 rfl (lv_at hl 2 rfl) ?_
    refine g_get F hK hP 0 rfl clX0 0 (by decide) flX0_9 rfl dX0_above_22 ?_
    refine lv_iload hx hb dX0_above_25 (lv_at hl 0 rfl) ?_
    refine g_lald (v := (f i)) F hK hP 1 rfl (vp_in_nI (n := i) (N := 41) (by omega) (by decide)) dX0_above_27 (by rw [nI_clamp (by omega)]) ?_
    refine lv_ladd hx hb dX0_above_28 ?_
    refine lv_topl (fun x1 ex1 => ?_)
    refine lv_lstore_n (lv' := [(2, .long x1), (4, .int (nI i)), (0, .ref ch), (1, .int (nI t))]) hx hb dX0_above_29 rfl hl (by decide) rfl (fun ls hl => ?_)
    refine lv_iinc (v := (nI (i + 1))) (lv' := [(4, .int (nI (i + 1))), (2, .long x1), (0, .ref ch), (1, .int (nI t))]) hx hb dX0_above_30 hl (k := 1) rfl (nI_1 i) (by decide) rfl (fun ls hl => ?_)
    refine lv_goto (tgt := 11) hx hb dX0_above_33 (by decide) ?_
    exact ih x1 (i + 1) H locs ls (by omega) (sm_next hI ex1) hP hD hS (lv_sub hl [0, 1, 2, 3] rfl)
set_option maxHeartbeats 4000000 in
set_option maxRecDepth 100000 in
theorem k_X0_above (l : Launch) (G : Gx) (ch : Nat) (t : Nat) (lk : Nat) (n : Nat) (f : Nat → Int64) (ht : t ≤ 40) (hn : n ≤ 40) : CtL (S := Unit) l yX0_above cX0_above 5 (some .long) (rmD 4 0 0) G [.ref ch, .int (nI t)] [(ch, .inr (0, [.ref lk, .int (nI n)])), (lk, .inl (G.2.2.1, 41, .inr (.inl f)))] (fun r _ => r = sm f (t + 1) (n - t)) (fun _ => [(ch, .inr (0, [.ref lk, .int (nI n)])), (lk, .inl (G.2.2.1, 41, .inr (.inl f)))]) := by
  refine ctL_of (own := RX0) (by decide +kernel) rfl (Nat.le_of_ble_eq_true rfl) ?_
  intro p e s m below meth c A ls F hr hlk hnm hK hP hD hA hS hl
  have hx := F.1
  have hb := F.2.1
  have hown := F.2.2.2.1
  have hl : lv_has ls 5 [(0, .ref ch), (1, .int (nI t))] := hl
  refine lv_lconst (v := 0) hx hb dX0_above_0 (by decide) ?_
  refine lv_lstore_n (lv' := [(2, .long 0), (0, .ref ch), (1, .int (nI t))]) hx hb dX0_above_1 rfl hl (by decide) rfl (fun ls hl => ?_)
  refine lv_iconst (v := 0) hx hb dX0_above_2 (by decide) ?_
  refine lv_iload_n hx hb dX0_above_3 rfl (lv_at hl 2 rfl) ?_
  refine lv_iconst (v := 1) hx hb dX0_above_4 (by decide) ?_
  refine lv_iadd hx hb dX0_above_5 ?_
  refine cst_i (y := (nI (t + 1))) (nI_1 t) ?_
  refine va_mmax hx hb (F.2.2.1.trans hl.1.symm) hown (F.2.2.2.2 _ mmX0_max) (F.2.2.2.2 _ mms_max) (F.2.2.2.2 _ ini_J9) (F.2.2.2.2 _ mmc_max) (Nat.le_of_ble_eq_true rfl) (Nat.le_of_ble_eq_true rfl) (Nat.le_of_ble_eq_true rfl) (Nat.le_of_ble_eq_true rfl) dX0_above_6 ?_
  refine cst_i (y := (nI (t + 1))) (mx0 (by omega)) ?_
  refine lv_istore (lv' := [(4, .int (nI (t + 1))), (2, .long 0), (0, .ref ch), (1, .int (nI t))]) hx hb dX0_above_9 hl (by decide) rfl (fun ls hl => ?_)
  refine lp_aboveX G t n ch lk f ht hn (by exact Nat.le_of_ble_eq_true rfl) (by exact Nat.le_of_ble_eq_true rfl) (by exact Nat.le_of_ble_eq_true rfl) (by exact Nat.le_of_ble_eq_true rfl) F hK hA (fun v1 H locs ls hI2 hP hD hS hl => ?_) (max (t + 1) (n + 1) - (t + 1)) 0 (t + 1) _ _ _ (by omega) ⟨by rw [Nat.sub_self]; rfl, Nat.le_refl _⟩ hP hD hS (lv_sub hl [0, 1, 2, 3] rfl)
  refine lv_lload_n hx hb dX0_above_36 rfl (lv_at hl 0 rfl) ?_
  exact r_l F hr hlk hP hD hS () [0, 1] rfl rfl hI2 dX0_above_37 (Nat.le_of_ble_eq_true rfl) (Nat.le_of_ble_eq_true rfl)
set_option maxHeartbeats 4000000 in
set_option maxRecDepth 100000 in
theorem lp26_most {p : Program} {l : Launch} {e : Env} {R : Room} {s : State} {m : MethodId} {args : Array Value} {below : List Frame} {meth : Method} {c : Code} {A : Nat → Prop} {cells slots : Nat} {Q : State → Prop} (G : Gx) (t : Nat) (ch : Nat) (cm : Int32) (pt : Int32) (lk : Nat) (ht : t ≤ 40) (hRf : 6 ≤ R.frames) (hRl : 360 ≤ R.locals) (hRc : cells ≤ R.cells) (hRs : slots ≤ R.slots) (F : CallFix p m c cX0_mostBookings 6 s args tb RX0) (hK : KX G s) (hA : HA G s A)
    (kx : ∀ (mo : Int32) (f : Nat → Int64) (H : Heap) (locs : List Loc) (ls : Array Slot), (mo = ov cm t pt 40) → va_P G.1 vwCl [(ch, .inr (0, [.ref lk, .int 40])), (lk, .inl (G.2.2.1, 41, .inr (.inl f)))] H → va_D A [(ch, .inr (0, [.ref lk, .int 40])), (lk, .inl (G.2.2.1, 41, .inr (.inl f)))] → va_S A s.heap H locs → lv_has ls 6 [(4, .int mo)] → W p l e R s m args below meth c H locs cells slots Q (F0 m 47 ls [])) :
    ∀ (k : Nat) (mo : Int32) (f : Nat → Int64) (i : Nat) (H : Heap) (locs : List Loc) (ls : Array Slot), i + k = 40 → (mo = ov cm t pt i ∧ ∀ j, j < 41 → f j = dst cm i j) → va_P G.1 vwCl [(ch, .inr (0, [.ref lk, .int (nI i)])), (lk, .inl (G.2.2.1, 41, .inr (.inl f)))] H → va_D A [(ch, .inr (0, [.ref lk, .int (nI i)])), (lk, .inl (G.2.2.1, 41, .inr (.inl f)))] → va_S A s.heap H locs → lv_has ls 6 [(5, .int (nI (i + 1))), (4, .int mo), (0, .ref ch), (1, .int cm), (2, .int (nI t)), (3, .int pt)] → W p l e R s m args below meth c H locs cells slots Q (F0 m 10 ls []) := by
  have hx := F.1
  have hb := F.2.1
  have hown := F.2.2.2.1
  intro k
  induction k with
  | zero =>
    intro mo f i H locs ls hm hI hP hD hS hl
    refine lv_iload hx hb dX0_mostBookings_10 (lv_at hl 0 rfl) ?_
    refine lv_bipush (v := 40) hx hb dX0_mostBookings_12 (by decide) ?_
    refine lv_icmp_gt (tgt := 47) hx hb dX0_mostBookings_14 (by decide) (fun _ => ?_) (fun h_ => absurd (nI_lt (a := 40) (b := i + 1) (by omega) (by omega)) h_)
    rw [show i = 40 from by omega] at hP hD
    exact kx mo f H locs ls (by have h := hI.1; rwa [show i = 40 by omega] at h) (hP.sub (ws' := [(ch, .inr (0, [.ref lk, .int 40])), (lk, .inl (G.2.2.1, 41, .inr (.inl f)))]) [0, 1] rfl) (hD.sub (ws' := [(ch, .inr (0, [.ref lk, .int 40])), (lk, .inl (G.2.2.1, 41, .inr (.inl f)))]) [0, 1] rfl rfl) hS (lv_sub hl [1] rfl)
  | succ k ih =>
    intro mo f i H locs ls hm hI hP hD hS hl
    refine lv_iload hx hb dX0_mostBookings_10 (lv_at hl 0 rfl) ?_
    refine lv_bipush (v := 40) hx hb dX0_mostBookings_12 (by decide) ?_
    refine lv_icmp_gt (tgt := 47) hx hb dX0_mostBookings_14 (by decide) (fun h_ => absurd h_ (nI_nlt (a := 40) (b := i + 1) (by omega) (by decide))) (fun _ => ?_)
    refine lv_aload_n hx hb dX0_mostBookings_17 rfl (lv_at hl 2 rfl) ?_
    refine lv_iload_n hx hb dX0_mostBookings_18 rfl (lv_at hl 3 rfl) ?_
    refine cvv (wr := []) (As := [.int cm]) (rest := []) (b := ch) (k1 := cells) (s1 := slots) F hK hP hD hS hA (k_X0_admit l G ch cm lk i f (by omega) hI.2) kmV_X0_admit mlX0_55 clX0 (by decide +kernel) 0 rfl ⟨(Nat.le_trans (Nat.le_of_ble_eq_true rfl) hRf), (Nat.le_trans (Nat.le_of_ble_eq_true rfl) hRl)⟩ [0, 1] [] rfl rfl rfl rfl (by decide) hl.1 rfl (Nat.le_of_ble_eq_true rfl) dX0_mostBookings_19 ⟨hRc, hRs⟩ rfl rfl (fun u1 H locs hwr2 (hP : va_P G.1 vwCl [(ch, .inr (0, [.ref lk, .int (nI (i + 1))])), (lk, .inl (G.2.2.1, 41, .inr (.inl u1)))] H) (hD : va_D A [(ch, .inr (0, [.ref lk, .int (nI (i + 1))])), (lk, .inl (G.2.2.1, 41, .inr (.inl u1)))]) hS => ?_)
    refine lv_aload_n hx hb dX0_mostBookings_22 rfl (lv_at hl 2 rfl) ?_
    refine lv_iload_n hx hb dX0_mostBookings_23 rfl (lv_at hl 4 rfl) ?_
    refine cvl (wr := []) (As := [.int (nI t)]) (rest := []) (b := ch) (k1 := cells) (s1 := slots) F hK hP hD hS hA (k_X0_above l G ch t lk (i + 1) u1 ht (by omega)) kmV_X0_above mlX0_73 clX0 rfl 0 rfl ⟨(Nat.le_trans (Nat.le_of_ble_eq_true rfl) hRf), (Nat.le_trans (Nat.le_of_ble_eq_true rfl) hRl)⟩ [0, 1] [] rfl rfl rfl rfl (by decide) hl.1 rfl (Nat.le_of_ble_eq_true rfl) dX0_mostBookings_24 ⟨hRc, hRs⟩ rfl rfl (fun r4 u3 H locs hwr4 (hP : va_P G.1 vwCl [(ch, .inr (0, [.ref lk, .int (nI (i + 1))])), (lk, .inl (G.2.2.1, 41, .inr (.inl u1)))] H) (hD : va_D A [(ch, .inr (0, [.ref lk, .int (nI (i + 1))])), (lk, .inl (G.2.2.1, 41, .inr (.inl u1)))]) hS => ?_)
    subst hwr4
    refine lv_iload_n hx hb dX0_mostBookings_27 rfl (lv_at hl 5 rfl) ?_
    refine lv_i2l (v := (pt).toInt64) hx hb dX0_mostBookings_28 rfl ?_
    refine lv_ldc2 hx hb hown (F.2.2.2.2 _ clX0_77) dX0_mostBookings_29 ?_
    refine lv_lmul hx hb dX0_mostBookings_32 ?_
    refine lv_topl (fun x5 ex5 => ?_)
    refine W.lcmp hx hb dX0_mostBookings_33 ?_
    refine lv_topi (fun x6 ex6 => ?_)
    refine lv_if_gt (tgt := 41) hx hb dX0_mostBookings_34 (by decide) (fun c7 => ?_) (fun c7 => ?_)
    · refine lv_iinc (v := (nI ((i + 1) + 1))) (lv' := [(5, .int (nI ((i + 1) + 1))), (4, .int mo), (0, .ref ch), (1, .int cm), (2, .int (nI t)), (3, .int pt)]) hx hb dX0_mostBookings_41 hl (k := 0) rfl (nI_1 (i + 1)) (by decide) rfl (fun ls hl => ?_)
      refine lv_goto (tgt := 10) hx hb dX0_mostBookings_44 (by decide) ?_
      exact ih mo u1 (i + 1) H locs ls (by omega) ⟨ov_y (sm_own hwr2 (by omega)) ex5 ex6 c7 hI.1, hwr2⟩ hP hD hS (lv_sub hl [0, 1, 2, 3, 4, 5] rfl)
    · refine lv_iload hx hb dX0_mostBookings_37 (lv_at hl 0 rfl) ?_
      refine lv_istore (lv' := [(4, .int (nI (i + 1))), (5, .int (nI (i + 1))), (0, .ref ch), (1, .int cm), (2, .int (nI t)), (3, .int pt)]) hx hb dX0_mostBookings_39 hl (by decide) rfl (fun ls hl => ?_)
      refine lv_iinc (v := (nI ((i + 1) + 1))) (lv' := [(5, .int (nI ((i + 1) + 1))), (4, .int (nI (i + 1))), (0, .ref ch), (1, .int cm), (2, .int (nI t)), (3, .int pt)]) hx hb dX0_mostBookings_41 hl (k := 1) rfl (nI_1 (i + 1)) (by decide) rfl (fun ls hl => ?_)
      refine lv_goto (tgt := 10) hx hb dX0_mostBookings_44 (by decide) ?_
      exact ih (nI (i + 1)) u1 (i + 1) H locs ls (by omega) ⟨ov_n (sm_own hwr2 (by omega)) ex5 ex6 c7, hwr2⟩ hP hD hS (lv_sub hl [0, 1, 2, 3, 4, 5] rfl)
set_option maxHeartbeats 4000000 in
set_option maxRecDepth 100000 in
theorem k26_most (l : Launch) (G : Gx) (ch : Nat) (cm : Int32) (t : Nat) (pt : Int32) (lk : Nat) (cc0 : Int32) (f : Nat → Int64) (ht : t ≤ 40) : CtI (S := Nat → Int64) l yX0_mostBookings cX0_mostBookings 6 (some .int) (rmD 7 0 0) G [.ref ch, .int cm, .int (nI t), .int pt] [(ch, .inr (0, [.ref lk, .int cc0])), (lk, .inl (G.2.2.1, 41, .inr (.inl f)))] (fun r u => (r = ov cm t pt 40)) (fun u => [(ch, .inr (0, [.ref lk, .int 40])), (lk, .inl (G.2.2.1, 41, .inr (.inl u)))]) := by
  refine ctI_of (own := RX0) (by decide +kernel) rfl (Nat.le_of_ble_eq_true rfl) ?_
  intro p e s m below meth c A ls F hr hlk hnm hK hP hD hA hS hl
  have hx := F.1
  have hb := F.2.1
  have hown := F.2.2.2.1
  have hl : lv_has ls 6 [(0, .ref ch), (1, .int cm), (2, .int (nI t)), (3, .int pt)] := hl
  refine lv_iconst (v := 0) hx hb dX0_mostBookings_0 (by decide) ?_
  refine lv_istore (lv' := [(4, .int 0), (0, .ref ch), (1, .int cm), (2, .int (nI t)), (3, .int pt)]) hx hb dX0_mostBookings_1 hl (by decide) rfl (fun ls hl => ?_)
  refine lv_aload_n hx hb dX0_mostBookings_3 rfl (lv_at hl 1 rfl) ?_
  refine cvv (wr := []) (As := []) (rest := []) (b := ch) (k1 := 0) (s1 := 0) F hK hP hD hS hA (k_X0_begin l G ch lk cc0 f) kmV_X0_begin mlX0_33 clX0 rfl 0 rfl ⟨(Nat.le_of_ble_eq_true rfl), (Nat.le_of_ble_eq_true rfl)⟩ [0, 1] [] rfl rfl rfl rfl (by decide) hl.1 rfl (Nat.le_of_ble_eq_true rfl) dX0_mostBookings_4 ⟨(Nat.le_of_ble_eq_true rfl), (Nat.le_of_ble_eq_true rfl)⟩ rfl rfl (fun u1 H locs hwr2 (hP : va_P G.1 vwCl [(ch, .inr (0, [.ref lk, .int 0])), (lk, .inl (G.2.2.1, 41, .inr (.inl u1)))] H) (hD : va_D A [(ch, .inr (0, [.ref lk, .int 0])), (lk, .inl (G.2.2.1, 41, .inr (.inl u1)))]) hS => ?_)
  refine lv_iconst (v := 1) hx hb dX0_mostBookings_7 (by decide) ?_
  refine lv_istore (lv' := [(5, .int 1), (4, .int 0), (0, .ref ch), (1, .int cm), (2, .int (nI t)), (3, .int pt)]) hx hb dX0_mostBookings_8 hl (by decide) rfl (fun ls hl => ?_)
  refine lp26_most G t ch cm pt lk ht (by exact Nat.le_of_ble_eq_true rfl) (by exact Nat.le_of_ble_eq_true rfl) (by exact Nat.le_of_ble_eq_true rfl) (by exact Nat.le_of_ble_eq_true rfl) F hK hA (fun v3 v4 H locs ls hI5 hP hD hS hl => ?_) 40 0 u1 0 _ _ _ (by omega) ⟨rfl, hwr2⟩ hP hD hS (lv_sub hl [0, 1, 2, 3, 4, 5] rfl)
  refine lv_iload hx hb dX0_mostBookings_47 (lv_at hl 0 rfl) ?_
  exact r_i F hr hlk hP hD hS v4 [0, 1] rfl rfl hI5 dX0_mostBookings_49 (Nat.le_of_ble_eq_true rfl) (Nat.le_of_ble_eq_true rfl)
set_option maxHeartbeats 4000000 in
set_option maxRecDepth 100000 in
theorem k26_over (l : Launch) (G : Gx) (x : Nat) (a : Int32) (b : Int32) (d : Int32) (ox0 : Nat) (oi1 : Int32) (ox2 : Nat) (ox3 : Nat) (ox4 : Nat) (ox5 : Nat) (ox6 : Nat) (ch : Nat) (oi8 : Int32) (oi9 : Int32) (oj10 : Int64) (ox11 : Nat) (oi12 : Int32) (ox13 : Nat) (lk : Nat) (cc0 : Int32) (f : Nat → Int64) (hc : (0 : Int) ≤ cc0.toInt ∧ cc0.toInt ≤ (40 : Int)) : CtI (S := Int32 × (Nat → Int64)) l yX11_over cX11_over 4 (some .int) (rmD 8 0 0) G [.ref x, .int a, .int b, .int d] [(x, .inr (11, [.ref ox0, .int oi1, .ref ox2, .ref ox3, .ref ox4, .ref ox5, .ref ox6, .ref ch, .int oi8, .int oi9, .long oj10, .ref ox11, .int oi12, .ref ox13])), (ch, .inr (0, [.ref lk, .int cc0])), (lk, .inl (G.2.2.1, 41, .inr (.inl f)))] (fun r u => (r = fOver a b d ∧ ((0 : Int) ≤ u.1.toInt ∧ u.1.toInt ≤ (40 : Int)))) (fun u => [(x, .inr (11, [.ref ox0, .int oi1, .ref ox2, .ref ox3, .ref ox4, .ref ox5, .ref ox6, .ref ch, .int oi8, .int oi9, .long oj10, .ref ox11, .int oi12, .ref ox13])), (ch, .inr (0, [.ref lk, .int u.1])), (lk, .inl (G.2.2.1, 41, .inr (.inl u.2)))]) := by
  refine ctI_of (own := RX11) (by decide +kernel) rfl (Nat.le_of_ble_eq_true rfl) ?_
  intro p e s m below meth c A ls F hr hlk hnm hK hP hD hA hS hl
  have hx := F.1
  have hb := F.2.1
  have hown := F.2.2.2.1
  have hl : lv_has ls 4 [(0, .ref x), (1, .int a), (2, .int b), (3, .int d)] := hl
  refine lv_iload_n hx hb dX11_over_0 rfl (lv_at hl 1 rfl) ?_
  refine csi (wr := [(x, .inr (11, [.ref ox0, .int oi1, .ref ox2, .ref ox3, .ref ox4, .ref ox5, .ref ox6, .ref ch, .int oi8, .int oi9, .long oj10, .ref ox11, .int oi12, .ref ox13])), (ch, .inr (0, [.ref lk, .int cc0])), (lk, .inl (G.2.2.1, 41, .inr (.inl f)))]) (As := [.int a]) (rest := []) (k1 := 0) (s1 := 0) F hK hP hD hS hA (k_X11_isPart l G a) kmS_X11_isPart mlX11_313 ⟨(Nat.le_of_ble_eq_true rfl), (Nat.le_of_ble_eq_true rfl)⟩ [] [0, 1, 2] rfl rfl rfl rfl (by decide) hl.1 rfl (Nat.le_of_ble_eq_true rfl) dX11_over_1 ⟨(Nat.le_of_ble_eq_true rfl), (Nat.le_of_ble_eq_true rfl)⟩ rfl rfl (fun r2 u1 H locs hwr2 (hP : va_P G.1 vwCl [(x, .inr (11, [.ref ox0, .int oi1, .ref ox2, .ref ox3, .ref ox4, .ref ox5, .ref ox6, .ref ch, .int oi8, .int oi9, .long oj10, .ref ox11, .int oi12, .ref ox13])), (ch, .inr (0, [.ref lk, .int cc0])), (lk, .inl (G.2.2.1, 41, .inr (.inl f)))] H) (hD : va_D A [(x, .inr (11, [.ref ox0, .int oi1, .ref ox2, .ref ox3, .ref ox4, .ref ox5, .ref ox6, .ref ch, .int oi8, .int oi9, .long oj10, .ref ox11, .int oi12, .ref ox13])), (ch, .inr (0, [.ref lk, .int cc0])), (lk, .inl (G.2.2.1, 41, .inr (.inl f)))]) hS => ?_)
  subst hwr2
  refine lv_if_eq (tgt := 24) hx hb dX11_over_4 (by decide) (fun c3 => ?_) (fun c3 => ?_)
  · refine lv_iconst (v := (-1)) hx hb dX11_over_24 (by decide) ?_
    exact r_i F hr hlk hP hD hS (cc0, f) [0, 1, 2] rfl rfl ⟨by simp [fOver, c3], hc⟩ dX11_over_25 (Nat.le_of_ble_eq_true rfl) (Nat.le_of_ble_eq_true rfl)
  · refine lv_iload_n hx hb dX11_over_7 rfl (lv_at hl 3 rfl) ?_
    refine csi (wr := [(x, .inr (11, [.ref ox0, .int oi1, .ref ox2, .ref ox3, .ref ox4, .ref ox5, .ref ox6, .ref ch, .int oi8, .int oi9, .long oj10, .ref ox11, .int oi12, .ref ox13])), (ch, .inr (0, [.ref lk, .int cc0])), (lk, .inl (G.2.2.1, 41, .inr (.inl f)))]) (As := [.int d]) (rest := []) (k1 := 0) (s1 := 0) F hK hP hD hS hA (k_X11_isPart l G d) kmS_X11_isPart mlX11_313 ⟨(Nat.le_of_ble_eq_true rfl), (Nat.le_of_ble_eq_true rfl)⟩ [] [0, 1, 2] rfl rfl rfl rfl (by decide) hl.1 rfl (Nat.le_of_ble_eq_true rfl) dX11_over_8 ⟨(Nat.le_of_ble_eq_true rfl), (Nat.le_of_ble_eq_true rfl)⟩ rfl rfl (fun r5 u4 H locs hwr5 (hP : va_P G.1 vwCl [(x, .inr (11, [.ref ox0, .int oi1, .ref ox2, .ref ox3, .ref ox4, .ref ox5, .ref ox6, .ref ch, .int oi8, .int oi9, .long oj10, .ref ox11, .int oi12, .ref ox13])), (ch, .inr (0, [.ref lk, .int cc0])), (lk, .inl (G.2.2.1, 41, .inr (.inl f)))] H) (hD : va_D A [(x, .inr (11, [.ref ox0, .int oi1, .ref ox2, .ref ox3, .ref ox4, .ref ox5, .ref ox6, .ref ch, .int oi8, .int oi9, .long oj10, .ref ox11, .int oi12, .ref ox13])), (ch, .inr (0, [.ref lk, .int cc0])), (lk, .inl (G.2.2.1, 41, .inr (.inl f)))]) hS => ?_)
    subst hwr5
    refine lv_if_eq (tgt := 24) hx hb dX11_over_11 (by decide) (fun c6 => ?_) (fun c6 => ?_)
    · refine lv_iconst (v := (-1)) hx hb dX11_over_24 (by decide) ?_
      exact r_i F hr hlk hP hD hS (cc0, f) [0, 1, 2] rfl rfl ⟨by simp [fOver, c3, c6], hc⟩ dX11_over_25 (Nat.le_of_ble_eq_true rfl) (Nat.le_of_ble_eq_true rfl)
    · refine lv_iload_n hx hb dX11_over_14 rfl (lv_at hl 2 rfl) ?_
      refine lv_if_lt (tgt := 24) hx hb dX11_over_15 (by decide) (fun c7 => ?_) (fun c7 => ?_)
      · refine lv_iconst (v := (-1)) hx hb dX11_over_24 (by decide) ?_
        exact r_i F hr hlk hP hD hS (cc0, f) [0, 1, 2] rfl rfl ⟨by simp [fOver, c3, c6, c7], hc⟩ dX11_over_25 (Nat.le_of_ble_eq_true rfl) (Nat.le_of_ble_eq_true rfl)
      · refine lv_iload_n hx hb dX11_over_18 rfl (lv_at hl 2 rfl) ?_
        refine lv_bipush (v := 40) hx hb dX11_over_19 (by decide) ?_
        refine lv_icmp_le (tgt := 26) hx hb dX11_over_21 (by decide) (fun c8 => ?_) (fun c8 => ?_)
        · obtain ⟨t, ht, rfl⟩ := nI_of2 (n := 40) (M := 40) rfl c7 c8
          refine lv_aload_n hx hb dX11_over_26 rfl (lv_at hl 0 rfl) ?_
          refine g_get F hK hP 0 rfl clX11 7 (by decide) flX11_66 rfl dX11_over_27 ?_
          refine lv_iload_n hx hb dX11_over_30 rfl (lv_at hl 1 rfl) ?_
          refine lv_iload_n hx hb dX11_over_31 rfl (lv_at hl 2 rfl) ?_
          refine lv_iload_n hx hb dX11_over_32 rfl (lv_at hl 3 rfl) ?_
          refine cvi (wr := [(x, .inr (11, [.ref ox0, .int oi1, .ref ox2, .ref ox3, .ref ox4, .ref ox5, .ref ox6, .ref ch, .int oi8, .int oi9, .long oj10, .ref ox11, .int oi12, .ref ox13]))]) (As := [.int a, .int (nI t), .int d]) (rest := []) (b := ch) (k1 := 0) (s1 := 0) F hK hP hD hS hA (k26_most l G ch a t d lk cc0 f ht) kmV_X0_mostBookings mlX11_318 clX0 rfl 0 rfl ⟨(Nat.le_of_ble_eq_true rfl), (Nat.le_of_ble_eq_true rfl)⟩ [1, 2] [0] rfl rfl rfl rfl (by decide) hl.1 rfl (Nat.le_of_ble_eq_true rfl) dX11_over_33 ⟨(Nat.le_of_ble_eq_true rfl), (Nat.le_of_ble_eq_true rfl)⟩ rfl rfl (fun r10 u9 H locs hwr10 (hP : va_P G.1 vwCl [(x, .inr (11, [.ref ox0, .int oi1, .ref ox2, .ref ox3, .ref ox4, .ref ox5, .ref ox6, .ref ch, .int oi8, .int oi9, .long oj10, .ref ox11, .int oi12, .ref ox13])), (ch, .inr (0, [.ref lk, .int 40])), (lk, .inl (G.2.2.1, 41, .inr (.inl u9)))] H) (hD : va_D A [(x, .inr (11, [.ref ox0, .int oi1, .ref ox2, .ref ox3, .ref ox4, .ref ox5, .ref ox6, .ref ch, .int oi8, .int oi9, .long oj10, .ref ox11, .int oi12, .ref ox13])), (ch, .inr (0, [.ref lk, .int 40])), (lk, .inl (G.2.2.1, 41, .inr (.inl u9)))]) hS => ?_)
          exact r_i F hr hlk hP hD hS (40, u9) [0, 1, 2] rfl rfl ⟨hwr10.trans (fOver_main c3 c6 ht), (show (0 : Int) ≤ (40 : Int32).toInt ∧ (40 : Int32).toInt ≤ (40 : Int) from by decide)⟩ dX11_over_36 (Nat.le_of_ble_eq_true rfl) (Nat.le_of_ble_eq_true rfl)
        · refine lv_iconst (v := (-1)) hx hb dX11_over_24 (by decide) ?_
          exact r_i F hr hlk hP hD hS (cc0, f) [0, 1, 2] rfl rfl ⟨by simp [fOver, c3, c6, c7, c8], hc⟩ dX11_over_25 (Nat.le_of_ble_eq_true rfl) (Nat.le_of_ble_eq_true rfl)
