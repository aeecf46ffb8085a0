set_option maxHeartbeats 4000000 in
set_option maxRecDepth 100000 in
theorem k_X0_begin (l : Launch) (G : Gx) (ch : Nat) (lk : Nat) (cc0 : Int32) (f : Nat → Int64)  : CtV (S := Nat → Int64) l yX0_begin cX0_begin 1 none (rmD 5 0 0) G [.ref ch] [(ch, .inr (0, [.ref lk, .int cc0])), (lk, .inl (G.2.2.1, 41, .inr (.inl f)))] (fun u => ∀ j, j < 41 → u j = d0 j) (fun u => [(ch, .inr (0, [.ref lk, .int 0])), (lk, .inl (G.2.2.1, 41, .inr (.inl u)))]) := by
  refine ctV_of (own := RX0) (by decide +kernel) rfl (Nat.le_of_ble_eq_true rfl) ?_
  intro p e s m below meth c A ls F hr hlk hnm hK hP hD hA hS hl
  have hx := F.1
  have hb := F.2.1
  have hown := F.2.2.2.1
  have hl : lv_has ls 1 [(0, .ref ch)] := hl
  refine lv_aload_n hx hb dX0_begin_0 rfl (lv_at hl 0 rfl) ?_
  refine g_get F hK hP 0 rfl clX0 0 (by decide) flX0_9 rfl dX0_begin_1 ?_
  refine lv_lconst (v := 0) hx hb dX0_begin_4 (by decide) ?_
  refine csv (wr := [(ch, .inr (0, [.ref lk, .int cc0]))]) (As := [.ref lk, .long 0]) (rest := []) (k1 := 0) (s1 := 0) F hK hP hD hS hA (k_J7_fill_d0a16 l G 41 lk 0 f (by decide)) kmS_J7_fill_d0a16 mlX0_17 ⟨(Nat.le_of_ble_eq_true rfl), (Nat.le_of_ble_eq_true rfl)⟩ [1] [0] rfl rfl rfl rfl (by decide) hl.1 rfl (Nat.le_of_ble_eq_true rfl) dX0_begin_5 ⟨(Nat.le_of_ble_eq_true rfl), (Nat.le_of_ble_eq_true rfl)⟩ rfl rfl (fun u1 H locs hwr2 (hP : va_P G.1 vwCl [(ch, .inr (0, [.ref lk, .int cc0])), (lk, .inl (G.2.2.1, 41, .inr (.inl u1)))] H) (hD : va_D A [(ch, .inr (0, [.ref lk, .int cc0])), (lk, .inl (G.2.2.1, 41, .inr (.inl u1)))]) hS => ?_)
  refine lv_aload_n hx hb dX0_begin_8 rfl (lv_at hl 0 rfl) ?_
  refine g_get F hK hP 0 rfl clX0 0 (by decide) flX0_9 rfl dX0_begin_9 ?_
  refine lv_iconst (v := 0) hx hb dX0_begin_12 (by decide) ?_
  refine lv_ldc2 hx hb hown (F.2.2.2.2 _ clX0_23) dX0_begin_13 ?_
  refine g_last F hK hP hD hS 1 rfl (vin (by decide +kernel)) dX0_begin_16 (fun f_ => [(ch, .inr (0, [.ref lk, .int cc0])), (lk, .inl (G.2.2.1, 41, .inr (.inl f_)))]) (fun _ => rfl) (fun f3 H locs ef3 (hP : va_P G.1 vwCl [(ch, .inr (0, [.ref lk, .int cc0])), (lk, .inl (G.2.2.1, 41, .inr (.inl f3)))] H) (hD : va_D A [(ch, .inr (0, [.ref lk, .int cc0])), (lk, .inl (G.2.2.1, 41, .inr (.inl f3)))]) hS => ?_)
  refine lv_aload_n hx hb dX0_begin_17 rfl (lv_at hl 0 rfl) ?_
  refine lv_iconst (v := 0) hx hb dX0_begin_18 (by decide) ?_
  refine g_put (w' := [(ch, .inr (0, [.ref lk, .int 0])), (lk, .inl (G.2.2.1, 41, .inr (.inl f3)))]) F hK hP hD hS 0 rfl clX0 1 (by decide) flX0_13 rfl rfl rfl (Nat.le_of_ble_eq_true rfl) dX0_begin_19 rfl (fun H locs hP hD hS => ?_)
  exact r_v F hr hlk hP hD hS f3 [0, 1] rfl rfl (begin_inv hwr2 ef3) dX0_begin_22 (Nat.le_of_ble_eq_true rfl) (Nat.le_of_ble_eq_true rfl)
set_option maxHeartbeats 4000000 in
set_option maxRecDepth 100000 in
theorem lp_admit {p : Program} {l : Launch} {e : Env} {R : Room} {s : State} {m : MethodId} {args : Array Value} {below : List Frame} {meth : Method} {c : Code} {A : Nat → Prop} {cells slots : Nat} {Q : State → Prop} (G : Gx) (n : Nat) (f0 : Nat → Int64) (ch : Nat) (cm : Int32) (lk : Nat) (hn : n < 40) (hRf : 3 ≤ R.frames) (hRl : 180 ≤ R.locals) (hRc : cells ≤ R.cells) (hRs : slots ≤ R.slots) (F : CallFix p m c cX0_admit 3 s args tb RX0) (hK : KX G s) (hA : HA G s A)
    (kx : ∀ (f : Nat → Int64) (H : Heap) (locs : List Loc) (ls : Array Slot), ((∀ j, j ≤ 0 → f j = f0 j) ∧ (∀ j, 0 < j → j ≤ n + 1 → f j = stp cm f0 j) ∧ ∀ j, n + 1 < j → j < 41 → f j = f0 j) → va_P G.1 vwCl [(ch, .inr (0, [.ref lk, .int (nI (n + 1))])), (lk, .inl (G.2.2.1, 41, .inr (.inl f)))] H → va_D A [(ch, .inr (0, [.ref lk, .int (nI (n + 1))])), (lk, .inl (G.2.2.1, 41, .inr (.inl f)))] → va_S A s.heap H locs → lv_has ls 3 [(0, .ref ch), (1, .int cm)] → W p l e R s m args below meth c H locs cells slots Q (F0 m 70 ls [])) :
    ∀ (k : Nat) (f : Nat → Int64) (H : Heap) (locs : List Loc) (ls : Array Slot), k ≤ n + 1 → ((∀ j, j ≤ k → f j = f0 j) ∧ (∀ j, k < j → j ≤ n + 1 → f j = stp cm f0 j) ∧ ∀ j, n + 1 < j → j < 41 → f j = f0 j) → va_P G.1 vwCl [(ch, .inr (0, [.ref lk, .int (nI (n + 1))])), (lk, .inl (G.2.2.1, 41, .inr (.inl f)))] H → va_D A [(ch, .inr (0, [.ref lk, .int (nI (n + 1))])), (lk, .inl (G.2.2.1, 41, .inr (.inl f)))] → va_S A s.heap H locs → lv_has ls 3 [(2, .int (nI k)), (0, .ref ch), (1, .int cm)] → W p l e R s m args below meth c H locs cells slots Q (F0 m 25 ls []) := by
  have hx := F.1
  have hb := F.2.1
  have hown := F.2.2.2.1
  intro k
  induction k with
  | zero =>
    intro f H locs ls hm hI hP hD hS hl
    refine lv_iload_n hx hb dX0_admit_25 rfl (lv_at hl 0 rfl) ?_
    refine lv_iconst (v := 1) hx hb dX0_admit_26 (by decide) ?_
    refine lv_icmp_lt (tgt := 70) hx hb dX0_admit_27 (by decide) (fun _ => ?_) (fun h_ => absurd (by decide +kernel) h_)
    exact kx f H locs ls hI hP hD hS (lv_sub hl [1, 2] rfl)
  | succ k ih =>
    intro f H locs ls hm hI hP hD hS hl
    refine lv_iload_n hx hb dX0_admit_25 rfl (lv_at hl 0 rfl) ?_
    refine lv_iconst (v := 1) hx hb dX0_admit_26 (by decide) ?_
    refine lv_icmp_lt (tgt := 70) hx hb dX0_admit_27 (by decide) (fun h_ => absurd h_ (nI_nlt (a := k + 1) (b := 1) (by omega) (by omega))) (fun _ => ?_)
    refine lv_aload_n hx hb dX0_admit_30 rfl (lv_at hl 1 rfl) ?_
    refine g_get F hK hP 0 rfl clX0 0 (by decide) flX0_9 rfl dX0_admit_31 ?_
    refine lv_iload_n hx hb dX0_admit_34 rfl (lv_at hl 0 rfl) ?_
    refine lv_aload_n hx hb dX0_admit_35 rfl (lv_at hl 1 rfl) ?_
    refine g_get F hK hP 0 rfl clX0 0 (by decide) flX0_9 rfl dX0_admit_36 ?_
    refine lv_iload_n hx hb dX0_admit_39 rfl (lv_at hl 0 rfl) ?_
    refine g_lald (v := (f (k + 1))) F hK hP 1 rfl (vp_in_nI (n := k + 1) (N := 41) (by omega) (by decide)) dX0_admit_40 (by rw [nI_clamp (by omega)]) ?_
    refine lv_bipush (v := 100) hx hb dX0_admit_41 (by decide) ?_
    refine lv_iload_n hx hb dX0_admit_43 rfl (lv_at hl 2 rfl) ?_
    refine lv_isub hx hb dX0_admit_44 ?_
    refine lv_topi (fun x1 ex1 => ?_)
    refine lv_i2l (v := (x1).toInt64) hx hb dX0_admit_45 rfl ?_
    refine lv_lmul hx hb dX0_admit_46 ?_
    refine lv_topl (fun x2 ex2 => ?_)
    refine lv_aload_n hx hb dX0_admit_47 rfl (lv_at hl 1 rfl) ?_
    refine g_get F hK hP 0 rfl clX0 0 (by decide) flX0_9 rfl dX0_admit_48 ?_
    refine lv_iload_n hx hb dX0_admit_51 rfl (lv_at hl 0 rfl) ?_
    refine lv_iconst (v := 1) hx hb dX0_admit_52 (by decide) ?_
    refine lv_isub hx hb dX0_admit_53 ?_
    refine cst_i (y := (nI k)) (nI_pred k) ?_
    refine g_lald (v := (f k)) F hK hP 1 rfl (vp_in_nI (n := k) (N := 41) (by omega) (by decide)) dX0_admit_54 (by rw [nI_clamp (by omega)]) ?_
    refine lv_iload_n hx hb dX0_admit_55 rfl (lv_at hl 2 rfl) ?_
    refine lv_i2l (v := (cm).toInt64) hx hb dX0_admit_56 rfl ?_
    refine lv_lmul hx hb dX0_admit_57 ?_
    refine lv_topl (fun x3 ex3 => ?_)
    refine lv_ladd hx hb dX0_admit_58 ?_
    refine lv_topl (fun x4 ex4 => ?_)
    refine lv_ldc2 hx hb hown (F.2.2.2.2 _ clX0_25) dX0_admit_59 ?_
    refine lv_ldiv hx hb dX0_admit_62 (by decide) ?_
    refine lv_topl (fun x5 ex5 => ?_)
    refine g_last F hK hP hD hS 1 rfl (vp_in_nI (n := k + 1) (N := 41) (by omega) (by decide)) dX0_admit_63 (fun f_ => [(ch, .inr (0, [.ref lk, .int (nI (n + 1))])), (lk, .inl (G.2.2.1, 41, .inr (.inl f_)))]) (fun _ => rfl) (fun f6 H locs ef6 (hP : va_P G.1 vwCl [(ch, .inr (0, [.ref lk, .int (nI (n + 1))])), (lk, .inl (G.2.2.1, 41, .inr (.inl f6)))] H) (hD : va_D A [(ch, .inr (0, [.ref lk, .int (nI (n + 1))])), (lk, .inl (G.2.2.1, 41, .inr (.inl f6)))]) hS => ?_)
    refine lv_iinc (v := (nI k)) (lv' := [(2, .int (nI k)), (0, .ref ch), (1, .int cm)]) hx hb dX0_admit_64 hl (k := 0) rfl (pk_m1 k) (by decide) rfl (fun ls hl => ?_)
    refine lv_goto (tgt := 25) hx hb dX0_admit_67 (by decide) ?_
    exact ih f6 H locs ls (by omega) (ad_inv (by omega) hn hI ex1 ex2 ex3 ex4 ex5 ef6) hP hD hS (lv_sub hl [0, 1, 2] rfl)
set_option maxHeartbeats 4000000 in
set_option maxRecDepth 100000 in
theorem k_X0_admit (l : Launch) (G : Gx) (ch : Nat) (cm : Int32) (lk : Nat) (n : Nat) (f : Nat → Int64) (hn : n < 40) (hf : ∀ j, j < 41 → f j = dst cm n j) : CtV (S := Nat → Int64) l yX0_admit cX0_admit 3 none (rmD 4 0 0) G [.ref ch, .int cm] [(ch, .inr (0, [.ref lk, .int (nI n)])), (lk, .inl (G.2.2.1, 41, .inr (.inl f)))] (fun u => ∀ j, j < 41 → u j = dst cm (n + 1) j) (fun u => [(ch, .inr (0, [.ref lk, .int (nI (n + 1))])), (lk, .inl (G.2.2.1, 41, .inr (.inl u)))]) := by
  refine ctV_of (own := RX0) (by decide +kernel) (by decide +kernel) (Nat.le_of_ble_eq_true rfl) ?_
  intro p e s m below meth c A ls F hr hlk hnm hK hP hD hA hS hl
  have hx := F.1
  have hb := F.2.1
  have hown := F.2.2.2.1
  have hl : lv_has ls 3 [(0, .ref ch), (1, .int cm)] := hl
  refine lv_aload_n hx hb dX0_admit_0 rfl (lv_at hl 0 rfl) ?_
  refine g_get F hK hP 0 rfl clX0 1 (by decide) flX0_13 rfl dX0_admit_1 ?_
  refine lv_bipush (v := 40) hx hb dX0_admit_4 (by decide) ?_
  refine lv_icmp_lt (tgt := 10) hx hb dX0_admit_6 (by decide) (fun _ => ?_) (fun h_ => absurd (nI_lt (a := n) (b := 40) hn (by decide)) h_)
  refine lv_aload_n hx hb dX0_admit_10 rfl (lv_at hl 0 rfl) ?_
  refine lv_dup hx hb dX0_admit_11 rfl ?_
  refine g_get F hK hP 0 rfl clX0 1 (by decide) flX0_13 rfl dX0_admit_12 ?_
  refine lv_iconst (v := 1) hx hb dX0_admit_15 (by decide) ?_
  refine lv_iadd hx hb dX0_admit_16 ?_
  refine cst_i (y := (nI (n + 1))) (nI_1 n) ?_
  refine g_put (w' := [(ch, .inr (0, [.ref lk, .int (nI (n + 1))])), (lk, .inl (G.2.2.1, 41, .inr (.inl f)))]) F hK hP hD hS 0 rfl clX0 1 (by decide) flX0_13 rfl rfl rfl (Nat.le_of_ble_eq_true rfl) dX0_admit_17 rfl (fun H locs hP hD hS => ?_)
  refine lv_aload_n hx hb dX0_admit_20 rfl (lv_at hl 0 rfl) ?_
  refine g_get F hK hP 0 rfl clX0 1 (by decide) flX0_13 rfl dX0_admit_21 ?_
  refine lv_istore_n (lv' := [(2, .int (nI (n + 1))), (0, .ref ch), (1, .int cm)]) hx hb dX0_admit_24 rfl hl (by decide) rfl (fun ls hl => ?_)
  refine lp_admit G n f ch cm lk hn (by exact Nat.le_of_ble_eq_true rfl) (by exact Nat.le_of_ble_eq_true rfl) (by exact Nat.le_of_ble_eq_true rfl) (by exact Nat.le_of_ble_eq_true rfl) F hK hA (fun v1 H locs ls hI2 hP hD hS hl => ?_) (n + 1) f _ _ _ (Nat.le_refl _) ⟨fun _ _ => rfl, fun j h1 h2 => absurd h1 (by omega), fun _ _ _ => rfl⟩ hP hD hS (lv_sub hl [0, 1, 2] rfl)
  refine lv_aload_n hx hb dX0_admit_70 rfl (lv_at hl 0 rfl) ?_
  refine g_get F hK hP 0 rfl clX0 0 (by decide) flX0_9 rfl dX0_admit_71 ?_
  refine lv_iconst (v := 0) hx hb dX0_admit_74 (by decide) ?_
  refine lv_aload_n hx hb dX0_admit_75 rfl (lv_at hl 0 rfl) ?_
  refine g_get F hK hP 0 rfl clX0 0 (by decide) flX0_9 rfl dX0_admit_76 ?_
  refine lv_iconst (v := 0) hx hb dX0_admit_79 (by decide) ?_
  refine g_lald (v := (v1 0)) F hK hP 1 rfl (vin (by decide +kernel)) dX0_admit_80 rfl ?_
  refine lv_bipush (v := 100) hx hb dX0_admit_81 (by decide) ?_
  refine lv_iload_n hx hb dX0_admit_83 rfl (lv_at hl 1 rfl) ?_
  refine lv_isub hx hb dX0_admit_84 ?_
  refine lv_topi (fun x3 ex3 => ?_)
  refine lv_i2l (v := (x3).toInt64) hx hb dX0_admit_85 rfl ?_
  refine lv_lmul hx hb dX0_admit_86 ?_
  refine lv_topl (fun x4 ex4 => ?_)
  refine lv_ldc2 hx hb hown (F.2.2.2.2 _ clX0_25) dX0_admit_87 ?_
  refine lv_ldiv hx hb dX0_admit_90 (by decide) ?_
  refine lv_topl (fun x5 ex5 => ?_)
  refine g_last F hK hP hD hS 1 rfl (vin (by decide +kernel)) dX0_admit_91 (fun f_ => [(ch, .inr (0, [.ref lk, .int (nI (n + 1))])), (lk, .inl (G.2.2.1, 41, .inr (.inl f_)))]) (fun _ => rfl) (fun f6 H locs ef6 (hP : va_P G.1 vwCl [(ch, .inr (0, [.ref lk, .int (nI (n + 1))])), (lk, .inl (G.2.2.1, 41, .inr (.inl f6)))] H) (hD : va_D A [(ch, .inr (0, [.ref lk, .int (nI (n + 1))])), (lk, .inl (G.2.2.1, 41, .inr (.inl f6)))]) hS => ?_)
  exact r_v F hr hlk hP hD hS f6 [0, 1] rfl rfl (ad_end hn hf hI2 ex3 ex4 ex5 ef6) dX0_admit_92 (Nat.le_of_ble_eq_true rfl) (Nat.le_of_ble_eq_true rfl)
set_option maxHeartbeats 4000000 in
set_option maxRecDepth 100000 in
theorem lp_aboveX {p : Program} {l : Launch} {e : Env} {R : Room} {s : State} {m : MethodId} {args : Array Value} {below : List Frame} {meth : Method} {c : Code} {A : Nat → Prop} {cells slots : Nat} {Q : State → Prop} (G : Gx) (t : Nat) (n : Nat) (ch : Nat) (lk : Nat) (f : Nat → Int64) (ht : t ≤ 40) (hn : n ≤ 40) (hRf : 3 ≤ R.frames) (hRl : 180 ≤ R.locals) (hRc : cells ≤ R.cells) (hRs : slots ≤ R.slots) (F : CallFix p m c cX0_above 5 s args tb RX0) (hK : KX G s) (hA : HA G s A)
    (kx : ∀ (z : Int64) (H : Heap) (locs : List Loc) (ls : Array Slot), (z = sm f (t + 1) (n - t)) → va_P G.1 vwCl [(ch, .inr (0, [.ref lk, .int (nI n)])), (lk, .inl (G.2.2.1, 41, .inr (.inl f)))] H → va_D A [(ch, .inr (0, [.ref lk, .int (nI n)])), (lk, .inl (G.2.2.1, 41, .inr (.inl f)))] → va_S A s.heap H locs → lv_has ls 5 [(2, .long z), (0, .ref ch)] → W p l e R s m args below meth c H locs cells slots Q (F0 m 36 ls [])) :
    ∀ (k : Nat) (z : Int64) (i : Nat) (H : Heap) (locs : List Loc) (ls : Array Slot), i + k = (max (t + 1) (n + 1)) → (z = sm f (t + 1) (i - (t + 1)) ∧ t + 1 ≤ i) → va_P G.1 vwCl [(ch, .inr (0, [.ref lk, .int (nI n)])), (lk, .inl (G.2.2.1, 41, .inr (.inl f)))] H → va_D A [(ch, .inr (0, [.ref lk, .int (nI n)])), (lk, .inl (G.2.2.1, 41, .inr (.inl f)))] → va_S A s.heap H locs → lv_has ls 5 [(4, .int (nI i)), (2, .long z), (0, .ref ch), (1, .int (nI t))] → W p l e R s m args below meth c H locs cells slots Q (F0 m 11 ls []) := by
  have hx := F.1
  have hb := F.2.1
  have hown := F.2.2.2.1
  intro k
  induction k with
  | zero =>
    intro z i H locs ls hm hI hP hD hS hl
    have hI2 := hI.2
    refine lv_iload hx hb dX0_above_11 (lv_at hl 0 rfl) ?_
    refine lv_aload_n hx hb dX0_above_13 rfl (lv_at hl 2 rfl) ?_
    refine g_get F hK hP 0 rfl clX0 1 (by decide) flX0_13 rfl dX0_above_14 ?_
    refine lv_icmp_gt (tgt := 36) hx hb dX0_above_17 (by decide) (fun _ => ?_) (fun h_ => absurd (nI_lt (a := n) (b := i) (by omega) (by omega)) h_)
    exact kx z H locs ls (by rw [hI.1]; congr 1; omega) hP hD hS (lv_sub hl [1, 2] rfl)
  | succ k ih =>
    intro z i H locs ls hm hI hP hD hS hl
    have hI2 := hI.2
    refine lv_iload hx hb dX0_above_11 (lv_at hl 0 rfl) ?_
    refine lv_aload_n hx hb dX0_above_13 rfl (lv_at hl 2 rfl) ?_
    refine g_get F hK hP 0 rfl clX0 1 (by decide) flX0_13 rfl dX0_above_14 ?_
    refine lv_icmp_gt (tgt := 36) hx hb dX0_above_17 (by decide) (fun h_ => absurd h_ (nI_nlt (a := n) (b := i) (by omega) (by omega))) (fun _ => ?_)
    refine lv_lload_n hx hb dX0_above_20 rfl (lv_at hl 1 rfl) ?_
    refine lv_aload_n hx hb dX0_above_21 rfl (lv_at hl 2 rfl) ?_
    refine g_get F hK hP 0 rfl clX0 0 (by decide) flX0_9 rfl dX0_above_22 ?_
    refine lv_iload hx hb dX0_above_25 (lv_at hl 0 rfl) ?_
    refine g_lald (v := (f i)) F hK hP 1 rfl (vp_in_nI (n := i) (N := 41) (by omega) (by decide)) dX0_above_27 (by rw [nI_clamp (by omega)]) ?_
    refine lv_ladd hx hb dX0_above_28 ?_
    refine lv_topl (fun x1 ex1 => ?_)
    refine lv_lstore_n (lv' := [(2, .long x1), (4, .int (nI i)), (0, .ref ch), (1, .int (nI t))]) hx hb dX0_above_29 rfl hl (by decide) rfl (fun ls hl => ?_)
    refine lv_iinc (v := (nI (i + 1))) (lv' := [(4, .int (nI (i + 1))), (2, .long x1), (0, .ref ch), (1, .int (nI t))]) hx hb dX0_above_30 hl (k := 1) rfl (nI_1 i) (by decide) rfl (fun ls hl => ?_)
    refine lv_goto (tgt := 11) hx hb dX0_above_33 (by decide) ?_
    exact ih x1 (i + 1) H locs ls (by omega) (sm_next hI ex1) hP hD hS (lv_sub hl [0, 1, 2, 3] rfl)
set_option maxHeartbeats 4000000 in
set_option maxRecDepth 100000 in
theorem k_X0_above (l : Launch) (G : Gx) (ch : Nat) (t : Nat) (lk : Nat) (n : Nat) (f : Nat → Int64) (ht : t ≤ 40) (hn : n ≤ 40) : CtL (S := Unit) l yX0_above cX0_above 5 (some .long) (rmD 4 0 0) G [.ref ch, .int (nI t)] [(ch, .inr (0, [.ref lk, .int (nI n)])), (lk, .inl (G.2.2.1, 41, .inr (.inl f)))] (fun r _ => r = sm f (t + 1) (n - t)) (fun _ => [(ch, .inr (0, [.ref lk, .int (nI n)])), (lk, .inl (G.2.2.1, 41, .inr (.inl f)))]) := by
  refine ctL_of (own := RX0) (by decide +kernel) rfl (Nat.le_of_ble_eq_true rfl) ?_
  intro p e s m below meth c A ls F hr hlk hnm hK hP hD hA hS hl
  have hx := F.1
  have hb := F.2.1
  have hown := F.2.2.2.1
  have hl : lv_has ls 5 [(0, .ref ch), (1, .int (nI t))] := hl
  refine lv_lconst (v := 0) hx hb dX0_above_0 (by decide) ?_
  refine lv_lstore_n (lv' := [(2, .long 0), (0, .ref ch), (1, .int (nI t))]) hx hb dX0_above_1 rfl hl (by decide) rfl (fun ls hl => ?_)
  refine lv_iconst (v := 0) hx hb dX0_above_2 (by decide) ?_
  refine lv_iload_n hx hb dX0_above_3 rfl (lv_at hl 2 rfl) ?_
  refine lv_iconst (v := 1) hx hb dX0_above_4 (by decide) ?_
  refine lv_iadd hx hb dX0_above_5 ?_
  refine cst_i (y := (nI (t + 1))) (nI_1 t) ?_
  refine va_mmax hx hb (F.2.2.1.trans hl.1.symm) hown (F.2.2.2.2 _ mmX0_max) (F.2.2.2.2 _ mms_max) (F.2.2.2.2 _ ini_J9) (F.2.2.2.2 _ mmc_max) (Nat.le_of_ble_eq_true rfl) (Nat.le_of_ble_eq_true rfl) (Nat.le_of_ble_eq_true rfl) (Nat.le_of_ble_eq_true rfl) dX0_above_6 ?_
  refine cst_i (y := (nI (t + 1))) (mx0 (by omega)) ?_
  refine lv_istore (lv' := [(4, .int (nI (t + 1))), (2, .long 0), (0, .ref ch), (1, .int (nI t))]) hx hb dX0_above_9 hl (by decide) rfl (fun ls hl => ?_)
  refine lp_aboveX G t n ch lk f ht hn (by exact Nat.le_of_ble_eq_true rfl) (by exact Nat.le_of_ble_eq_true rfl) (by exact Nat.le_of_ble_eq_true rfl) (by exact Nat.le_of_ble_eq_true rfl) F hK hA (fun v1 H locs ls hI2 hP hD hS hl => ?_) (max (t + 1) (n + 1) - (t + 1)) 0 (t + 1) _ _ _ (by omega) ⟨by rw [Nat.sub_self]; rfl, Nat.le_refl _⟩ hP hD hS (lv_sub hl [0, 1, 2, 3] rfl)
  refine lv_lload_n hx hb dX0_above_36 rfl (lv_at hl 0 rfl) ?_
  exact r_l F hr hlk hP hD hS () [0, 1] rfl rfl hI2 dX0_above_37 (Nat.le_of_ble_eq_true rfl) (Nat.le_of_ble_eq_true rfl)
set_option maxHeartbeats 4000000 in
set_option maxRecDepth 100000 in
theorem k_X0_meanAbove (l : Launch) (G : Gx) (ch : Nat) (lk : Nat) (f : Nat → Int64)  : CtL (S := Unit) l yX0_meanAbove cX0_meanAbove 5 (some .long) (rmD 1 0 0) G [.ref ch, .int 0] [(ch, .inr (0, [.ref lk, .int 0])), (lk, .inl (G.2.2.1, 41, .inr (.inl f)))] (fun r _ => r = 0) (fun _ => []) := by
  refine ctL_of (own := RX0) (by decide +kernel) rfl (Nat.le_of_ble_eq_true rfl) ?_
  intro p e s m below meth c A ls F hr hlk hnm hK hP hD hA hS hl
  have hx := F.1
  have hb := F.2.1
  have hown := F.2.2.2.1
  have hl : lv_has ls 5 [(0, .ref ch), (1, .int 0)] := hl
  refine lv_lconst (v := 0) hx hb dX0_meanAbove_0 (by decide) ?_
  refine lv_lstore_n (lv' := [(2, .long 0), (0, .ref ch), (1, .int 0)]) hx hb dX0_meanAbove_1 rfl hl (by decide) rfl (fun ls hl => ?_)
  refine lv_iconst (v := 0) hx hb dX0_meanAbove_2 (by decide) ?_
  refine lv_iload_n hx hb dX0_meanAbove_3 rfl (lv_at hl 2 rfl) ?_
  refine lv_iconst (v := 1) hx hb dX0_meanAbove_4 (by decide) ?_
  refine lv_iadd hx hb dX0_meanAbove_5 ?_
  refine cst_i (y := 1) (by decide +kernel) ?_
  refine va_mmax hx hb (F.2.2.1.trans hl.1.symm) hown (F.2.2.2.2 _ mmX0_max) (F.2.2.2.2 _ mms_max) (F.2.2.2.2 _ ini_J9) (F.2.2.2.2 _ mmc_max) (Nat.le_of_ble_eq_true rfl) (Nat.le_of_ble_eq_true rfl) (Nat.le_of_ble_eq_true rfl) (Nat.le_of_ble_eq_true rfl) dX0_meanAbove_6 ?_
  refine cst_i (y := 1) (by decide +kernel) ?_
  refine lv_istore (lv' := [(4, .int 1), (2, .long 0), (0, .ref ch), (1, .int 0)]) hx hb dX0_meanAbove_9 hl (by decide) rfl (fun ls hl => ?_)
  refine lv_iload hx hb dX0_meanAbove_11 (lv_at hl 0 rfl) ?_
  refine lv_aload_n hx hb dX0_meanAbove_13 rfl (lv_at hl 2 rfl) ?_
  refine g_get F hK hP 0 rfl clX0 1 (by decide) flX0_13 rfl dX0_meanAbove_14 ?_
  refine lv_icmp_gt (tgt := 42) hx hb dX0_meanAbove_17 (by decide) (fun _ => ?_) (fun h_ => absurd (by decide +kernel) h_)
  refine lv_lload_n hx hb dX0_meanAbove_42 rfl (lv_at hl 1 rfl) ?_
  refine lv_ldc2 hx hb hown (F.2.2.2.2 _ clX0_71) dX0_meanAbove_43 ?_
  refine lv_ldiv hx hb dX0_meanAbove_46 (by decide) ?_
  refine cst_l (y := 0) (by decide +kernel) ?_
  exact r_l F hr hlk hP hD hS () [] rfl rfl rfl dX0_meanAbove_47 (Nat.le_of_ble_eq_true rfl) (Nat.le_of_ble_eq_true rfl)
set_option maxHeartbeats 4000000 in
set_option maxRecDepth 100000 in
theorem k_X0_gather (l : Launch) (G : Gx) (ch : Nat) (pl : Nat) (a : Int32) (lk : Nat) (f : Nat → Int64) (ho : Nat) (pl_1 : Nat) (pl_5 : Nat) (fl : Nat) (pe : Nat) (ru : Nat) (ho_4 : Nat) (ho_5 : Nat) (ho_6 : Nat) (ho_8 : Nat) (ho_9 : Nat) (ho_10 : Nat) (ho_11 : Nat) (ho_12 : Nat) (pe_1 : Nat) (pe_2 : Nat) (pe_3 : Nat) (pe_4 : Nat) (pe_5 : Nat) (pe_6 : Nat) (pe_7 : Nat) (pe_8 : Nat) (pe_9 : Nat) (pe_10 : Nat) (hd : vp_in a 5) : CtV (S := Nat → Int64) l yX0_gather cX0_gather 5 none (rmD 6 0 0) G [.ref ch, .ref pl, .int a] [(ch, .inr (0, [.ref lk, .int 0])), (lk, .inl (G.2.2.1, 41, .inr (.inl f))), (pl, .inr (4, [.ref ho, .ref pl_1, .int 0, .int (-1), .int (-1), .ref pl_5])), (ho, .inr (2, [.ref fl, .ref pe, .ref ru, .int 0, .ref ho_4, .ref ho_5, .ref ho_6, .int 0, .ref ho_8, .ref ho_9, .ref ho_10, .ref ho_11, .ref ho_12, .int 50])), (pe, .inr (3, [.int 0, .ref pe_1, .ref pe_2, .ref pe_3, .ref pe_4, .ref pe_5, .ref pe_6, .ref pe_7, .ref pe_8, .ref pe_9, .ref pe_10])), (ho_11, .inl (G.2.1, 5, .inl (fun _ => 0)))] (fun u => ∀ j, j < 41 → u j = d0 j) (fun u => [(ch, .inr (0, [.ref lk, .int 0])), (lk, .inl (G.2.2.1, 41, .inr (.inl u))), (pl, .inr (4, [.ref ho, .ref pl_1, .int 0, .int (-1), .int (-1), .ref pl_5])), (ho, .inr (2, [.ref fl, .ref pe, .ref ru, .int 0, .ref ho_4, .ref ho_5, .ref ho_6, .int 0, .ref ho_8, .ref ho_9, .ref ho_10, .ref ho_11, .ref ho_12, .int 50])), (pe, .inr (3, [.int 0, .ref pe_1, .ref pe_2, .ref pe_3, .ref pe_4, .ref pe_5, .ref pe_6, .ref pe_7, .ref pe_8, .ref pe_9, .ref pe_10])), (ho_11, .inl (G.2.1, 5, .inl (fun _ => 0)))]) := by
  refine ctV_of (own := RX0) (by decide +kernel) rfl (Nat.le_of_ble_eq_true rfl) ?_
  intro p e s m below meth c A ls F hr hlk hnm hK hP hD hA hS hl
  have hx := F.1
  have hb := F.2.1
  have hown := F.2.2.2.1
  have hl : lv_has ls 5 [(0, .ref ch), (1, .ref pl), (2, .int a)] := hl
  refine lv_aload_n hx hb dX0_gather_0 rfl (lv_at hl 1 rfl) ?_
  refine g_get F hK hP 2 rfl clX4 0 (by decide) flX0_27 rfl dX0_gather_1 ?_
  refine lv_astore_n (lv' := [(3, .ref ho), (0, .ref ch), (1, .ref pl), (2, .int a)]) hx hb dX0_gather_4 rfl hl (by decide) rfl (fun ls hl => ?_)
  refine lv_aload_n hx hb dX0_gather_5 rfl (lv_at hl 1 rfl) ?_
  refine cvv (wr := [(pl, .inr (4, [.ref ho, .ref pl_1, .int 0, .int (-1), .int (-1), .ref pl_5])), (ho, .inr (2, [.ref fl, .ref pe, .ref ru, .int 0, .ref ho_4, .ref ho_5, .ref ho_6, .int 0, .ref ho_8, .ref ho_9, .ref ho_10, .ref ho_11, .ref ho_12, .int 50])), (pe, .inr (3, [.int 0, .ref pe_1, .ref pe_2, .ref pe_3, .ref pe_4, .ref pe_5, .ref pe_6, .ref pe_7, .ref pe_8, .ref pe_9, .ref pe_10])), (ho_11, .inl (G.2.1, 5, .inl (fun _ => 0)))]) (As := []) (rest := []) (b := ch) (k1 := 0) (s1 := 0) F hK hP hD hS hA (k_X0_begin l G ch lk 0 f) kmV_X0_begin mlX0_33 clX0 rfl 0 rfl ⟨(Nat.le_of_ble_eq_true rfl), (Nat.le_of_ble_eq_true rfl)⟩ [0, 1] [2, 3, 4, 5] rfl rfl rfl rfl (by decide) hl.1 rfl (Nat.le_of_ble_eq_true rfl) dX0_gather_6 ⟨(Nat.le_of_ble_eq_true rfl), (Nat.le_of_ble_eq_true rfl)⟩ rfl rfl (fun u1 H locs hwr2 (hP : va_P G.1 vwCl [(pl, .inr (4, [.ref ho, .ref pl_1, .int 0, .int (-1), .int (-1), .ref pl_5])), (ho, .inr (2, [.ref fl, .ref pe, .ref ru, .int 0, .ref ho_4, .ref ho_5, .ref ho_6, .int 0, .ref ho_8, .ref ho_9, .ref ho_10, .ref ho_11, .ref ho_12, .int 50])), (pe, .inr (3, [.int 0, .ref pe_1, .ref pe_2, .ref pe_3, .ref pe_4, .ref pe_5, .ref pe_6, .ref pe_7, .ref pe_8, .ref pe_9, .ref pe_10])), (ho_11, .inl (G.2.1, 5, .inl (fun _ => 0))), (ch, .inr (0, [.ref lk, .int 0])), (lk, .inl (G.2.2.1, 41, .inr (.inl u1)))] H) (hD : va_D A [(pl, .inr (4, [.ref ho, .ref pl_1, .int 0, .int (-1), .int (-1), .ref pl_5])), (ho, .inr (2, [.ref fl, .ref pe, .ref ru, .int 0, .ref ho_4, .ref ho_5, .ref ho_6, .int 0, .ref ho_8, .ref ho_9, .ref ho_10, .ref ho_11, .ref ho_12, .int 50])), (pe, .inr (3, [.int 0, .ref pe_1, .ref pe_2, .ref pe_3, .ref pe_4, .ref pe_5, .ref pe_6, .ref pe_7, .ref pe_8, .ref pe_9, .ref pe_10])), (ho_11, .inl (G.2.1, 5, .inl (fun _ => 0))), (ch, .inr (0, [.ref lk, .int 0])), (lk, .inl (G.2.2.1, 41, .inr (.inl u1)))]) hS => ?_)
  refine lv_iconst (v := 0) hx hb dX0_gather_9 (by decide) ?_
  refine lv_istore (lv' := [(4, .int 0), (3, .ref ho), (0, .ref ch), (1, .ref pl), (2, .int a)]) hx hb dX0_gather_10 hl (by decide) rfl (fun ls hl => ?_)
  refine lv_iload hx hb dX0_gather_12 (lv_at hl 0 rfl) ?_
  refine lv_aload_n hx hb dX0_gather_14 rfl (lv_at hl 1 rfl) ?_
  refine g_get F hK hP 1 rfl clX2 1 (by decide) flX0_36 rfl dX0_gather_15 ?_
  refine g_get F hK hP 2 rfl clX3 0 (by decide) flX0_42 rfl dX0_gather_18 ?_
  refine lv_icmp_ge (tgt := 54) hx hb dX0_gather_21 (by decide) (fun _ => ?_) (fun h_ => absurd (by decide +kernel) h_)
  refine lv_iconst (v := 0) hx hb dX0_gather_54 (by decide) ?_
  refine lv_istore (lv' := [(4, .int 0), (3, .ref ho), (0, .ref ch), (1, .ref pl), (2, .int a)]) hx hb dX0_gather_55 hl (by decide) rfl (fun ls hl => ?_)
  refine lv_iload hx hb dX0_gather_57 (lv_at hl 0 rfl) ?_
  refine lv_aload_n hx hb dX0_gather_59 rfl (lv_at hl 1 rfl) ?_
  refine g_get F hK hP 1 rfl clX2 11 (by decide) flX0_59 rfl dX0_gather_60 ?_
  refine lv_iload_n hx hb dX0_gather_63 rfl (lv_at hl 4 rfl) ?_
  refine g_iald (v := 0) F hK hP 3 rfl hd dX0_gather_64 rfl ?_
  refine lv_icmp_ge (tgt := 84) hx hb dX0_gather_65 (by decide) (fun _ => ?_) (fun h_ => absurd (by decide +kernel) h_)
  exact r_v F hr hlk hP hD hS u1 [4, 5, 0, 1, 2, 3] rfl rfl hwr2 dX0_gather_84 (Nat.le_of_ble_eq_true rfl) (Nat.le_of_ble_eq_true rfl)
set_option maxHeartbeats 4000000 in
set_option maxRecDepth 100000 in
theorem lp_most {p : Program} {l : Launch} {e : Env} {R : Room} {s : State} {m : MethodId} {args : Array Value} {below : List Frame} {meth : Method} {c : Code} {A : Nat → Prop} {cells slots : Nat} {Q : State → Prop} (G : Gx) (t : Nat) (ch : Nat) (cm : Int32) (pt : Int32) (lk : Nat) (ht : t ≤ 40) (hRf : 6 ≤ R.frames) (hRl : 360 ≤ R.locals) (hRc : cells ≤ R.cells) (hRs : slots ≤ R.slots) (F : CallFix p m c cX0_mostBookings 6 s args tb RX0) (hK : KX G s) (hA : HA G s A)
    (kx : ∀ (mo : Int32) (f : Nat → Int64) (H : Heap) (locs : List Loc) (ls : Array Slot), (mo = ov cm t pt 40) → va_P G.1 vwCl [] H → va_D A [] → va_S A s.heap H locs → lv_has ls 6 [(4, .int mo)] → W p l e R s m args below meth c H locs cells slots Q (F0 m 47 ls [])) :
    ∀ (k : Nat) (mo : Int32) (f : Nat → Int64) (i : Nat) (H : Heap) (locs : List Loc) (ls : Array Slot), i + k = 40 → (mo = ov cm t pt i ∧ ∀ j, j < 41 → f j = dst cm i j) → va_P G.1 vwCl [(ch, .inr (0, [.ref lk, .int (nI i)])), (lk, .inl (G.2.2.1, 41, .inr (.inl f)))] H → va_D A [(ch, .inr (0, [.ref lk, .int (nI i)])), (lk, .inl (G.2.2.1, 41, .inr (.inl f)))] → va_S A s.heap H locs → lv_has ls 6 [(5, .int (nI (i + 1))), (4, .int mo), (0, .ref ch), (1, .int cm), (2, .int (nI t)), (3, .int pt)] → W p l e R s m args below meth c H locs cells slots Q (F0 m 10 ls []) := by
  have hx := F.1
  have hb := F.2.1
  have hown := F.2.2.2.1
  intro k
  induction k with
  | zero =>
    intro mo f i H locs ls hm hI hP hD hS hl
    refine lv_iload hx hb dX0_mostBookings_10 (lv_at hl 0 rfl) ?_
    refine lv_bipush (v := 40) hx hb dX0_mostBookings_12 (by decide) ?_
    refine lv_icmp_gt (tgt := 47) hx hb dX0_mostBookings_14 (by decide) (fun _ => ?_) (fun h_ => absurd (nI_lt (a := 40) (b := i + 1) (by omega) (by omega)) h_)
    exact kx mo f H locs ls (by have h := hI.1; rwa [show i = 40 by omega] at h) (hP.sub (ws' := []) [] rfl) (hD.sub (ws' := []) [] rfl rfl) hS (lv_sub hl [1] rfl)
  | succ k ih =>
    intro mo f i H locs ls hm hI hP hD hS hl
    refine lv_iload hx hb dX0_mostBookings_10 (lv_at hl 0 rfl) ?_
    refine lv_bipush (v := 40) hx hb dX0_mostBookings_12 (by decide) ?_
    refine lv_icmp_gt (tgt := 47) hx hb dX0_mostBookings_14 (by decide) (fun h_ => absurd h_ (nI_nlt (a := 40) (b := i + 1) (by omega) (by decide))) (fun _ => ?_)
    refine lv_aload_n hx hb dX0_mostBookings_17 rfl (lv_at hl 2 rfl) ?_
    refine lv_iload_n hx hb dX0_mostBookings_18 rfl (lv_at hl 3 rfl) ?_
    refine cvv (wr := []) (As := [.int cm]) (rest := []) (b := ch) (k1 := cells) (s1 := slots) F hK hP hD hS hA (k_X0_admit l G ch cm lk i f (by omega) hI.2) kmV_X0_admit mlX0_55 clX0 (by decide +kernel) 0 rfl ⟨(Nat.le_trans (Nat.le_of_ble_eq_true rfl) hRf), (Nat.le_trans (Nat.le_of_ble_eq_true rfl) hRl)⟩ [0, 1] [] rfl rfl rfl rfl (by decide) hl.1 rfl (Nat.le_of_ble_eq_true rfl) dX0_mostBookings_19 ⟨hRc, hRs⟩ rfl rfl (fun u1 H locs hwr2 (hP : va_P G.1 vwCl [(ch, .inr (0, [.ref lk, .int (nI (i + 1))])), (lk, .inl (G.2.2.1, 41, .inr (.inl u1)))] H) (hD : va_D A [(ch, .inr (0, [.ref lk, .int (nI (i + 1))])), (lk, .inl (G.2.2.1, 41, .inr (.inl u1)))]) hS => ?_)
    refine lv_aload_n hx hb dX0_mostBookings_22 rfl (lv_at hl 2 rfl) ?_
    refine lv_iload_n hx hb dX0_mostBookings_23 rfl (lv_at hl 4 rfl) ?_
    refine cvl (wr := []) (As := [.int (nI t)]) (rest := []) (b := ch) (k1 := cells) (s1 := slots) F hK hP hD hS hA (k_X0_above l G ch t lk (i + 1) u1 ht (by omega)) kmV_X0_above mlX0_73 clX0 rfl 0 rfl ⟨(Nat.le_trans (Nat.le_of_ble_eq_true rfl) hRf), (Nat.le_trans (Nat.le_of_ble_eq_true rfl) hRl)⟩ [0, 1] [] rfl rfl rfl rfl (by decide) hl.1 rfl (Nat.le_of_ble_eq_true rfl) dX0_mostBookings_24 ⟨hRc, hRs⟩ rfl rfl (fun r4 u3 H locs hwr4 (hP : va_P G.1 vwCl [(ch, .inr (0, [.ref lk, .int (nI (i + 1))])), (lk, .inl (G.2.2.1, 41, .inr (.inl u1)))] H) (hD : va_D A [(ch, .inr (0, [.ref lk, .int (nI (i + 1))])), (lk, .inl (G.2.2.1, 41, .inr (.inl u1)))]) hS => ?_)
    subst hwr4
    refine lv_iload_n hx hb dX0_mostBookings_27 rfl (lv_at hl 5 rfl) ?_
    refine lv_i2l (v := (pt).toInt64) hx hb dX0_mostBookings_28 rfl ?_
    refine lv_ldc2 hx hb hown (F.2.2.2.2 _ clX0_77) dX0_mostBookings_29 ?_
    refine lv_lmul hx hb dX0_mostBookings_32 ?_
    refine lv_topl (fun x5 ex5 => ?_)
    refine W.lcmp hx hb dX0_mostBookings_33 ?_
    refine lv_topi (fun x6 ex6 => ?_)
    refine lv_if_gt (tgt := 41) hx hb dX0_mostBookings_34 (by decide) (fun c7 => ?_) (fun c7 => ?_)
    · refine lv_iinc (v := (nI ((i + 1) + 1))) (lv' := [(5, .int (nI ((i + 1) + 1))), (4, .int mo), (0, .ref ch), (1, .int cm), (2, .int (nI t)), (3, .int pt)]) hx hb dX0_mostBookings_41 hl (k := 0) rfl (nI_1 (i + 1)) (by decide) rfl (fun ls hl => ?_)
      refine lv_goto (tgt := 10) hx hb dX0_mostBookings_44 (by decide) ?_
      exact ih mo u1 (i + 1) H locs ls (by omega) ⟨ov_y (sm_own hwr2 (by omega)) ex5 ex6 c7 hI.1, hwr2⟩ hP hD hS (lv_sub hl [0, 1, 2, 3, 4, 5] rfl)
    · refine lv_iload hx hb dX0_mostBookings_37 (lv_at hl 0 rfl) ?_
      refine lv_istore (lv' := [(4, .int (nI (i + 1))), (5, .int (nI (i + 1))), (0, .ref ch), (1, .int cm), (2, .int (nI t)), (3, .int pt)]) hx hb dX0_mostBookings_39 hl (by decide) rfl (fun ls hl => ?_)
      refine lv_iinc (v := (nI ((i + 1) + 1))) (lv' := [(5, .int (nI ((i + 1) + 1))), (4, .int (nI (i + 1))), (0, .ref ch), (1, .int cm), (2, .int (nI t)), (3, .int pt)]) hx hb dX0_mostBookings_41 hl (k := 1) rfl (nI_1 (i + 1)) (by decide) rfl (fun ls hl => ?_)
      refine lv_goto (tgt := 10) hx hb dX0_mostBookings_44 (by decide) ?_
      exact ih (nI (i + 1)) u1 (i + 1) H locs ls (by omega) ⟨ov_n (sm_own hwr2 (by omega)) ex5 ex6 c7, hwr2⟩ hP hD hS (lv_sub hl [0, 1, 2, 3, 4, 5] rfl)
set_option maxHeartbeats 4000000 in
set_option maxRecDepth 100000 in
theorem k_X0_mostBookings (l : Launch) (G : Gx) (ch : Nat) (cm : Int32) (t : Nat) (pt : Int32) (lk : Nat) (f : Nat → Int64) (ht : t ≤ 40) : CtI (S := Unit) l yX0_mostBookings cX0_mostBookings 6 (some .int) (rmD 7 0 0) G [.ref ch, .int cm, .int (nI t), .int pt] [(ch, .inr (0, [.ref lk, .int 0])), (lk, .inl (G.2.2.1, 41, .inr (.inl f)))] (fun r _ => r = ov cm t pt 40) (fun _ => []) := by
  refine ctI_of (own := RX0) (by decide +kernel) rfl (Nat.le_of_ble_eq_true rfl) ?_
  intro p e s m below meth c A ls F hr hlk hnm hK hP hD hA hS hl
  have hx := F.1
  have hb := F.2.1
  have hown := F.2.2.2.1
  have hl : lv_has ls 6 [(0, .ref ch), (1, .int cm), (2, .int (nI t)), (3, .int pt)] := hl
  refine lv_iconst (v := 0) hx hb dX0_mostBookings_0 (by decide) ?_
  refine lv_istore (lv' := [(4, .int 0), (0, .ref ch), (1, .int cm), (2, .int (nI t)), (3, .int pt)]) hx hb dX0_mostBookings_1 hl (by decide) rfl (fun ls hl => ?_)
  refine lv_aload_n hx hb dX0_mostBookings_3 rfl (lv_at hl 1 rfl) ?_
  refine cvv (wr := []) (As := []) (rest := []) (b := ch) (k1 := 0) (s1 := 0) F hK hP hD hS hA (k_X0_begin l G ch lk 0 f) kmV_X0_begin mlX0_33 clX0 rfl 0 rfl ⟨(Nat.le_of_ble_eq_true rfl), (Nat.le_of_ble_eq_true rfl)⟩ [0, 1] [] rfl rfl rfl rfl (by decide) hl.1 rfl (Nat.le_of_ble_eq_true rfl) dX0_mostBookings_4 ⟨(Nat.le_of_ble_eq_true rfl), (Nat.le_of_ble_eq_true rfl)⟩ rfl rfl (fun u1 H locs hwr2 (hP : va_P G.1 vwCl [(ch, .inr (0, [.ref lk, .int 0])), (lk, .inl (G.2.2.1, 41, .inr (.inl u1)))] H) (hD : va_D A [(ch, .inr (0, [.ref lk, .int 0])), (lk, .inl (G.2.2.1, 41, .inr (.inl u1)))]) hS => ?_)
  refine lv_iconst (v := 1) hx hb dX0_mostBookings_7 (by decide) ?_
  refine lv_istore (lv' := [(5, .int 1), (4, .int 0), (0, .ref ch), (1, .int cm), (2, .int (nI t)), (3, .int pt)]) hx hb dX0_mostBookings_8 hl (by decide) rfl (fun ls hl => ?_)
  refine lp_most G t ch cm pt lk ht (by exact Nat.le_of_ble_eq_true rfl) (by exact Nat.le_of_ble_eq_true rfl) (by exact Nat.le_of_ble_eq_true rfl) (by exact Nat.le_of_ble_eq_true rfl) F hK hA (fun v3 v4 H locs ls hI5 hP hD hS hl => ?_) 40 0 u1 0 _ _ _ (by omega) ⟨rfl, hwr2⟩ hP hD hS (lv_sub hl [0, 1, 2, 3, 4, 5] rfl)
  refine lv_iload hx hb dX0_mostBookings_47 (lv_at hl 0 rfl) ?_
  exact r_i F hr hlk hP hD hS () [] rfl rfl hI5 dX0_mostBookings_49 (Nat.le_of_ble_eq_true rfl) (Nat.le_of_ble_eq_true rfl)
