set_option maxHeartbeats 4000000 in
set_option maxRecDepth 100000 in
theorem s_X0_above (l : Launch) (G : Gx) (g q : Nat → Nat) (I0 : Nat → Int32) (J0 : Nat → Int64) (R0 : Nat → Nat → Int32) (L0 : Nat → Nat → Int64) (hvI : InvI Wd_lo Wd_hi I0) (hvR : InvR Wd_rl R0)  (p1 : Int32) (hp1 : ((0 : Int) ≤ p1.toInt ∧ p1.toInt ≤ (40 : Int))) : CtL (S := Unit) l yX0_above cX0_above 5 (some .long) (rmD 1 0 0) G [.ref (g 71), .int p1] (Wd G g q I0 J0 R0 L0) (fun r _ => True) (fun _ => (Wd G g q I0 J0 R0 L0)) := by
  refine ctL_of (own := RX0) (by decide +kernel) rfl (Nat.le_of_ble_eq_true rfl) ?_
  intro p e s m below meth c A ls F hr hlk hnm hK hP hD hA hS hl
  have hx := F.1
  have hb := F.2.1
  have hown := F.2.2.2.1
  have hl : lv_has ls 5 [(0, .ref (g 71)), (1, .int p1)] := hl
  obtain ⟨Q, hQ⟩ : ∃ Q : State → Prop, Q = MQ below (va_Ql (S := Unit) (fun r _ => True) (BX G A (fun _ => (Wd G g q I0 J0 R0 L0))) A) [.ref (g 71), .int p1].toArray s 0 0 A := ⟨_, rfl⟩
  rw [show (MQ below (va_Ql (S := Unit) (fun r _ => True) (BX G A (fun _ => (Wd G g q I0 J0 R0 L0))) A) [.ref (g 71), .int p1].toArray s (rmD 1 0 0).cells (rmD 1 0 0).slots A) = Q from hQ.symm]
  have lab_11 : ∀ (k_11 : Nat) (a2_11 : Int64) (a4_11 : Int32) (H : Heap) (locs : List Loc) (ls : Array Slot), ((41 - a4_11.toInt) < (k_11 : Int)) → ((1 : Int) ≤ a4_11.toInt ∧ a4_11.toInt ≤ (41 : Int)) → va_P G.1 vwCl (Wd G g q I0 J0 R0 L0) H → va_D A (Wd G g q I0 J0 R0 L0) → va_S A s.heap H locs → lv_has ls 5 [(0, .ref (g 71)), (2, .long a2_11), (4, .int a4_11)] → W p l e (rmD 1 0 0) s m [.ref (g 71), .int p1].toArray below meth c H locs 0 0 Q (F0 m 11 ls []) := by
    intro k_11
    induction k_11 with
    | zero =>
      intro a2_11 a4_11 H locs ls hm y0_11 hP hD hS hl
      exact absurd hm (by omega)
    | succ k_11 ih_11 =>
      intro a2_11 a4_11 H locs ls hm y0_11 hP hD hS hl
      refine lv_iload hx hb dX0_above_11 (lv_at hl 2 rfl) ?_
      refine lv_aload_n hx hb dX0_above_13 rfl (lv_at hl 0 rfl) ?_
      refine g_get F hK hP 73 (Wd_at73 G g q I0 J0 R0 L0) clX0 1 (by decide) flX0_13 rfl dX0_above_14 ?_
      have w_I0_35 := rg (hvI 35 (by decide)) (0) (40) rfl rfl
      refine lv_icmp_gt (tgt := 36) hx hb dX0_above_17 (by decide) (fun c1 => ?_) (fun c1 => ?_)
      · have gc1 : (I0 35).toInt < a4_11.toInt := (tlt _ _).mp c1
        refine lv_lload_n hx hb dX0_above_36 rfl (lv_at hl 1 rfl) ?_
        rw [hQ]
        exact q_l F hr hlk () hP hD hS trivial dX0_above_37 (Nat.le_of_ble_eq_true rfl) (Nat.le_of_ble_eq_true rfl)
      · have gc1 : ¬ ((I0 35).toInt < a4_11.toInt) := fun q0 => c1 ((tlt _ _).mpr q0)
        refine lv_lload_n hx hb dX0_above_20 rfl (lv_at hl 1 rfl) ?_
        refine lv_aload_n hx hb dX0_above_21 rfl (lv_at hl 0 rfl) ?_
        refine g_get F hK hP 73 (Wd_at73 G g q I0 J0 R0 L0) clX0 0 (by decide) flX0_9 rfl dX0_above_22 ?_
        refine lv_iload hx hb dX0_above_25 (lv_at hl 2 rfl) ?_
        refine g_lald F hK hP 85 (Wd_at85 G g q I0 J0 R0 L0) (in_of (by omega)) dX0_above_27 rfl ?_
        refine lv_topl (fun x2 ex2 => ?_)
        refine lv_ladd hx hb dX0_above_28 ?_
        refine lv_topl (fun x3 ex3 => ?_)
        refine lv_lstore_n (lv' := [(2, .long x3), (0, .ref (g 71)), (4, .int a4_11)]) hx hb dX0_above_29 rfl hl (by decide) rfl (fun ls hl => ?_)
        obtain ⟨x4, ex4⟩ : ∃ y : Int32, y = a4_11 + 1 := ⟨_, rfl⟩
        have fx4 : x4.toInt = a4_11.toInt + (1 : Int) := by rw [ex4]; exact t_add (by show (-2147483648 : Int) ≤ a4_11.toInt + (1 : Int); omega) (by show a4_11.toInt + (1 : Int) ≤ 2147483647; omega)
        refine lv_iinc (v := x4) (lv' := [(4, .int x4), (2, .long x3), (0, .ref (g 71))]) hx hb dX0_above_30 hl (k := 2) rfl (by rw [ex4]; rfl) (by decide) rfl (fun ls hl => ?_)
        refine lv_goto (tgt := 11) hx hb dX0_above_33 (by decide) ?_
        exact ih_11 x3 x4 _ _ _ (show (41 - x4.toInt) < (k_11 : Int) from by omega) (show ((1 : Int) ≤ x4.toInt ∧ x4.toInt ≤ (41 : Int)) from by omega) hP hD hS (lv_sub hl [2, 1, 0] rfl)
  refine lv_lconst (v := 0) hx hb dX0_above_0 (by decide) ?_
  refine lv_lstore_n (lv' := [(2, .long 0), (0, .ref (g 71)), (1, .int p1)]) hx hb dX0_above_1 rfl hl (by decide) rfl (fun ls hl => ?_)
  refine lv_iconst (v := 0) hx hb dX0_above_2 (by decide) ?_
  refine lv_iload_n hx hb dX0_above_3 rfl (lv_at hl 2 rfl) ?_
  refine lv_iconst (v := 1) hx hb dX0_above_4 (by decide) ?_
  refine lv_iadd hx hb dX0_above_5 ?_
  refine lv_topi (fun x5 ex5 => ?_)
  have fx5 : x5.toInt = p1.toInt + 1 := by rw [ex5]; exact t_add (by show (-2147483648 : Int) ≤ p1.toInt + 1; omega) (by show p1.toInt + 1 ≤ 2147483647; omega)
  refine va_mmax hx hb (F.2.2.1.trans hl.1.symm) hown (F.2.2.2.2 _ mmX0_max) (F.2.2.2.2 _ mms_max) (F.2.2.2.2 _ ini_J9) (F.2.2.2.2 _ mmc_max) (Nat.le_of_ble_eq_true rfl) (Nat.le_of_ble_eq_true rfl) (Nat.le_of_ble_eq_true rfl) (Nat.le_of_ble_eq_true rfl) dX0_above_6 ?_
  refine lv_topi (fun x6 ex6 => ?_)
  have fx6 : x6.toInt = max (0) (x5.toInt) := by rw [ex6]; exact t_max _ _
  refine lv_istore (lv' := [(4, .int x6), (2, .long 0), (0, .ref (g 71)), (1, .int p1)]) hx hb dX0_above_9 hl (by decide) rfl (fun ls hl => ?_)
  exact lab_11 41 0 x6 _ _ _ (show (41 - x6.toInt) < ((41 : Nat) : Int) from by omega) (show ((1 : Int) ≤ x6.toInt ∧ x6.toInt ≤ (41 : Int)) from by omega) hP hD hS (lv_sub hl [2, 1, 0] rfl)
set_option maxHeartbeats 4000000 in
set_option maxRecDepth 100000 in
theorem s_X4_isIn (l : Launch) (G : Gx) (g q : Nat → Nat) (I0 : Nat → Int32) (J0 : Nat → Int64) (R0 : Nat → Nat → Int32) (L0 : Nat → Nat → Int64) (hvI : InvI Wd_lo Wd_hi I0) (hvR : InvR Wd_rl R0) (hq3 : q 3 = (g 11)) (p1 : Int32) (p2 : Int32) (hp1 : ((0 : Int) ≤ p1.toInt ∧ p1.toInt ≤ (11 : Int))) (hp2 : ((0 : Int) ≤ p2.toInt ∧ p2.toInt ≤ (4 : Int))) : CtI (S := Unit) l yX4_isIn cX4_isIn 3 (some .boolean) (rmD 1 0 0) G [.ref (g 68), .int p1, .int p2] (Wd G g q I0 J0 R0 L0) (fun r _ => ((0 : Int) ≤ r.toInt ∧ r.toInt ≤ (1 : Int))) (fun _ => (Wd G g q I0 J0 R0 L0)) := by
  refine ctI_of (own := RX4) (by decide +kernel) rfl (Nat.le_of_ble_eq_true rfl) ?_
  intro p e s m below meth c A ls F hr hlk hnm hK hP hD hA hS hl
  have hx := F.1
  have hb := F.2.1
  have hown := F.2.2.2.1
  have hl : lv_has ls 3 [(0, .ref (g 68)), (1, .int p1), (2, .int p2)] := hl
  obtain ⟨Q, hQ⟩ : ∃ Q : State → Prop, Q = MQ below (va_Qi (S := Unit) (fun r _ => ((0 : Int) ≤ r.toInt ∧ r.toInt ≤ (1 : Int))) (BX G A (fun _ => (Wd G g q I0 J0 R0 L0))) A) [.ref (g 68), .int p1, .int p2].toArray s 0 0 A := ⟨_, rfl⟩
  rw [show (MQ below (va_Qi (S := Unit) (fun r _ => ((0 : Int) ≤ r.toInt ∧ r.toInt ≤ (1 : Int))) (BX G A (fun _ => (Wd G g q I0 J0 R0 L0))) A) [.ref (g 68), .int p1, .int p2].toArray s (rmD 1 0 0).cells (rmD 1 0 0).slots A) = Q from hQ.symm]
  refine lv_aload_n hx hb dX4_isIn_0 rfl (lv_at hl 0 rfl) ?_
  refine g_get F hK hP 70 (Wd_at70 G g q I0 J0 R0 L0) clX4 1 (by decide) flX4_9 rfl dX4_isIn_1 ?_
  refine lv_iload_n hx hb dX4_isIn_4 rfl (lv_at hl 1 rfl) ?_
  refine g_iald F hK hP 78 (Wd_at78 G g q I0 J0 R0 L0) (in_of (by omega)) dX4_isIn_5 rfl ?_
  refine lv_topi (fun x1 ex1 => ?_)
  have gx1 : x1.toInt = (R0 62 (Int32.toNatClampNeg p1)).toInt := congrArg Int32.toInt (ex1)
  refine lv_iload_n hx hb dX4_isIn_6 rfl (lv_at hl 2 rfl) ?_
  refine lv_ishr hx hb dX4_isIn_7 ?_
  refine lv_topi (fun x2 ex2 => ?_)
  refine lv_iconst (v := 1) hx hb dX4_isIn_8 (by decide) ?_
  refine lv_iand hx hb dX4_isIn_9 ?_
  refine lv_topi (fun x3 ex3 => ?_)
  have fx3 : (0 : Int) ≤ x3.toInt ∧ x3.toInt ≤ (1 : Int) := by rw [ex3]; exact t_and (b := 1) (by decide)
  refine lv_iconst (v := 1) hx hb dX4_isIn_10 (by decide) ?_
  refine lv_icmp_ne (tgt := 18) hx hb dX4_isIn_11 (by decide) (fun c4 => ?_) (fun c4 => ?_)
  · have gc4 : ¬ (x3.toInt = 1) := fun q0 => c4 (Int32.toInt_inj.mp q0)
    refine lv_iconst (v := 0) hx hb dX4_isIn_18 (by decide) ?_
    rw [hQ]
    exact q_z F hr hlk () hP hD hS (show ((0 : Int) ≤ 0 ∧ 0 ≤ (1 : Int)) from by omega) dX4_isIn_19 (Nat.le_of_ble_eq_true rfl) (Nat.le_of_ble_eq_true rfl) (nar01 (by decide))
  · have gc4 : x3.toInt = 1 := congrArg Int32.toInt c4
    refine lv_iconst (v := 1) hx hb dX4_isIn_14 (by decide) ?_
    refine lv_goto (tgt := 19) hx hb dX4_isIn_15 (by decide) ?_
    rw [hQ]
    exact q_z F hr hlk () hP hD hS (show ((0 : Int) ≤ 1 ∧ 1 ≤ (1 : Int)) from by omega) dX4_isIn_19 (Nat.le_of_ble_eq_true rfl) (Nat.le_of_ble_eq_true rfl) (nar01 (by decide))
set_option maxHeartbeats 4000000 in
set_option maxRecDepth 100000 in
theorem s_X0_meanAbove (l : Launch) (G : Gx) (g q : Nat → Nat) (I0 : Nat → Int32) (J0 : Nat → Int64) (R0 : Nat → Nat → Int32) (L0 : Nat → Nat → Int64) (hvI : InvI Wd_lo Wd_hi I0) (hvR : InvR Wd_rl R0)  (p1 : Int32)  : CtL (S := Unit) l yX0_meanAbove cX0_meanAbove 5 (some .long) (rmD 1 0 0) G [.ref (g 71), .int p1] (Wd G g q I0 J0 R0 L0) (fun r _ => True) (fun _ => (Wd G g q I0 J0 R0 L0)) := by
  refine ctL_of (own := RX0) (by decide +kernel) rfl (Nat.le_of_ble_eq_true rfl) ?_
  intro p e s m below meth c A ls F hr hlk hnm hK hP hD hA hS hl
  have hx := F.1
  have hb := F.2.1
  have hown := F.2.2.2.1
  have hl : lv_has ls 5 [(0, .ref (g 71)), (1, .int p1)] := hl
  obtain ⟨Q, hQ⟩ : ∃ Q : State → Prop, Q = MQ below (va_Ql (S := Unit) (fun r _ => True) (BX G A (fun _ => (Wd G g q I0 J0 R0 L0))) A) [.ref (g 71), .int p1].toArray s 0 0 A := ⟨_, rfl⟩
  rw [show (MQ below (va_Ql (S := Unit) (fun r _ => True) (BX G A (fun _ => (Wd G g q I0 J0 R0 L0))) A) [.ref (g 71), .int p1].toArray s (rmD 1 0 0).cells (rmD 1 0 0).slots A) = Q from hQ.symm]
  have lab_11 : ∀ (k_11 : Nat) (a2_11 : Int64) (a4_11 : Int32) (H : Heap) (locs : List Loc) (ls : Array Slot), ((2147483647 - a4_11.toInt) < (k_11 : Int)) → ((0 : Int) ≤ a4_11.toInt) → va_P G.1 vwCl (Wd G g q I0 J0 R0 L0) H → va_D A (Wd G g q I0 J0 R0 L0) → va_S A s.heap H locs → lv_has ls 5 [(0, .ref (g 71)), (1, .int p1), (2, .long a2_11), (4, .int a4_11)] → W p l e (rmD 1 0 0) s m [.ref (g 71), .int p1].toArray below meth c H locs 0 0 Q (F0 m 11 ls []) := by
    intro k_11
    induction k_11 with
    | zero =>
      intro a2_11 a4_11 H locs ls hm y0_11 hP hD hS hl
      have hf_11 := full a4_11
      exact absurd hm (by omega)
    | succ k_11 ih_11 =>
      intro a2_11 a4_11 H locs ls hm y0_11 hP hD hS hl
      have hf_11 := full a4_11
      refine lv_iload hx hb dX0_meanAbove_11 (lv_at hl 3 rfl) ?_
      refine lv_aload_n hx hb dX0_meanAbove_13 rfl (lv_at hl 0 rfl) ?_
      refine g_get F hK hP 73 (Wd_at73 G g q I0 J0 R0 L0) clX0 1 (by decide) flX0_13 rfl dX0_meanAbove_14 ?_
      have w_I0_35 := rg (hvI 35 (by decide)) (0) (40) rfl rfl
      refine lv_icmp_gt (tgt := 42) hx hb dX0_meanAbove_17 (by decide) (fun c1 => ?_) (fun c1 => ?_)
      · have gc1 : (I0 35).toInt < a4_11.toInt := (tlt _ _).mp c1
        refine lv_lload_n hx hb dX0_meanAbove_42 rfl (lv_at hl 2 rfl) ?_
        refine lv_ldc2 hx hb hown (F.2.2.2.2 _ clX0_71) dX0_meanAbove_43 ?_
        refine lv_ldiv hx hb dX0_meanAbove_46 (by decide) ?_
        refine lv_topl (fun x2 ex2 => ?_)
        rw [hQ]
        exact q_l F hr hlk () hP hD hS trivial dX0_meanAbove_47 (Nat.le_of_ble_eq_true rfl) (Nat.le_of_ble_eq_true rfl)
      · have gc1 : ¬ ((I0 35).toInt < a4_11.toInt) := fun q0 => c1 ((tlt _ _).mpr q0)
        refine lv_lload_n hx hb dX0_meanAbove_20 rfl (lv_at hl 2 rfl) ?_
        refine lv_iload hx hb dX0_meanAbove_21 (lv_at hl 3 rfl) ?_
        refine lv_iload_n hx hb dX0_meanAbove_23 rfl (lv_at hl 1 rfl) ?_
        refine lv_isub hx hb dX0_meanAbove_24 ?_
        refine lv_topi (fun x3 ex3 => ?_)
        obtain ⟨x4, ex4⟩ : ∃ y : Int64, (x3 : Int32).toInt64 = y := ⟨_, rfl⟩
        refine lv_i2l (v := x4) hx hb dX0_meanAbove_25 ex4 ?_
        refine lv_aload_n hx hb dX0_meanAbove_26 rfl (lv_at hl 0 rfl) ?_
        refine g_get F hK hP 73 (Wd_at73 G g q I0 J0 R0 L0) clX0 0 (by decide) flX0_9 rfl dX0_meanAbove_27 ?_
        refine lv_iload hx hb dX0_meanAbove_30 (lv_at hl 3 rfl) ?_
        refine g_lald F hK hP 85 (Wd_at85 G g q I0 J0 R0 L0) (in_of (by omega)) dX0_meanAbove_32 rfl ?_
        refine lv_topl (fun x5 ex5 => ?_)
        refine lv_lmul hx hb dX0_meanAbove_33 ?_
        refine lv_topl (fun x6 ex6 => ?_)
        refine lv_ladd hx hb dX0_meanAbove_34 ?_
        refine lv_topl (fun x7 ex7 => ?_)
        refine lv_lstore_n (lv' := [(2, .long x7), (0, .ref (g 71)), (1, .int p1), (4, .int a4_11)]) hx hb dX0_meanAbove_35 rfl hl (by decide) rfl (fun ls hl => ?_)
        obtain ⟨x8, ex8⟩ : ∃ y : Int32, y = a4_11 + 1 := ⟨_, rfl⟩
        have fx8 : x8.toInt = a4_11.toInt + (1 : Int) := by rw [ex8]; exact t_add (by show (-2147483648 : Int) ≤ a4_11.toInt + (1 : Int); omega) (by show a4_11.toInt + (1 : Int) ≤ 2147483647; omega)
        refine lv_iinc (v := x8) (lv' := [(4, .int x8), (2, .long x7), (0, .ref (g 71)), (1, .int p1)]) hx hb dX0_meanAbove_36 hl (k := 3) rfl (by rw [ex8]; rfl) (by decide) rfl (fun ls hl => ?_)
        refine lv_goto (tgt := 11) hx hb dX0_meanAbove_39 (by decide) ?_
        exact ih_11 x7 x8 _ _ _ (show (2147483647 - x8.toInt) < (k_11 : Int) from by omega) (show ((0 : Int) ≤ x8.toInt) from by omega) hP hD hS (lv_sub hl [2, 3, 1, 0] rfl)
  refine lv_lconst (v := 0) hx hb dX0_meanAbove_0 (by decide) ?_
  refine lv_lstore_n (lv' := [(2, .long 0), (0, .ref (g 71)), (1, .int p1)]) hx hb dX0_meanAbove_1 rfl hl (by decide) rfl (fun ls hl => ?_)
  refine lv_iconst (v := 0) hx hb dX0_meanAbove_2 (by decide) ?_
  refine lv_iload_n hx hb dX0_meanAbove_3 rfl (lv_at hl 2 rfl) ?_
  refine lv_iconst (v := 1) hx hb dX0_meanAbove_4 (by decide) ?_
  refine lv_iadd hx hb dX0_meanAbove_5 ?_
  refine lv_topi (fun x9 ex9 => ?_)
  refine va_mmax hx hb (F.2.2.1.trans hl.1.symm) hown (F.2.2.2.2 _ mmX0_max) (F.2.2.2.2 _ mms_max) (F.2.2.2.2 _ ini_J9) (F.2.2.2.2 _ mmc_max) (Nat.le_of_ble_eq_true rfl) (Nat.le_of_ble_eq_true rfl) (Nat.le_of_ble_eq_true rfl) (Nat.le_of_ble_eq_true rfl) dX0_meanAbove_6 ?_
  refine lv_topi (fun x10 ex10 => ?_)
  have fx10 : x10.toInt = max (0) (x9.toInt) := by rw [ex10]; exact t_max _ _
  refine lv_istore (lv' := [(4, .int x10), (2, .long 0), (0, .ref (g 71)), (1, .int p1)]) hx hb dX0_meanAbove_9 hl (by decide) rfl (fun ls hl => ?_)
  exact lab_11 2147483648 0 x10 _ _ _ (show (2147483647 - x10.toInt) < ((2147483648 : Nat) : Int) from by omega) (show ((0 : Int) ≤ x10.toInt) from by omega) hP hD hS (lv_sub hl [2, 3, 1, 0] rfl)
set_option maxHeartbeats 4000000 in
set_option maxRecDepth 100000 in
theorem s_X5_isName (l : Launch) (G : Gx) (g q : Nat → Nat) (I0 : Nat → Int32) (J0 : Nat → Int64) (R0 : Nat → Nat → Int32) (L0 : Nat → Nat → Int64) (hvI : InvI Wd_lo Wd_hi I0) (hvR : InvR Wd_rl R0)    : CtI (S := Unit) l yX5_isName cX5_isName 1 (some .boolean) (rmD 1 0 0) G [.ref (g 75)] (Wd G g q I0 J0 R0 L0) (fun r _ => ((0 : Int) ≤ r.toInt ∧ r.toInt ≤ (1 : Int))) (fun _ => (Wd G g q I0 J0 R0 L0)) := by
  refine ctI_of (own := RX5) (by decide +kernel) rfl (Nat.le_of_ble_eq_true rfl) ?_
  intro p e s m below meth c A ls F hr hlk hnm hK hP hD hA hS hl
  have hx := F.1
  have hb := F.2.1
  have hown := F.2.2.2.1
  have hl : lv_has ls 1 [(0, .ref (g 75))] := hl
  obtain ⟨Q, hQ⟩ : ∃ Q : State → Prop, Q = MQ below (va_Qi (S := Unit) (fun r _ => ((0 : Int) ≤ r.toInt ∧ r.toInt ≤ (1 : Int))) (BX G A (fun _ => (Wd G g q I0 J0 R0 L0))) A) [.ref (g 75)].toArray s 0 0 A := ⟨_, rfl⟩
  rw [show (MQ below (va_Qi (S := Unit) (fun r _ => ((0 : Int) ≤ r.toInt ∧ r.toInt ≤ (1 : Int))) (BX G A (fun _ => (Wd G g q I0 J0 R0 L0))) A) [.ref (g 75)].toArray s (rmD 1 0 0).cells (rmD 1 0 0).slots A) = Q from hQ.symm]
  refine lv_aload_n hx hb dX5_isName_0 rfl (lv_at hl 0 rfl) ?_
  refine g_get F hK hP 68 (Wd_at68 G g q I0 J0 R0 L0) clX5 4 (by decide) flX5_21 rfl dX5_isName_1 ?_
  have w_I0_26 := rg (hvI 26 (by decide)) (0) (3) rfl rfl
  refine lv_iconst (v := 1) hx hb dX5_isName_4 (by decide) ?_
  refine lv_icmp_ne (tgt := 20) hx hb dX5_isName_5 (by decide) (fun c1 => ?_) (fun c1 => ?_)
  · have gc1 : ¬ ((I0 26).toInt = 1) := fun q0 => c1 (Int32.toInt_inj.mp q0)
    refine lv_iconst (v := 0) hx hb dX5_isName_20 (by decide) ?_
    rw [hQ]
    exact q_z F hr hlk () hP hD hS (show ((0 : Int) ≤ 0 ∧ 0 ≤ (1 : Int)) from by omega) dX5_isName_21 (Nat.le_of_ble_eq_true rfl) (Nat.le_of_ble_eq_true rfl) (nar01 (by decide))
  · have gc1 : (I0 26).toInt = 1 := congrArg Int32.toInt c1
    refine lv_aload_n hx hb dX5_isName_8 rfl (lv_at hl 0 rfl) ?_
    refine g_get F hK hP 68 (Wd_at68 G g q I0 J0 R0 L0) clX5 6 (by decide) flX5_27 rfl dX5_isName_9 ?_
    have w_I0_28 := rg (hvI 28 (by decide)) (-1) (32) rfl rfl
    refine lv_iconst (v := (-1)) hx hb dX5_isName_12 (by decide) ?_
    refine lv_icmp_ne (tgt := 20) hx hb dX5_isName_13 (by decide) (fun c2 => ?_) (fun c2 => ?_)
    · have gc2 : ¬ ((I0 28).toInt = (-1)) := fun q0 => c2 (Int32.toInt_inj.mp q0)
      refine lv_iconst (v := 0) hx hb dX5_isName_20 (by decide) ?_
      rw [hQ]
      exact q_z F hr hlk () hP hD hS (show ((0 : Int) ≤ 0 ∧ 0 ≤ (1 : Int)) from by omega) dX5_isName_21 (Nat.le_of_ble_eq_true rfl) (Nat.le_of_ble_eq_true rfl) (nar01 (by decide))
    · have gc2 : (I0 28).toInt = (-1) := congrArg Int32.toInt c2
      refine lv_iconst (v := 1) hx hb dX5_isName_16 (by decide) ?_
      refine lv_goto (tgt := 21) hx hb dX5_isName_17 (by decide) ?_
      rw [hQ]
      exact q_z F hr hlk () hP hD hS (show ((0 : Int) ≤ 1 ∧ 1 ≤ (1 : Int)) from by omega) dX5_isName_21 (Nat.le_of_ble_eq_true rfl) (Nat.le_of_ble_eq_true rfl) (nar01 (by decide))
set_option maxHeartbeats 4000000 in
set_option maxRecDepth 100000 in
theorem s_X2_find_Spename (l : Launch) (G : Gx) (g q : Nat → Nat) (I0 : Nat → Int32) (J0 : Nat → Int64) (R0 : Nat → Nat → Int32) (L0 : Nat → Nat → Int64) (hvI : InvI Wd_lo Wd_hi I0) (hvR : InvR Wd_rl R0)  (p1 : Int32) (p2 : Int32) (hp1 : ((0 : Int) ≤ p1.toInt ∧ p1.toInt ≤ (12 : Int))) : CtI (S := Unit) l yX2_find cX2_find 4 (some .int) (rmD 1 0 0) G [.ref (g 50), .int p1, .int p2] (Wd G g q I0 J0 R0 L0) (fun r _ => ((-1 : Int) ≤ r.toInt ∧ r.toInt ≤ (11 : Int))) (fun _ => (Wd G g q I0 J0 R0 L0)) := by
  refine ctI_of (own := RX2) (by decide +kernel) rfl (Nat.le_of_ble_eq_true rfl) ?_
  intro p e s m below meth c A ls F hr hlk hnm hK hP hD hA hS hl
  have hx := F.1
  have hb := F.2.1
  have hown := F.2.2.2.1
  have hl : lv_has ls 4 [(0, .ref (g 50)), (1, .int p1), (2, .int p2)] := hl
  obtain ⟨Q, hQ⟩ : ∃ Q : State → Prop, Q = MQ below (va_Qi (S := Unit) (fun r _ => ((-1 : Int) ≤ r.toInt ∧ r.toInt ≤ (11 : Int))) (BX G A (fun _ => (Wd G g q I0 J0 R0 L0))) A) [.ref (g 50), .int p1, .int p2].toArray s 0 0 A := ⟨_, rfl⟩
  rw [show (MQ below (va_Qi (S := Unit) (fun r _ => ((-1 : Int) ≤ r.toInt ∧ r.toInt ≤ (11 : Int))) (BX G A (fun _ => (Wd G g q I0 J0 R0 L0))) A) [.ref (g 50), .int p1, .int p2].toArray s (rmD 1 0 0).cells (rmD 1 0 0).slots A) = Q from hQ.symm]
  have lab_2 : ∀ (k_2 : Nat) (a3_2 : Int32) (H : Heap) (locs : List Loc) (ls : Array Slot), ((12 - a3_2.toInt) < (k_2 : Int)) → ((0 : Int) ≤ a3_2.toInt ∧ a3_2.toInt ≤ (12 : Int)) → va_P G.1 vwCl (Wd G g q I0 J0 R0 L0) H → va_D A (Wd G g q I0 J0 R0 L0) → va_S A s.heap H locs → lv_has ls 4 [(0, .ref (g 50)), (1, .int p1), (2, .int p2), (3, .int a3_2)] → W p l e (rmD 1 0 0) s m [.ref (g 50), .int p1, .int p2].toArray below meth c H locs 0 0 Q (F0 m 2 ls []) := by
    intro k_2
    induction k_2 with
    | zero =>
      intro a3_2 H locs ls hm y0_2 hP hD hS hl
      exact absurd hm (by omega)
    | succ k_2 ih_2 =>
      intro a3_2 H locs ls hm y0_2 hP hD hS hl
      refine lv_iload_n hx hb dX2_find_2 rfl (lv_at hl 3 rfl) ?_
      refine lv_iload_n hx hb dX2_find_3 rfl (lv_at hl 1 rfl) ?_
      refine lv_icmp_ge (tgt := 28) hx hb dX2_find_4 (by decide) (fun c1 => ?_) (fun c1 => ?_)
      · have gc1 : p1.toInt ≤ a3_2.toInt := (tle _ _).mp c1
        refine lv_iconst (v := (-1)) hx hb dX2_find_28 (by decide) ?_
        rw [hQ]
        exact q_i F hr hlk () hP hD hS (show ((-1 : Int) ≤ (-1) ∧ (-1) ≤ (11 : Int)) from by omega) dX2_find_29 (Nat.le_of_ble_eq_true rfl) (Nat.le_of_ble_eq_true rfl)
      · have gc1 : ¬ (p1.toInt ≤ a3_2.toInt) := fun q0 => c1 ((tle _ _).mpr q0)
        refine lv_iload_n hx hb dX2_find_7 rfl (lv_at hl 3 rfl) ?_
        refine lv_aload_n hx hb dX2_find_8 rfl (lv_at hl 0 rfl) ?_
        refine g_ialen (v := 12) F hK hP 42 (Wd_at42 G g q I0 J0 R0 L0) rfl dX2_find_9 ?_
        refine lv_icmp_ge (tgt := 28) hx hb dX2_find_10 (by decide) (fun c2 => ?_) (fun c2 => ?_)
        · have gc2 : 12 ≤ a3_2.toInt := (tle _ _).mp c2
          refine lv_iconst (v := (-1)) hx hb dX2_find_28 (by decide) ?_
          rw [hQ]
          exact q_i F hr hlk () hP hD hS (show ((-1 : Int) ≤ (-1) ∧ (-1) ≤ (11 : Int)) from by omega) dX2_find_29 (Nat.le_of_ble_eq_true rfl) (Nat.le_of_ble_eq_true rfl)
        · have gc2 : ¬ (12 ≤ a3_2.toInt) := fun q0 => c2 ((tle _ _).mpr q0)
          refine lv_aload_n hx hb dX2_find_13 rfl (lv_at hl 0 rfl) ?_
          refine lv_iload_n hx hb dX2_find_14 rfl (lv_at hl 3 rfl) ?_
          refine g_iald F hK hP 42 (Wd_at42 G g q I0 J0 R0 L0) (in_of (by omega)) dX2_find_15 rfl ?_
          refine lv_topi (fun x3 ex3 => ?_)
          have gx3 : x3.toInt = (R0 34 (Int32.toNatClampNeg a3_2)).toInt := congrArg Int32.toInt (ex3)
          refine lv_iload_n hx hb dX2_find_16 rfl (lv_at hl 2 rfl) ?_
          refine lv_icmp_ne (tgt := 22) hx hb dX2_find_17 (by decide) (fun c4 => ?_) (fun c4 => ?_)
          · have gc4 : ¬ (x3.toInt = p2.toInt) := fun q0 => c4 (Int32.toInt_inj.mp q0)
            obtain ⟨x5, ex5⟩ : ∃ y : Int32, y = a3_2 + 1 := ⟨_, rfl⟩
            have fx5 : x5.toInt = a3_2.toInt + (1 : Int) := by rw [ex5]; exact t_add (by show (-2147483648 : Int) ≤ a3_2.toInt + (1 : Int); omega) (by show a3_2.toInt + (1 : Int) ≤ 2147483647; omega)
            refine lv_iinc (v := x5) (lv' := [(3, .int x5), (0, .ref (g 50)), (1, .int p1), (2, .int p2)]) hx hb dX2_find_22 hl (k := 3) rfl (by rw [ex5]; rfl) (by decide) rfl (fun ls hl => ?_)
            refine lv_goto (tgt := 2) hx hb dX2_find_25 (by decide) ?_
            exact ih_2 x5 _ _ _ (show (12 - x5.toInt) < (k_2 : Int) from by omega) (show ((0 : Int) ≤ x5.toInt ∧ x5.toInt ≤ (12 : Int)) from by omega) hP hD hS (lv_sub hl [1, 2, 3, 0] rfl)
          · have gc4 : x3.toInt = p2.toInt := congrArg Int32.toInt c4
            refine lv_iload_n hx hb dX2_find_20 rfl (lv_at hl 3 rfl) ?_
            rw [hQ]
            exact q_i F hr hlk () hP hD hS (show ((-1 : Int) ≤ a3_2.toInt ∧ a3_2.toInt ≤ (11 : Int)) from by omega) dX2_find_21 (Nat.le_of_ble_eq_true rfl) (Nat.le_of_ble_eq_true rfl)
  refine lv_iconst (v := 0) hx hb dX2_find_0 (by decide) ?_
  refine lv_istore_n (lv' := [(3, .int 0), (0, .ref (g 50)), (1, .int p1), (2, .int p2)]) hx hb dX2_find_1 rfl hl (by decide) rfl (fun ls hl => ?_)
  exact lab_2 13 0 _ _ _ (show (12 - 0) < ((13 : Nat) : Int) from by omega) (by decide) hP hD hS (lv_sub hl [1, 2, 3, 0] rfl)
set_option maxHeartbeats 4000000 in
set_option maxRecDepth 100000 in
theorem s_X2_findPerson (l : Launch) (G : Gx) (g q : Nat → Nat) (I0 : Nat → Int32) (J0 : Nat → Int64) (R0 : Nat → Nat → Int32) (L0 : Nat → Nat → Int64) (hvI : InvI Wd_lo Wd_hi I0) (hvR : InvR Wd_rl R0)  (p1 : Int32)  : CtI (S := Unit) l yX2_findPerson cX2_findPerson 2 (some .int) (rmD 2 0 0) G [.ref (g 44), .int p1] (Wd G g q I0 J0 R0 L0) (fun r _ => ((-1 : Int) ≤ r.toInt ∧ r.toInt ≤ (11 : Int))) (fun _ => (Wd G g q I0 J0 R0 L0)) := by
  refine ctI_of (own := RX2) (by decide +kernel) rfl (Nat.le_of_ble_eq_true rfl) ?_
  intro p e s m below meth c A ls F hr hlk hnm hK hP hD hA hS hl
  have hx := F.1
  have hb := F.2.1
  have hown := F.2.2.2.1
  have hl : lv_has ls 2 [(0, .ref (g 44)), (1, .int p1)] := hl
  obtain ⟨Q, hQ⟩ : ∃ Q : State → Prop, Q = MQ below (va_Qi (S := Unit) (fun r _ => ((-1 : Int) ≤ r.toInt ∧ r.toInt ≤ (11 : Int))) (BX G A (fun _ => (Wd G g q I0 J0 R0 L0))) A) [.ref (g 44), .int p1].toArray s 0 0 A := ⟨_, rfl⟩
  rw [show (MQ below (va_Qi (S := Unit) (fun r _ => ((-1 : Int) ≤ r.toInt ∧ r.toInt ≤ (11 : Int))) (BX G A (fun _ => (Wd G g q I0 J0 R0 L0))) A) [.ref (g 44), .int p1].toArray s (rmD 2 0 0).cells (rmD 2 0 0).slots A) = Q from hQ.symm]
  refine lv_aload_n hx hb dX2_findPerson_0 rfl (lv_at hl 0 rfl) ?_
  refine g_get F hK hP 33 (Wd_at33 G g q I0 J0 R0 L0) clX2 1 (by decide) flX2_21 rfl dX2_findPerson_1 ?_
  refine g_get F hK hP 35 (Wd_at35 G g q I0 J0 R0 L0) clX3 1 (by decide) flX2_89 rfl dX2_findPerson_4 ?_
  refine lv_aload_n hx hb dX2_findPerson_7 rfl (lv_at hl 0 rfl) ?_
  refine g_get F hK hP 33 (Wd_at33 G g q I0 J0 R0 L0) clX2 1 (by decide) flX2_21 rfl dX2_findPerson_8 ?_
  refine g_get F hK hP 35 (Wd_at35 G g q I0 J0 R0 L0) clX3 0 (by decide) flX2_71 rfl dX2_findPerson_11 ?_
  have w_I0_15 := rg (hvI 15 (by decide)) (0) (12) rfl rfl
  refine lv_iload_n hx hb dX2_findPerson_14 rfl (lv_at hl 1 rfl) ?_
  refine wsi (As := [.ref (g 50), .int (I0 15), .int p1]) (rest := []) (d := 1) F hK hP hD hS hA (s_X2_find_Spename l G g q I0 J0 R0 L0 hvI hvR  ((I0 15)) p1 (show ((0 : Int) ≤ (I0 15).toInt ∧ (I0 15).toInt ≤ (12 : Int)) from by omega)) kmS_X2_find mlX2_85 ⟨(Nat.le_of_ble_eq_true rfl), (Nat.le_of_ble_eq_true rfl)⟩ hl.1 rfl (Nat.le_of_ble_eq_true rfl) dX2_findPerson_15 (fun r1 u2 H locs hwr1 hP hD hS => ?_)
  have F0r1 := hwr1
  replace F0r1 : ((-1 : Int) ≤ r1.toInt ∧ r1.toInt ≤ (11 : Int)) := F0r1
  rw [hQ]
  exact q_i F hr hlk () hP hD hS (show ((-1 : Int) ≤ r1.toInt ∧ r1.toInt ≤ (11 : Int)) from by omega) dX2_findPerson_18 (Nat.le_of_ble_eq_true rfl) (Nat.le_of_ble_eq_true rfl)
set_option maxHeartbeats 4000000 in
set_option maxRecDepth 100000 in
theorem s_X5_isBlank (l : Launch) (G : Gx)  (p0 : Int32) (hp0 : ((0 : Int) ≤ p0.toInt ∧ p0.toInt ≤ (255 : Int))) : CtI (S := Unit) l yX5_isBlank cX5_isBlank 1 (some .boolean) (rmD 1 0 0) G [.int p0] [] (fun r _ => ((0 : Int) ≤ r.toInt ∧ r.toInt ≤ (1 : Int))) (fun _ => []) := by
  refine ctI_of (own := RX5) (by decide +kernel) rfl (Nat.le_of_ble_eq_true rfl) ?_
  intro p e s m below meth c A ls F hr hlk hnm hK hP hD hA hS hl
  have hx := F.1
  have hb := F.2.1
  have hown := F.2.2.2.1
  have hl : lv_has ls 1 [(0, .int p0)] := hl
  obtain ⟨Q, hQ⟩ : ∃ Q : State → Prop, Q = MQ below (va_Qi (S := Unit) (fun r _ => ((0 : Int) ≤ r.toInt ∧ r.toInt ≤ (1 : Int))) (BX G A (fun _ => [])) A) [.int p0].toArray s 0 0 A := ⟨_, rfl⟩
  rw [show (MQ below (va_Qi (S := Unit) (fun r _ => ((0 : Int) ≤ r.toInt ∧ r.toInt ≤ (1 : Int))) (BX G A (fun _ => [])) A) [.int p0].toArray s (rmD 1 0 0).cells (rmD 1 0 0).slots A) = Q from hQ.symm]
  have lab_12 : ∀  (H : Heap) (locs : List Loc) (ls : Array Slot), va_P G.1 vwCl [] H → va_D A [] → va_S A s.heap H locs → lv_has ls 1 [] → W p l e (rmD 1 0 0) s m [.int p0].toArray below meth c H locs 0 0 Q (F0 m 12 ls []) := by
    intro H locs ls hP hD hS hl
    refine lv_iconst (v := 1) hx hb dX5_isBlank_12 (by decide) ?_
    refine lv_goto (tgt := 17) hx hb dX5_isBlank_13 (by decide) ?_
    rw [hQ]
    exact q_z F hr hlk () hP hD hS (show ((0 : Int) ≤ 1 ∧ 1 ≤ (1 : Int)) from by omega) dX5_isBlank_17 (Nat.le_of_ble_eq_true rfl) (Nat.le_of_ble_eq_true rfl) (nar01 (by decide))
  refine lv_iload_n hx hb dX5_isBlank_0 rfl (lv_at hl 0 rfl) ?_
  refine lv_bipush (v := 10) hx hb dX5_isBlank_1 (by decide) ?_
  refine lv_icmp_eq (tgt := 12) hx hb dX5_isBlank_3 (by decide) (fun c1 => ?_) (fun c1 => ?_)
  · have gc1 : p0.toInt = 10 := congrArg Int32.toInt c1
    exact lab_12  _ _ _  hP hD hS (lv_sub hl [] rfl)
  · have gc1 : ¬ (p0.toInt = 10) := fun q0 => c1 (Int32.toInt_inj.mp q0)
    refine lv_iload_n hx hb dX5_isBlank_6 rfl (lv_at hl 0 rfl) ?_
    refine lv_bipush (v := 32) hx hb dX5_isBlank_7 (by decide) ?_
    refine lv_icmp_ne (tgt := 16) hx hb dX5_isBlank_9 (by decide) (fun c2 => ?_) (fun c2 => ?_)
    · have gc2 : ¬ (p0.toInt = 32) := fun q0 => c2 (Int32.toInt_inj.mp q0)
      refine lv_iconst (v := 0) hx hb dX5_isBlank_16 (by decide) ?_
      rw [hQ]
      exact q_z F hr hlk () hP hD hS (show ((0 : Int) ≤ 0 ∧ 0 ≤ (1 : Int)) from by omega) dX5_isBlank_17 (Nat.le_of_ble_eq_true rfl) (Nat.le_of_ble_eq_true rfl) (nar01 (by decide))
    · have gc2 : p0.toInt = 32 := congrArg Int32.toInt c2
      exact lab_12  _ _ _  hP hD hS (lv_sub hl [] rfl)
set_option maxHeartbeats 4000000 in
set_option maxRecDepth 100000 in
theorem s_X5_isDigit (l : Launch) (G : Gx)  (p0 : Int32) (hp0 : ((0 : Int) ≤ p0.toInt ∧ p0.toInt ≤ (255 : Int))) : CtI (S := Unit) l yX5_isDigit cX5_isDigit 1 (some .boolean) (rmD 1 0 0) G [.int p0] [] (fun r _ => ((0 : Int) ≤ r.toInt ∧ r.toInt ≤ (1 : Int))) (fun _ => []) := by
  refine ctI_of (own := RX5) (by decide +kernel) rfl (Nat.le_of_ble_eq_true rfl) ?_
  intro p e s m below meth c A ls F hr hlk hnm hK hP hD hA hS hl
  have hx := F.1
  have hb := F.2.1
  have hown := F.2.2.2.1
  have hl : lv_has ls 1 [(0, .int p0)] := hl
  obtain ⟨Q, hQ⟩ : ∃ Q : State → Prop, Q = MQ below (va_Qi (S := Unit) (fun r _ => ((0 : Int) ≤ r.toInt ∧ r.toInt ≤ (1 : Int))) (BX G A (fun _ => [])) A) [.int p0].toArray s 0 0 A := ⟨_, rfl⟩
  rw [show (MQ below (va_Qi (S := Unit) (fun r _ => ((0 : Int) ≤ r.toInt ∧ r.toInt ≤ (1 : Int))) (BX G A (fun _ => [])) A) [.int p0].toArray s (rmD 1 0 0).cells (rmD 1 0 0).slots A) = Q from hQ.symm]
  refine lv_iload_n hx hb dX5_isDigit_0 rfl (lv_at hl 0 rfl) ?_
  refine lv_bipush (v := 48) hx hb dX5_isDigit_1 (by decide) ?_
  refine lv_icmp_lt (tgt := 16) hx hb dX5_isDigit_3 (by decide) (fun c1 => ?_) (fun c1 => ?_)
  · have gc1 : p0.toInt < 48 := (tlt _ _).mp c1
    refine lv_iconst (v := 0) hx hb dX5_isDigit_16 (by decide) ?_
    rw [hQ]
    exact q_z F hr hlk () hP hD hS (show ((0 : Int) ≤ 0 ∧ 0 ≤ (1 : Int)) from by omega) dX5_isDigit_17 (Nat.le_of_ble_eq_true rfl) (Nat.le_of_ble_eq_true rfl) (nar01 (by decide))
  · have gc1 : ¬ (p0.toInt < 48) := fun q0 => c1 ((tlt _ _).mpr q0)
    refine lv_iload_n hx hb dX5_isDigit_6 rfl (lv_at hl 0 rfl) ?_
    refine lv_bipush (v := 57) hx hb dX5_isDigit_7 (by decide) ?_
    refine lv_icmp_gt (tgt := 16) hx hb dX5_isDigit_9 (by decide) (fun c2 => ?_) (fun c2 => ?_)
    · have gc2 : 57 < p0.toInt := (tlt _ _).mp c2
      refine lv_iconst (v := 0) hx hb dX5_isDigit_16 (by decide) ?_
      rw [hQ]
      exact q_z F hr hlk () hP hD hS (show ((0 : Int) ≤ 0 ∧ 0 ≤ (1 : Int)) from by omega) dX5_isDigit_17 (Nat.le_of_ble_eq_true rfl) (Nat.le_of_ble_eq_true rfl) (nar01 (by decide))
    · have gc2 : ¬ (57 < p0.toInt) := fun q0 => c2 ((tlt _ _).mpr q0)
      refine lv_iconst (v := 1) hx hb dX5_isDigit_12 (by decide) ?_
      refine lv_goto (tgt := 17) hx hb dX5_isDigit_13 (by decide) ?_
      rw [hQ]
      exact q_z F hr hlk () hP hD hS (show ((0 : Int) ≤ 1 ∧ 1 ≤ (1 : Int)) from by omega) dX5_isDigit_17 (Nat.le_of_ble_eq_true rfl) (Nat.le_of_ble_eq_true rfl) (nar01 (by decide))
set_option maxHeartbeats 4000000 in
set_option maxRecDepth 100000 in
theorem s_X5_isFailed (l : Launch) (G : Gx) (g q : Nat → Nat) (I0 : Nat → Int32) (J0 : Nat → Int64) (R0 : Nat → Nat → Int32) (L0 : Nat → Nat → Int64) (hvI : InvI Wd_lo Wd_hi I0) (hvR : InvR Wd_rl R0)    : CtI (S := Unit) l yX5_isFailed cX5_isFailed 1 (some .boolean) (rmD 1 0 0) G [.ref (g 75)] (Wd G g q I0 J0 R0 L0) (fun r _ => ((0 : Int) ≤ r.toInt ∧ r.toInt ≤ (1 : Int)) ∧ ((r.toInt = 0 ∧ (I0 29).toInt = 0) ∨ (r.toInt = 1 ∧ ¬ (I0 29).toInt = 0))) (fun _ => (Wd G g q I0 J0 R0 L0)) := by
  refine ctI_of (own := RX5) (by decide +kernel) rfl (Nat.le_of_ble_eq_true rfl) ?_
  intro p e s m below meth c A ls F hr hlk hnm hK hP hD hA hS hl
  have hx := F.1
  have hb := F.2.1
  have hown := F.2.2.2.1
  have hl : lv_has ls 1 [(0, .ref (g 75))] := hl
  obtain ⟨Q, hQ⟩ : ∃ Q : State → Prop, Q = MQ below (va_Qi (S := Unit) (fun r _ => ((0 : Int) ≤ r.toInt ∧ r.toInt ≤ (1 : Int)) ∧ ((r.toInt = 0 ∧ (I0 29).toInt = 0) ∨ (r.toInt = 1 ∧ ¬ (I0 29).toInt = 0))) (BX G A (fun _ => (Wd G g q I0 J0 R0 L0))) A) [.ref (g 75)].toArray s 0 0 A := ⟨_, rfl⟩
  rw [show (MQ below (va_Qi (S := Unit) (fun r _ => ((0 : Int) ≤ r.toInt ∧ r.toInt ≤ (1 : Int)) ∧ ((r.toInt = 0 ∧ (I0 29).toInt = 0) ∨ (r.toInt = 1 ∧ ¬ (I0 29).toInt = 0))) (BX G A (fun _ => (Wd G g q I0 J0 R0 L0))) A) [.ref (g 75)].toArray s (rmD 1 0 0).cells (rmD 1 0 0).slots A) = Q from hQ.symm]
  refine lv_aload_n hx hb dX5_isFailed_0 rfl (lv_at hl 0 rfl) ?_
  refine g_get F hK hP 68 (Wd_at68 G g q I0 J0 R0 L0) clX5 7 (by decide) flX5_30 rfl dX5_isFailed_1 ?_
  refine lv_if_eq (tgt := 11) hx hb dX5_isFailed_4 (by decide) (fun c1 => ?_) (fun c1 => ?_)
  · have gc1 : (I0 29).toInt = 0 := congrArg Int32.toInt c1
    refine lv_iconst (v := 0) hx hb dX5_isFailed_11 (by decide) ?_
    rw [hQ]
    exact q_z F hr hlk () hP hD hS ⟨(show ((0 : Int) ≤ 0 ∧ 0 ≤ (1 : Int)) from by omega), (show ((0 = 0 ∧ (I0 29).toInt = 0) ∨ (0 = 1 ∧ ¬ (I0 29).toInt = 0)) from by omega)⟩ dX5_isFailed_12 (Nat.le_of_ble_eq_true rfl) (Nat.le_of_ble_eq_true rfl) (nar01 (by decide))
  · have gc1 : ¬ ((I0 29).toInt = 0) := fun q0 => c1 (Int32.toInt_inj.mp q0)
    refine lv_iconst (v := 1) hx hb dX5_isFailed_7 (by decide) ?_
    refine lv_goto (tgt := 12) hx hb dX5_isFailed_8 (by decide) ?_
    rw [hQ]
    exact q_z F hr hlk () hP hD hS ⟨(show ((0 : Int) ≤ 1 ∧ 1 ≤ (1 : Int)) from by omega), (show ((1 = 0 ∧ (I0 29).toInt = 0) ∨ (1 = 1 ∧ ¬ (I0 29).toInt = 0)) from by omega)⟩ dX5_isFailed_12 (Nat.le_of_ble_eq_true rfl) (Nat.le_of_ble_eq_true rfl) (nar01 (by decide))
set_option maxHeartbeats 4000000 in
set_option maxRecDepth 100000 in
theorem s_X5_isLetter (l : Launch) (G : Gx)  (p0 : Int32) (hp0 : ((0 : Int) ≤ p0.toInt ∧ p0.toInt ≤ (255 : Int))) : CtI (S := Unit) l yX5_isLetter cX5_isLetter 1 (some .boolean) (rmD 1 0 0) G [.int p0] [] (fun r _ => ((0 : Int) ≤ r.toInt ∧ r.toInt ≤ (1 : Int))) (fun _ => []) := by
  refine ctI_of (own := RX5) (by decide +kernel) rfl (Nat.le_of_ble_eq_true rfl) ?_
  intro p e s m below meth c A ls F hr hlk hnm hK hP hD hA hS hl
  have hx := F.1
  have hb := F.2.1
  have hown := F.2.2.2.1
  have hl : lv_has ls 1 [(0, .int p0)] := hl
  obtain ⟨Q, hQ⟩ : ∃ Q : State → Prop, Q = MQ below (va_Qi (S := Unit) (fun r _ => ((0 : Int) ≤ r.toInt ∧ r.toInt ≤ (1 : Int))) (BX G A (fun _ => [])) A) [.int p0].toArray s 0 0 A := ⟨_, rfl⟩
  rw [show (MQ below (va_Qi (S := Unit) (fun r _ => ((0 : Int) ≤ r.toInt ∧ r.toInt ≤ (1 : Int))) (BX G A (fun _ => [])) A) [.int p0].toArray s (rmD 1 0 0).cells (rmD 1 0 0).slots A) = Q from hQ.symm]
  refine lv_iload_n hx hb dX5_isLetter_0 rfl (lv_at hl 0 rfl) ?_
  refine lv_bipush (v := 97) hx hb dX5_isLetter_1 (by decide) ?_
  refine lv_icmp_lt (tgt := 16) hx hb dX5_isLetter_3 (by decide) (fun c1 => ?_) (fun c1 => ?_)
  · have gc1 : p0.toInt < 97 := (tlt _ _).mp c1
    refine lv_iconst (v := 0) hx hb dX5_isLetter_16 (by decide) ?_
    rw [hQ]
    exact q_z F hr hlk () hP hD hS (show ((0 : Int) ≤ 0 ∧ 0 ≤ (1 : Int)) from by omega) dX5_isLetter_17 (Nat.le_of_ble_eq_true rfl) (Nat.le_of_ble_eq_true rfl) (nar01 (by decide))
  · have gc1 : ¬ (p0.toInt < 97) := fun q0 => c1 ((tlt _ _).mpr q0)
    refine lv_iload_n hx hb dX5_isLetter_6 rfl (lv_at hl 0 rfl) ?_
    refine lv_bipush (v := 122) hx hb dX5_isLetter_7 (by decide) ?_
    refine lv_icmp_gt (tgt := 16) hx hb dX5_isLetter_9 (by decide) (fun c2 => ?_) (fun c2 => ?_)
    · have gc2 : 122 < p0.toInt := (tlt _ _).mp c2
      refine lv_iconst (v := 0) hx hb dX5_isLetter_16 (by decide) ?_
      rw [hQ]
      exact q_z F hr hlk () hP hD hS (show ((0 : Int) ≤ 0 ∧ 0 ≤ (1 : Int)) from by omega) dX5_isLetter_17 (Nat.le_of_ble_eq_true rfl) (Nat.le_of_ble_eq_true rfl) (nar01 (by decide))
    · have gc2 : ¬ (122 < p0.toInt) := fun q0 => c2 ((tlt _ _).mpr q0)
      refine lv_iconst (v := 1) hx hb dX5_isLetter_12 (by decide) ?_
      refine lv_goto (tgt := 17) hx hb dX5_isLetter_13 (by decide) ?_
      rw [hQ]
      exact q_z F hr hlk () hP hD hS (show ((0 : Int) ≤ 1 ∧ 1 ≤ (1 : Int)) from by omega) dX5_isLetter_17 (Nat.le_of_ble_eq_true rfl) (Nat.le_of_ble_eq_true rfl) (nar01 (by decide))
set_option maxHeartbeats 4000000 in
set_option maxRecDepth 100000 in
theorem s_X5_withLetter (l : Launch) (G : Gx)  (p0 : Int32) (p1 : Int32) (hp1 : ((0 : Int) ≤ p1.toInt ∧ p1.toInt ≤ (255 : Int))) : CtI (S := Unit) l yX5_withLetter cX5_withLetter 2 (some .int) (rmD 1 0 0) G [.int p0, .int p1] [] (fun r _ => True) (fun _ => []) := by
  refine ctI_of (own := RX5) (by decide +kernel) rfl (Nat.le_of_ble_eq_true rfl) ?_
  intro p e s m below meth c A ls F hr hlk hnm hK hP hD hA hS hl
  have hx := F.1
  have hb := F.2.1
  have hown := F.2.2.2.1
  have hl : lv_has ls 2 [(0, .int p0), (1, .int p1)] := hl
  obtain ⟨Q, hQ⟩ : ∃ Q : State → Prop, Q = MQ below (va_Qi (S := Unit) (fun r _ => True) (BX G A (fun _ => [])) A) [.int p0, .int p1].toArray s 0 0 A := ⟨_, rfl⟩
  rw [show (MQ below (va_Qi (S := Unit) (fun r _ => True) (BX G A (fun _ => [])) A) [.int p0, .int p1].toArray s (rmD 1 0 0).cells (rmD 1 0 0).slots A) = Q from hQ.symm]
  refine lv_iload_n hx hb dX5_withLetter_0 rfl (lv_at hl 0 rfl) ?_
  refine lv_iconst (v := 5) hx hb dX5_withLetter_1 (by decide) ?_
  refine lv_ishl hx hb dX5_withLetter_2 ?_
  refine lv_topi (fun x1 ex1 => ?_)
  refine lv_iload_n hx hb dX5_withLetter_3 rfl (lv_at hl 1 rfl) ?_
  refine lv_bipush (v := 96) hx hb dX5_withLetter_4 (by decide) ?_
  refine lv_isub hx hb dX5_withLetter_6 ?_
  refine lv_topi (fun x2 ex2 => ?_)
  have fx2 : x2.toInt = p1.toInt - 96 := by rw [ex2]; exact t_sub (by show (-2147483648 : Int) ≤ p1.toInt - 96; omega) (by show p1.toInt - 96 ≤ 2147483647; omega)
  refine lv_ior hx hb dX5_withLetter_7 ?_
  refine lv_topi (fun x3 ex3 => ?_)
  rw [hQ]
  exact q_i F hr hlk () hP hD hS trivial dX5_withLetter_8 (Nat.le_of_ble_eq_true rfl) (Nat.le_of_ble_eq_true rfl)
set_option maxHeartbeats 4000000 in
set_option maxRecDepth 100000 in
theorem s_X11_isBelow (l : Launch) (G : Gx)  (p0 : Int32) (p1 : Int32) (hp1 : ((0 : Int) ≤ p1.toInt ∧ p1.toInt ≤ (30 : Int))) : CtI (S := Unit) l yX11_isBelow cX11_isBelow 2 (some .boolean) (rmD 1 0 0) G [.int p0, .int p1] [] (fun r _ => ((0 : Int) ≤ r.toInt ∧ r.toInt ≤ (1 : Int)) ∧ (r.toInt = 1 → (0 ≤ p0.toInt ∧ p0.toInt < p1.toInt))) (fun _ => []) := by
  refine ctI_of (own := RX11) (by decide +kernel) rfl (Nat.le_of_ble_eq_true rfl) ?_
  intro p e s m below meth c A ls F hr hlk hnm hK hP hD hA hS hl
  have hx := F.1
  have hb := F.2.1
  have hown := F.2.2.2.1
  have hl : lv_has ls 2 [(0, .int p0), (1, .int p1)] := hl
  obtain ⟨Q, hQ⟩ : ∃ Q : State → Prop, Q = MQ below (va_Qi (S := Unit) (fun r _ => ((0 : Int) ≤ r.toInt ∧ r.toInt ≤ (1 : Int)) ∧ (r.toInt = 1 → (0 ≤ p0.toInt ∧ p0.toInt < p1.toInt))) (BX G A (fun _ => [])) A) [.int p0, .int p1].toArray s 0 0 A := ⟨_, rfl⟩
  rw [show (MQ below (va_Qi (S := Unit) (fun r _ => ((0 : Int) ≤ r.toInt ∧ r.toInt ≤ (1 : Int)) ∧ (r.toInt = 1 → (0 ≤ p0.toInt ∧ p0.toInt < p1.toInt))) (BX G A (fun _ => [])) A) [.int p0, .int p1].toArray s (rmD 1 0 0).cells (rmD 1 0 0).slots A) = Q from hQ.symm]
  refine lv_iload_n hx hb dX11_isBelow_0 rfl (lv_at hl 0 rfl) ?_
  refine lv_if_lt (tgt := 13) hx hb dX11_isBelow_1 (by decide) (fun c1 => ?_) (fun c1 => ?_)
  · have gc1 : p0.toInt < 0 := (tlt _ _).mp c1
    refine lv_iconst (v := 0) hx hb dX11_isBelow_13 (by decide) ?_
    rw [hQ]
    exact q_z F hr hlk () hP hD hS ⟨(show ((0 : Int) ≤ 0 ∧ 0 ≤ (1 : Int)) from by omega), (show (0 = 1 → (0 ≤ p0.toInt ∧ p0.toInt < p1.toInt)) from by omega)⟩ dX11_isBelow_14 (Nat.le_of_ble_eq_true rfl) (Nat.le_of_ble_eq_true rfl) (nar01 (by decide))
  · have gc1 : ¬ (p0.toInt < 0) := fun q0 => c1 ((tlt _ _).mpr q0)
    refine lv_iload_n hx hb dX11_isBelow_4 rfl (lv_at hl 0 rfl) ?_
    refine lv_iload_n hx hb dX11_isBelow_5 rfl (lv_at hl 1 rfl) ?_
    refine lv_icmp_ge (tgt := 13) hx hb dX11_isBelow_6 (by decide) (fun c2 => ?_) (fun c2 => ?_)
    · have gc2 : p1.toInt ≤ p0.toInt := (tle _ _).mp c2
      refine lv_iconst (v := 0) hx hb dX11_isBelow_13 (by decide) ?_
      rw [hQ]
      exact q_z F hr hlk () hP hD hS ⟨(show ((0 : Int) ≤ 0 ∧ 0 ≤ (1 : Int)) from by omega), (show (0 = 1 → (0 ≤ p0.toInt ∧ p0.toInt < p1.toInt)) from by omega)⟩ dX11_isBelow_14 (Nat.le_of_ble_eq_true rfl) (Nat.le_of_ble_eq_true rfl) (nar01 (by decide))
    · have gc2 : ¬ (p1.toInt ≤ p0.toInt) := fun q0 => c2 ((tle _ _).mpr q0)
      refine lv_iconst (v := 1) hx hb dX11_isBelow_9 (by decide) ?_
      refine lv_goto (tgt := 14) hx hb dX11_isBelow_10 (by decide) ?_
      rw [hQ]
      exact q_z F hr hlk () hP hD hS ⟨(show ((0 : Int) ≤ 1 ∧ 1 ≤ (1 : Int)) from by omega), (show (1 = 1 → (0 ≤ p0.toInt ∧ p0.toInt < p1.toInt)) from by omega)⟩ dX11_isBelow_14 (Nat.le_of_ble_eq_true rfl) (Nat.le_of_ble_eq_true rfl) (nar01 (by decide))
set_option maxHeartbeats 4000000 in
set_option maxRecDepth 100000 in
theorem s_X11_isDay (l : Launch) (G : Gx)  (p0 : Int32)  : CtI (S := Unit) l yX11_isDay cX11_isDay 1 (some .boolean) (rmD 2 0 0) G [.int p0] [] (fun r _ => ((0 : Int) ≤ r.toInt ∧ r.toInt ≤ (1 : Int)) ∧ (r.toInt = 1 → (0 ≤ p0.toInt ∧ p0.toInt ≤ 4))) (fun _ => []) := by
  refine ctI_of (own := RX11) (by decide +kernel) rfl (Nat.le_of_ble_eq_true rfl) ?_
  intro p e s m below meth c A ls F hr hlk hnm hK hP hD hA hS hl
  have hx := F.1
  have hb := F.2.1
  have hown := F.2.2.2.1
  have hl : lv_has ls 1 [(0, .int p0)] := hl
  obtain ⟨Q, hQ⟩ : ∃ Q : State → Prop, Q = MQ below (va_Qi (S := Unit) (fun r _ => ((0 : Int) ≤ r.toInt ∧ r.toInt ≤ (1 : Int)) ∧ (r.toInt = 1 → (0 ≤ p0.toInt ∧ p0.toInt ≤ 4))) (BX G A (fun _ => [])) A) [.int p0].toArray s 0 0 A := ⟨_, rfl⟩
  rw [show (MQ below (va_Qi (S := Unit) (fun r _ => ((0 : Int) ≤ r.toInt ∧ r.toInt ≤ (1 : Int)) ∧ (r.toInt = 1 → (0 ≤ p0.toInt ∧ p0.toInt ≤ 4))) (BX G A (fun _ => [])) A) [.int p0].toArray s (rmD 2 0 0).cells (rmD 2 0 0).slots A) = Q from hQ.symm]
  refine lv_iload_n hx hb dX11_isDay_0 rfl (lv_at hl 0 rfl) ?_
  refine lv_iconst (v := 5) hx hb dX11_isDay_1 (by decide) ?_
  refine w0i (As := [.int p0, .int 5]) (rest := []) (d := 1) F hK hP hD hS hA (s_X11_isBelow l G  p0 5 (by decide)) kmS_X11_isBelow mlX11_169 ⟨(Nat.le_of_ble_eq_true rfl), (Nat.le_of_ble_eq_true rfl)⟩ hl.1 rfl (Nat.le_of_ble_eq_true rfl) dX11_isDay_2 (fun r1 u2 H locs hwr1 hP hD hS => ?_)
  obtain ⟨F0r1, F1r1⟩ := hwr1
  replace F0r1 : ((0 : Int) ≤ r1.toInt ∧ r1.toInt ≤ (1 : Int)) := F0r1
  replace F1r1 : (r1.toInt = 1 → (0 ≤ p0.toInt ∧ p0.toInt < 5)) := F1r1
  rw [hQ]
  exact q_z F hr hlk () hP hD hS ⟨(show ((0 : Int) ≤ r1.toInt ∧ r1.toInt ≤ (1 : Int)) from by omega), (show (r1.toInt = 1 → (0 ≤ p0.toInt ∧ p0.toInt ≤ 4)) from by omega)⟩ dX11_isDay_5 (Nat.le_of_ble_eq_true rfl) (Nat.le_of_ble_eq_true rfl) (nar01 (show ((0 : Int) ≤ r1.toInt ∧ r1.toInt ≤ (1 : Int)) from by omega))
set_option maxHeartbeats 4000000 in
set_option maxRecDepth 100000 in
theorem s_X5_isNumber (l : Launch) (G : Gx) (g q : Nat → Nat) (I0 : Nat → Int32) (J0 : Nat → Int64) (R0 : Nat → Nat → Int32) (L0 : Nat → Nat → Int64) (hvI : InvI Wd_lo Wd_hi I0) (hvR : InvR Wd_rl R0)    : CtI (S := Unit) l yX5_isNumber cX5_isNumber 1 (some .boolean) (rmD 1 0 0) G [.ref (g 75)] (Wd G g q I0 J0 R0 L0) (fun r _ => ((0 : Int) ≤ r.toInt ∧ r.toInt ≤ (1 : Int))) (fun _ => (Wd G g q I0 J0 R0 L0)) := by
  refine ctI_of (own := RX5) (by decide +kernel) rfl (Nat.le_of_ble_eq_true rfl) ?_
  intro p e s m below meth c A ls F hr hlk hnm hK hP hD hA hS hl
  have hx := F.1
  have hb := F.2.1
  have hown := F.2.2.2.1
  have hl : lv_has ls 1 [(0, .ref (g 75))] := hl
  obtain ⟨Q, hQ⟩ : ∃ Q : State → Prop, Q = MQ below (va_Qi (S := Unit) (fun r _ => ((0 : Int) ≤ r.toInt ∧ r.toInt ≤ (1 : Int))) (BX G A (fun _ => (Wd G g q I0 J0 R0 L0))) A) [.ref (g 75)].toArray s 0 0 A := ⟨_, rfl⟩
  rw [show (MQ below (va_Qi (S := Unit) (fun r _ => ((0 : Int) ≤ r.toInt ∧ r.toInt ≤ (1 : Int))) (BX G A (fun _ => (Wd G g q I0 J0 R0 L0))) A) [.ref (g 75)].toArray s (rmD 1 0 0).cells (rmD 1 0 0).slots A) = Q from hQ.symm]
  refine lv_aload_n hx hb dX5_isNumber_0 rfl (lv_at hl 0 rfl) ?_
  refine g_get F hK hP 68 (Wd_at68 G g q I0 J0 R0 L0) clX5 4 (by decide) flX5_21 rfl dX5_isNumber_1 ?_
  have w_I0_26 := rg (hvI 26 (by decide)) (0) (3) rfl rfl
  refine lv_iconst (v := 2) hx hb dX5_isNumber_4 (by decide) ?_
  refine lv_icmp_ne (tgt := 12) hx hb dX5_isNumber_5 (by decide) (fun c1 => ?_) (fun c1 => ?_)
  · have gc1 : ¬ ((I0 26).toInt = 2) := fun q0 => c1 (Int32.toInt_inj.mp q0)
    refine lv_iconst (v := 0) hx hb dX5_isNumber_12 (by decide) ?_
    rw [hQ]
    exact q_z F hr hlk () hP hD hS (show ((0 : Int) ≤ 0 ∧ 0 ≤ (1 : Int)) from by omega) dX5_isNumber_13 (Nat.le_of_ble_eq_true rfl) (Nat.le_of_ble_eq_true rfl) (nar01 (by decide))
  · have gc1 : (I0 26).toInt = 2 := congrArg Int32.toInt c1
    refine lv_iconst (v := 1) hx hb dX5_isNumber_8 (by decide) ?_
    refine lv_goto (tgt := 13) hx hb dX5_isNumber_9 (by decide) ?_
    rw [hQ]
    exact q_z F hr hlk () hP hD hS (show ((0 : Int) ≤ 1 ∧ 1 ≤ (1 : Int)) from by omega) dX5_isNumber_13 (Nat.le_of_ble_eq_true rfl) (Nat.le_of_ble_eq_true rfl) (nar01 (by decide))
set_option maxHeartbeats 4000000 in
set_option maxRecDepth 100000 in
theorem s_X2_find_Sflname (l : Launch) (G : Gx) (g q : Nat → Nat) (I0 : Nat → Int32) (J0 : Nat → Int64) (R0 : Nat → Nat → Int32) (L0 : Nat → Nat → Int64) (hvI : InvI Wd_lo Wd_hi I0) (hvR : InvR Wd_rl R0)  (p1 : Int32) (p2 : Int32) (hp1 : ((0 : Int) ≤ p1.toInt ∧ p1.toInt ≤ (5 : Int))) : CtI (S := Unit) l yX2_find cX2_find 4 (some .int) (rmD 1 0 0) G [.ref (g 45), .int p1, .int p2] (Wd G g q I0 J0 R0 L0) (fun r _ => ((-1 : Int) ≤ r.toInt ∧ r.toInt ≤ (4 : Int))) (fun _ => (Wd G g q I0 J0 R0 L0)) := by
  refine ctI_of (own := RX2) (by decide +kernel) rfl (Nat.le_of_ble_eq_true rfl) ?_
  intro p e s m below meth c A ls F hr hlk hnm hK hP hD hA hS hl
  have hx := F.1
  have hb := F.2.1
  have hown := F.2.2.2.1
  have hl : lv_has ls 4 [(0, .ref (g 45)), (1, .int p1), (2, .int p2)] := hl
  obtain ⟨Q, hQ⟩ : ∃ Q : State → Prop, Q = MQ below (va_Qi (S := Unit) (fun r _ => ((-1 : Int) ≤ r.toInt ∧ r.toInt ≤ (4 : Int))) (BX G A (fun _ => (Wd G g q I0 J0 R0 L0))) A) [.ref (g 45), .int p1, .int p2].toArray s 0 0 A := ⟨_, rfl⟩
  rw [show (MQ below (va_Qi (S := Unit) (fun r _ => ((-1 : Int) ≤ r.toInt ∧ r.toInt ≤ (4 : Int))) (BX G A (fun _ => (Wd G g q I0 J0 R0 L0))) A) [.ref (g 45), .int p1, .int p2].toArray s (rmD 1 0 0).cells (rmD 1 0 0).slots A) = Q from hQ.symm]
  have lab_2 : ∀ (k_2 : Nat) (a3_2 : Int32) (H : Heap) (locs : List Loc) (ls : Array Slot), ((5 - a3_2.toInt) < (k_2 : Int)) → ((0 : Int) ≤ a3_2.toInt ∧ a3_2.toInt ≤ (5 : Int)) → va_P G.1 vwCl (Wd G g q I0 J0 R0 L0) H → va_D A (Wd G g q I0 J0 R0 L0) → va_S A s.heap H locs → lv_has ls 4 [(0, .ref (g 45)), (1, .int p1), (2, .int p2), (3, .int a3_2)] → W p l e (rmD 1 0 0) s m [.ref (g 45), .int p1, .int p2].toArray below meth c H locs 0 0 Q (F0 m 2 ls []) := by
    intro k_2
    induction k_2 with
    | zero =>
      intro a3_2 H locs ls hm y0_2 hP hD hS hl
      exact absurd hm (by omega)
    | succ k_2 ih_2 =>
      intro a3_2 H locs ls hm y0_2 hP hD hS hl
      refine lv_iload_n hx hb dX2_find_2 rfl (lv_at hl 3 rfl) ?_
      refine lv_iload_n hx hb dX2_find_3 rfl (lv_at hl 1 rfl) ?_
      refine lv_icmp_ge (tgt := 28) hx hb dX2_find_4 (by decide) (fun c1 => ?_) (fun c1 => ?_)
      · have gc1 : p1.toInt ≤ a3_2.toInt := (tle _ _).mp c1
        refine lv_iconst (v := (-1)) hx hb dX2_find_28 (by decide) ?_
        rw [hQ]
        exact q_i F hr hlk () hP hD hS (show ((-1 : Int) ≤ (-1) ∧ (-1) ≤ (4 : Int)) from by omega) dX2_find_29 (Nat.le_of_ble_eq_true rfl) (Nat.le_of_ble_eq_true rfl)
      · have gc1 : ¬ (p1.toInt ≤ a3_2.toInt) := fun q0 => c1 ((tle _ _).mpr q0)
        refine lv_iload_n hx hb dX2_find_7 rfl (lv_at hl 3 rfl) ?_
        refine lv_aload_n hx hb dX2_find_8 rfl (lv_at hl 0 rfl) ?_
        refine g_ialen (v := 5) F hK hP 37 (Wd_at37 G g q I0 J0 R0 L0) rfl dX2_find_9 ?_
        refine lv_icmp_ge (tgt := 28) hx hb dX2_find_10 (by decide) (fun c2 => ?_) (fun c2 => ?_)
        · have gc2 : 5 ≤ a3_2.toInt := (tle _ _).mp c2
          refine lv_iconst (v := (-1)) hx hb dX2_find_28 (by decide) ?_
          rw [hQ]
          exact q_i F hr hlk () hP hD hS (show ((-1 : Int) ≤ (-1) ∧ (-1) ≤ (4 : Int)) from by omega) dX2_find_29 (Nat.le_of_ble_eq_true rfl) (Nat.le_of_ble_eq_true rfl)
        · have gc2 : ¬ (5 ≤ a3_2.toInt) := fun q0 => c2 ((tle _ _).mpr q0)
          refine lv_aload_n hx hb dX2_find_13 rfl (lv_at hl 0 rfl) ?_
          refine lv_iload_n hx hb dX2_find_14 rfl (lv_at hl 3 rfl) ?_
          refine g_iald F hK hP 37 (Wd_at37 G g q I0 J0 R0 L0) (in_of (by omega)) dX2_find_15 rfl ?_
          refine lv_topi (fun x3 ex3 => ?_)
          have gx3 : x3.toInt = (R0 29 (Int32.toNatClampNeg a3_2)).toInt := congrArg Int32.toInt (ex3)
          refine lv_iload_n hx hb dX2_find_16 rfl (lv_at hl 2 rfl) ?_
          refine lv_icmp_ne (tgt := 22) hx hb dX2_find_17 (by decide) (fun c4 => ?_) (fun c4 => ?_)
          · have gc4 : ¬ (x3.toInt = p2.toInt) := fun q0 => c4 (Int32.toInt_inj.mp q0)
            obtain ⟨x5, ex5⟩ : ∃ y : Int32, y = a3_2 + 1 := ⟨_, rfl⟩
            have fx5 : x5.toInt = a3_2.toInt + (1 : Int) := by rw [ex5]; exact t_add (by show (-2147483648 : Int) ≤ a3_2.toInt + (1 : Int); omega) (by show a3_2.toInt + (1 : Int) ≤ 2147483647; omega)
            refine lv_iinc (v := x5) (lv' := [(3, .int x5), (0, .ref (g 45)), (1, .int p1), (2, .int p2)]) hx hb dX2_find_22 hl (k := 3) rfl (by rw [ex5]; rfl) (by decide) rfl (fun ls hl => ?_)
            refine lv_goto (tgt := 2) hx hb dX2_find_25 (by decide) ?_
            exact ih_2 x5 _ _ _ (show (5 - x5.toInt) < (k_2 : Int) from by omega) (show ((0 : Int) ≤ x5.toInt ∧ x5.toInt ≤ (5 : Int)) from by omega) hP hD hS (lv_sub hl [1, 2, 3, 0] rfl)
          · have gc4 : x3.toInt = p2.toInt := congrArg Int32.toInt c4
            refine lv_iload_n hx hb dX2_find_20 rfl (lv_at hl 3 rfl) ?_
            rw [hQ]
            exact q_i F hr hlk () hP hD hS (show ((-1 : Int) ≤ a3_2.toInt ∧ a3_2.toInt ≤ (4 : Int)) from by omega) dX2_find_21 (Nat.le_of_ble_eq_true rfl) (Nat.le_of_ble_eq_true rfl)
  refine lv_iconst (v := 0) hx hb dX2_find_0 (by decide) ?_
  refine lv_istore_n (lv' := [(3, .int 0), (0, .ref (g 45)), (1, .int p1), (2, .int p2)]) hx hb dX2_find_1 rfl hl (by decide) rfl (fun ls hl => ?_)
  exact lab_2 6 0 _ _ _ (show (5 - 0) < ((6 : Nat) : Int) from by omega) (by decide) hP hD hS (lv_sub hl [1, 2, 3, 0] rfl)
set_option maxHeartbeats 4000000 in
set_option maxRecDepth 100000 in
theorem s_X2_findFloor (l : Launch) (G : Gx) (g q : Nat → Nat) (I0 : Nat → Int32) (J0 : Nat → Int64) (R0 : Nat → Nat → Int32) (L0 : Nat → Nat → Int64) (hvI : InvI Wd_lo Wd_hi I0) (hvR : InvR Wd_rl R0)  (p1 : Int32)  : CtI (S := Unit) l yX2_findFloor cX2_findFloor 2 (some .int) (rmD 2 0 0) G [.ref (g 44), .int p1] (Wd G g q I0 J0 R0 L0) (fun r _ => ((-1 : Int) ≤ r.toInt ∧ r.toInt ≤ (4 : Int))) (fun _ => (Wd G g q I0 J0 R0 L0)) := by
  refine ctI_of (own := RX2) (by decide +kernel) rfl (Nat.le_of_ble_eq_true rfl) ?_
  intro p e s m below meth c A ls F hr hlk hnm hK hP hD hA hS hl
  have hx := F.1
  have hb := F.2.1
  have hown := F.2.2.2.1
  have hl : lv_has ls 2 [(0, .ref (g 44)), (1, .int p1)] := hl
  obtain ⟨Q, hQ⟩ : ∃ Q : State → Prop, Q = MQ below (va_Qi (S := Unit) (fun r _ => ((-1 : Int) ≤ r.toInt ∧ r.toInt ≤ (4 : Int))) (BX G A (fun _ => (Wd G g q I0 J0 R0 L0))) A) [.ref (g 44), .int p1].toArray s 0 0 A := ⟨_, rfl⟩
  rw [show (MQ below (va_Qi (S := Unit) (fun r _ => ((-1 : Int) ≤ r.toInt ∧ r.toInt ≤ (4 : Int))) (BX G A (fun _ => (Wd G g q I0 J0 R0 L0))) A) [.ref (g 44), .int p1].toArray s (rmD 2 0 0).cells (rmD 2 0 0).slots A) = Q from hQ.symm]
  refine lv_aload_n hx hb dX2_findFloor_0 rfl (lv_at hl 0 rfl) ?_
  refine g_get F hK hP 33 (Wd_at33 G g q I0 J0 R0 L0) clX2 0 (by decide) flX2_12 rfl dX2_findFloor_1 ?_
  refine g_get F hK hP 34 (Wd_at34 G g q I0 J0 R0 L0) clX1 3 (by decide) flX2_81 rfl dX2_findFloor_4 ?_
  refine lv_aload_n hx hb dX2_findFloor_7 rfl (lv_at hl 0 rfl) ?_
  refine g_get F hK hP 33 (Wd_at33 G g q I0 J0 R0 L0) clX2 0 (by decide) flX2_12 rfl dX2_findFloor_8 ?_
  refine g_get F hK hP 34 (Wd_at34 G g q I0 J0 R0 L0) clX1 0 (by decide) flX2_84 rfl dX2_findFloor_11 ?_
  have w_I0_12 := rg (hvI 12 (by decide)) (0) (5) rfl rfl
  refine lv_iload_n hx hb dX2_findFloor_14 rfl (lv_at hl 1 rfl) ?_
  refine wsi (As := [.ref (g 45), .int (I0 12), .int p1]) (rest := []) (d := 1) F hK hP hD hS hA (s_X2_find_Sflname l G g q I0 J0 R0 L0 hvI hvR  ((I0 12)) p1 (show ((0 : Int) ≤ (I0 12).toInt ∧ (I0 12).toInt ≤ (5 : Int)) from by omega)) kmS_X2_find mlX2_85 ⟨(Nat.le_of_ble_eq_true rfl), (Nat.le_of_ble_eq_true rfl)⟩ hl.1 rfl (Nat.le_of_ble_eq_true rfl) dX2_findFloor_15 (fun r1 u2 H locs hwr1 hP hD hS => ?_)
  have F0r1 := hwr1
  replace F0r1 : ((-1 : Int) ≤ r1.toInt ∧ r1.toInt ≤ (4 : Int)) := F0r1
  rw [hQ]
  exact q_i F hr hlk () hP hD hS (show ((-1 : Int) ≤ r1.toInt ∧ r1.toInt ≤ (4 : Int)) from by omega) dX2_findFloor_18 (Nat.le_of_ble_eq_true rfl) (Nat.le_of_ble_eq_true rfl)
set_option maxHeartbeats 4000000 in
set_option maxRecDepth 100000 in
theorem s_X2_find_ShteamName (l : Launch) (G : Gx) (g q : Nat → Nat) (I0 : Nat → Int32) (J0 : Nat → Int64) (R0 : Nat → Nat → Int32) (L0 : Nat → Nat → Int64) (hvI : InvI Wd_lo Wd_hi I0) (hvR : InvR Wd_rl R0)  (p1 : Int32) (p2 : Int32) (hp1 : ((0 : Int) ≤ p1.toInt ∧ p1.toInt ≤ (6 : Int))) : CtI (S := Unit) l yX2_find cX2_find 4 (some .int) (rmD 1 0 0) G [.ref (g 36), .int p1, .int p2] (Wd G g q I0 J0 R0 L0) (fun r _ => ((-1 : Int) ≤ r.toInt ∧ r.toInt ≤ (5 : Int))) (fun _ => (Wd G g q I0 J0 R0 L0)) := by
  refine ctI_of (own := RX2) (by decide +kernel) rfl (Nat.le_of_ble_eq_true rfl) ?_
  intro p e s m below meth c A ls F hr hlk hnm hK hP hD hA hS hl
  have hx := F.1
  have hb := F.2.1
  have hown := F.2.2.2.1
  have hl : lv_has ls 4 [(0, .ref (g 36)), (1, .int p1), (2, .int p2)] := hl
  obtain ⟨Q, hQ⟩ : ∃ Q : State → Prop, Q = MQ below (va_Qi (S := Unit) (fun r _ => ((-1 : Int) ≤ r.toInt ∧ r.toInt ≤ (5 : Int))) (BX G A (fun _ => (Wd G g q I0 J0 R0 L0))) A) [.ref (g 36), .int p1, .int p2].toArray s 0 0 A := ⟨_, rfl⟩
  rw [show (MQ below (va_Qi (S := Unit) (fun r _ => ((-1 : Int) ≤ r.toInt ∧ r.toInt ≤ (5 : Int))) (BX G A (fun _ => (Wd G g q I0 J0 R0 L0))) A) [.ref (g 36), .int p1, .int p2].toArray s (rmD 1 0 0).cells (rmD 1 0 0).slots A) = Q from hQ.symm]
  have lab_2 : ∀ (k_2 : Nat) (a3_2 : Int32) (H : Heap) (locs : List Loc) (ls : Array Slot), ((6 - a3_2.toInt) < (k_2 : Int)) → ((0 : Int) ≤ a3_2.toInt ∧ a3_2.toInt ≤ (6 : Int)) → va_P G.1 vwCl (Wd G g q I0 J0 R0 L0) H → va_D A (Wd G g q I0 J0 R0 L0) → va_S A s.heap H locs → lv_has ls 4 [(0, .ref (g 36)), (1, .int p1), (2, .int p2), (3, .int a3_2)] → W p l e (rmD 1 0 0) s m [.ref (g 36), .int p1, .int p2].toArray below meth c H locs 0 0 Q (F0 m 2 ls []) := by
    intro k_2
    induction k_2 with
    | zero =>
      intro a3_2 H locs ls hm y0_2 hP hD hS hl
      exact absurd hm (by omega)
    | succ k_2 ih_2 =>
      intro a3_2 H locs ls hm y0_2 hP hD hS hl
      refine lv_iload_n hx hb dX2_find_2 rfl (lv_at hl 3 rfl) ?_
      refine lv_iload_n hx hb dX2_find_3 rfl (lv_at hl 1 rfl) ?_
      refine lv_icmp_ge (tgt := 28) hx hb dX2_find_4 (by decide) (fun c1 => ?_) (fun c1 => ?_)
      · have gc1 : p1.toInt ≤ a3_2.toInt := (tle _ _).mp c1
        refine lv_iconst (v := (-1)) hx hb dX2_find_28 (by decide) ?_
        rw [hQ]
        exact q_i F hr hlk () hP hD hS (show ((-1 : Int) ≤ (-1) ∧ (-1) ≤ (5 : Int)) from by omega) dX2_find_29 (Nat.le_of_ble_eq_true rfl) (Nat.le_of_ble_eq_true rfl)
      · have gc1 : ¬ (p1.toInt ≤ a3_2.toInt) := fun q0 => c1 ((tle _ _).mpr q0)
        refine lv_iload_n hx hb dX2_find_7 rfl (lv_at hl 3 rfl) ?_
        refine lv_aload_n hx hb dX2_find_8 rfl (lv_at hl 0 rfl) ?_
        refine g_ialen (v := 6) F hK hP 58 (Wd_at58 G g q I0 J0 R0 L0) rfl dX2_find_9 ?_
        refine lv_icmp_ge (tgt := 28) hx hb dX2_find_10 (by decide) (fun c2 => ?_) (fun c2 => ?_)
        · have gc2 : 6 ≤ a3_2.toInt := (tle _ _).mp c2
          refine lv_iconst (v := (-1)) hx hb dX2_find_28 (by decide) ?_
          rw [hQ]
          exact q_i F hr hlk () hP hD hS (show ((-1 : Int) ≤ (-1) ∧ (-1) ≤ (5 : Int)) from by omega) dX2_find_29 (Nat.le_of_ble_eq_true rfl) (Nat.le_of_ble_eq_true rfl)
        · have gc2 : ¬ (6 ≤ a3_2.toInt) := fun q0 => c2 ((tle _ _).mpr q0)
          refine lv_aload_n hx hb dX2_find_13 rfl (lv_at hl 0 rfl) ?_
          refine lv_iload_n hx hb dX2_find_14 rfl (lv_at hl 3 rfl) ?_
          refine g_iald F hK hP 58 (Wd_at58 G g q I0 J0 R0 L0) (in_of (by omega)) dX2_find_15 rfl ?_
          refine lv_topi (fun x3 ex3 => ?_)
          have gx3 : x3.toInt = (R0 50 (Int32.toNatClampNeg a3_2)).toInt := congrArg Int32.toInt (ex3)
          refine lv_iload_n hx hb dX2_find_16 rfl (lv_at hl 2 rfl) ?_
          refine lv_icmp_ne (tgt := 22) hx hb dX2_find_17 (by decide) (fun c4 => ?_) (fun c4 => ?_)
          · have gc4 : ¬ (x3.toInt = p2.toInt) := fun q0 => c4 (Int32.toInt_inj.mp q0)
            obtain ⟨x5, ex5⟩ : ∃ y : Int32, y = a3_2 + 1 := ⟨_, rfl⟩
            have fx5 : x5.toInt = a3_2.toInt + (1 : Int) := by rw [ex5]; exact t_add (by show (-2147483648 : Int) ≤ a3_2.toInt + (1 : Int); omega) (by show a3_2.toInt + (1 : Int) ≤ 2147483647; omega)
            refine lv_iinc (v := x5) (lv' := [(3, .int x5), (0, .ref (g 36)), (1, .int p1), (2, .int p2)]) hx hb dX2_find_22 hl (k := 3) rfl (by rw [ex5]; rfl) (by decide) rfl (fun ls hl => ?_)
            refine lv_goto (tgt := 2) hx hb dX2_find_25 (by decide) ?_
            exact ih_2 x5 _ _ _ (show (6 - x5.toInt) < (k_2 : Int) from by omega) (show ((0 : Int) ≤ x5.toInt ∧ x5.toInt ≤ (6 : Int)) from by omega) hP hD hS (lv_sub hl [1, 2, 3, 0] rfl)
          · have gc4 : x3.toInt = p2.toInt := congrArg Int32.toInt c4
            refine lv_iload_n hx hb dX2_find_20 rfl (lv_at hl 3 rfl) ?_
            rw [hQ]
            exact q_i F hr hlk () hP hD hS (show ((-1 : Int) ≤ a3_2.toInt ∧ a3_2.toInt ≤ (5 : Int)) from by omega) dX2_find_21 (Nat.le_of_ble_eq_true rfl) (Nat.le_of_ble_eq_true rfl)
  refine lv_iconst (v := 0) hx hb dX2_find_0 (by decide) ?_
  refine lv_istore_n (lv' := [(3, .int 0), (0, .ref (g 36)), (1, .int p1), (2, .int p2)]) hx hb dX2_find_1 rfl hl (by decide) rfl (fun ls hl => ?_)
  exact lab_2 7 0 _ _ _ (show (6 - 0) < ((7 : Nat) : Int) from by omega) (by decide) hP hD hS (lv_sub hl [1, 2, 3, 0] rfl)
set_option maxHeartbeats 4000000 in
set_option maxRecDepth 100000 in
theorem s_X2_findTeam (l : Launch) (G : Gx) (g q : Nat → Nat) (I0 : Nat → Int32) (J0 : Nat → Int64) (R0 : Nat → Nat → Int32) (L0 : Nat → Nat → Int64) (hvI : InvI Wd_lo Wd_hi I0) (hvR : InvR Wd_rl R0)  (p1 : Int32)  : CtI (S := Unit) l yX2_findTeam cX2_findTeam 2 (some .int) (rmD 2 0 0) G [.ref (g 44), .int p1] (Wd G g q I0 J0 R0 L0) (fun r _ => ((-1 : Int) ≤ r.toInt ∧ r.toInt ≤ (5 : Int))) (fun _ => (Wd G g q I0 J0 R0 L0)) := by
  refine ctI_of (own := RX2) (by decide +kernel) rfl (Nat.le_of_ble_eq_true rfl) ?_
  intro p e s m below meth c A ls F hr hlk hnm hK hP hD hA hS hl
  have hx := F.1
  have hb := F.2.1
  have hown := F.2.2.2.1
  have hl : lv_has ls 2 [(0, .ref (g 44)), (1, .int p1)] := hl
  obtain ⟨Q, hQ⟩ : ∃ Q : State → Prop, Q = MQ below (va_Qi (S := Unit) (fun r _ => ((-1 : Int) ≤ r.toInt ∧ r.toInt ≤ (5 : Int))) (BX G A (fun _ => (Wd G g q I0 J0 R0 L0))) A) [.ref (g 44), .int p1].toArray s 0 0 A := ⟨_, rfl⟩
  rw [show (MQ below (va_Qi (S := Unit) (fun r _ => ((-1 : Int) ≤ r.toInt ∧ r.toInt ≤ (5 : Int))) (BX G A (fun _ => (Wd G g q I0 J0 R0 L0))) A) [.ref (g 44), .int p1].toArray s (rmD 2 0 0).cells (rmD 2 0 0).slots A) = Q from hQ.symm]
  refine lv_aload_n hx hb dX2_findTeam_0 rfl (lv_at hl 0 rfl) ?_
  refine g_get F hK hP 33 (Wd_at33 G g q I0 J0 R0 L0) clX2 4 (by decide) flX2_36 rfl dX2_findTeam_1 ?_
  refine lv_aload_n hx hb dX2_findTeam_4 rfl (lv_at hl 0 rfl) ?_
  refine g_get F hK hP 33 (Wd_at33 G g q I0 J0 R0 L0) clX2 3 (by decide) flX2_32 rfl dX2_findTeam_5 ?_
  have w_I0_9 := rg (hvI 9 (by decide)) (0) (6) rfl rfl
  refine lv_iload_n hx hb dX2_findTeam_8 rfl (lv_at hl 1 rfl) ?_
  refine wsi (As := [.ref (g 36), .int (I0 9), .int p1]) (rest := []) (d := 1) F hK hP hD hS hA (s_X2_find_ShteamName l G g q I0 J0 R0 L0 hvI hvR  ((I0 9)) p1 (show ((0 : Int) ≤ (I0 9).toInt ∧ (I0 9).toInt ≤ (6 : Int)) from by omega)) kmS_X2_find mlX2_85 ⟨(Nat.le_of_ble_eq_true rfl), (Nat.le_of_ble_eq_true rfl)⟩ hl.1 rfl (Nat.le_of_ble_eq_true rfl) dX2_findTeam_9 (fun r1 u2 H locs hwr1 hP hD hS => ?_)
  have F0r1 := hwr1
  replace F0r1 : ((-1 : Int) ≤ r1.toInt ∧ r1.toInt ≤ (5 : Int)) := F0r1
  rw [hQ]
  exact q_i F hr hlk () hP hD hS (show ((-1 : Int) ≤ r1.toInt ∧ r1.toInt ≤ (5 : Int)) from by omega) dX2_findTeam_12 (Nat.le_of_ble_eq_true rfl) (Nat.le_of_ble_eq_true rfl)
set_option maxHeartbeats 4000000 in
set_option maxRecDepth 100000 in
theorem s_X2_isNamed (l : Launch) (G : Gx) (g q : Nat → Nat) (I0 : Nat → Int32) (J0 : Nat → Int64) (R0 : Nat → Nat → Int32) (L0 : Nat → Nat → Int64) (hvI : InvI Wd_lo Wd_hi I0) (hvR : InvR Wd_rl R0)  (p1 : Int32)  : CtI (S := Unit) l yX2_isNamed cX2_isNamed 2 (some .boolean) (rmD 3 0 0) G [.ref (g 44), .int p1] (Wd G g q I0 J0 R0 L0) (fun r _ => ((0 : Int) ≤ r.toInt ∧ r.toInt ≤ (1 : Int))) (fun _ => (Wd G g q I0 J0 R0 L0)) := by
  refine ctI_of (own := RX2) (by decide +kernel) rfl (Nat.le_of_ble_eq_true rfl) ?_
  intro p e s m below meth c A ls F hr hlk hnm hK hP hD hA hS hl
  have hx := F.1
  have hb := F.2.1
  have hown := F.2.2.2.1
  have hl : lv_has ls 2 [(0, .ref (g 44)), (1, .int p1)] := hl
  obtain ⟨Q, hQ⟩ : ∃ Q : State → Prop, Q = MQ below (va_Qi (S := Unit) (fun r _ => ((0 : Int) ≤ r.toInt ∧ r.toInt ≤ (1 : Int))) (BX G A (fun _ => (Wd G g q I0 J0 R0 L0))) A) [.ref (g 44), .int p1].toArray s 0 0 A := ⟨_, rfl⟩
  rw [show (MQ below (va_Qi (S := Unit) (fun r _ => ((0 : Int) ≤ r.toInt ∧ r.toInt ≤ (1 : Int))) (BX G A (fun _ => (Wd G g q I0 J0 R0 L0))) A) [.ref (g 44), .int p1].toArray s (rmD 3 0 0).cells (rmD 3 0 0).slots A) = Q from hQ.symm]
  have lab_27 : ∀  (H : Heap) (locs : List Loc) (ls : Array Slot), va_P G.1 vwCl (Wd G g q I0 J0 R0 L0) H → va_D A (Wd G g q I0 J0 R0 L0) → va_S A s.heap H locs → lv_has ls 2 [] → W p l e (rmD 3 0 0) s m [.ref (g 44), .int p1].toArray below meth c H locs 0 0 Q (F0 m 27 ls []) := by
    intro H locs ls hP hD hS hl
    refine lv_iconst (v := 1) hx hb dX2_isNamed_27 (by decide) ?_
    refine lv_goto (tgt := 32) hx hb dX2_isNamed_28 (by decide) ?_
    rw [hQ]
    exact q_z F hr hlk () hP hD hS (show ((0 : Int) ≤ 1 ∧ 1 ≤ (1 : Int)) from by omega) dX2_isNamed_32 (Nat.le_of_ble_eq_true rfl) (Nat.le_of_ble_eq_true rfl) (nar01 (by decide))
  refine lv_aload_n hx hb dX2_isNamed_0 rfl (lv_at hl 0 rfl) ?_
  refine lv_iload_n hx hb dX2_isNamed_1 rfl (lv_at hl 1 rfl) ?_
  refine wvi (As := [.int p1]) (rest := []) (b := (g 44)) (d := 2) F hK hP hD hS hA (s_X2_findFloor l G g q I0 J0 R0 L0 hvI hvR  p1 ) kmV_X2_findFloor mlX2_90 clX2 rfl 33 (Wd_at33 G g q I0 J0 R0 L0) ⟨(Nat.le_of_ble_eq_true rfl), (Nat.le_of_ble_eq_true rfl)⟩ hl.1 rfl (Nat.le_of_ble_eq_true rfl) dX2_isNamed_2 (fun r1 u2 H locs hwr1 hP hD hS => ?_)
  have F0r1 := hwr1
  replace F0r1 : ((-1 : Int) ≤ r1.toInt ∧ r1.toInt ≤ (4 : Int)) := F0r1
  refine lv_iconst (v := (-1)) hx hb dX2_isNamed_5 (by decide) ?_
  refine lv_icmp_ne (tgt := 27) hx hb dX2_isNamed_6 (by decide) (fun c3 => ?_) (fun c3 => ?_)
  · have gc3 : ¬ (r1.toInt = (-1)) := fun q0 => c3 (Int32.toInt_inj.mp q0)
    exact lab_27  _ _ _  hP hD hS (lv_sub hl [] rfl)
  · have gc3 : r1.toInt = (-1) := congrArg Int32.toInt c3
    refine lv_aload_n hx hb dX2_isNamed_9 rfl (lv_at hl 0 rfl) ?_
    refine lv_iload_n hx hb dX2_isNamed_10 rfl (lv_at hl 1 rfl) ?_
    refine wvi (As := [.int p1]) (rest := []) (b := (g 44)) (d := 2) F hK hP hD hS hA (s_X2_findTeam l G g q I0 J0 R0 L0 hvI hvR  p1 ) kmV_X2_findTeam mlX2_94 clX2 rfl 33 (Wd_at33 G g q I0 J0 R0 L0) ⟨(Nat.le_of_ble_eq_true rfl), (Nat.le_of_ble_eq_true rfl)⟩ hl.1 rfl (Nat.le_of_ble_eq_true rfl) dX2_isNamed_11 (fun r4 u5 H locs hwr4 hP hD hS => ?_)
    have F0r4 := hwr4
    replace F0r4 : ((-1 : Int) ≤ r4.toInt ∧ r4.toInt ≤ (5 : Int)) := F0r4
    refine lv_iconst (v := (-1)) hx hb dX2_isNamed_14 (by decide) ?_
    refine lv_icmp_ne (tgt := 27) hx hb dX2_isNamed_15 (by decide) (fun c6 => ?_) (fun c6 => ?_)
    · have gc6 : ¬ (r4.toInt = (-1)) := fun q0 => c6 (Int32.toInt_inj.mp q0)
      exact lab_27  _ _ _  hP hD hS (lv_sub hl [] rfl)
    · have gc6 : r4.toInt = (-1) := congrArg Int32.toInt c6
      refine lv_aload_n hx hb dX2_isNamed_18 rfl (lv_at hl 0 rfl) ?_
      refine lv_iload_n hx hb dX2_isNamed_19 rfl (lv_at hl 1 rfl) ?_
      refine wvi (As := [.int p1]) (rest := []) (b := (g 44)) (d := 2) F hK hP hD hS hA (s_X2_findPerson l G g q I0 J0 R0 L0 hvI hvR  p1 ) kmV_X2_findPerson mlX2_97 clX2 rfl 33 (Wd_at33 G g q I0 J0 R0 L0) ⟨(Nat.le_of_ble_eq_true rfl), (Nat.le_of_ble_eq_true rfl)⟩ hl.1 rfl (Nat.le_of_ble_eq_true rfl) dX2_isNamed_20 (fun r7 u8 H locs hwr7 hP hD hS => ?_)
      have F0r7 := hwr7
      replace F0r7 : ((-1 : Int) ≤ r7.toInt ∧ r7.toInt ≤ (11 : Int)) := F0r7
      refine lv_iconst (v := (-1)) hx hb dX2_isNamed_23 (by decide) ?_
      refine lv_icmp_eq (tgt := 31) hx hb dX2_isNamed_24 (by decide) (fun c9 => ?_) (fun c9 => ?_)
      · have gc9 : r7.toInt = (-1) := congrArg Int32.toInt c9
        refine lv_iconst (v := 0) hx hb dX2_isNamed_31 (by decide) ?_
        rw [hQ]
        exact q_z F hr hlk () hP hD hS (show ((0 : Int) ≤ 0 ∧ 0 ≤ (1 : Int)) from by omega) dX2_isNamed_32 (Nat.le_of_ble_eq_true rfl) (Nat.le_of_ble_eq_true rfl) (nar01 (by decide))
      · have gc9 : ¬ (r7.toInt = (-1)) := fun q0 => c9 (Int32.toInt_inj.mp q0)
        exact lab_27  _ _ _  hP hD hS (lv_sub hl [] rfl)
set_option maxHeartbeats 4000000 in
set_option maxRecDepth 100000 in
theorem s_X5_isSign (l : Launch) (G : Gx) (g q : Nat → Nat) (I0 : Nat → Int32) (J0 : Nat → Int64) (R0 : Nat → Nat → Int32) (L0 : Nat → Nat → Int64) (hvI : InvI Wd_lo Wd_hi I0) (hvR : InvR Wd_rl R0)  (p1 : Int32) (hp1 : ((37 : Int) ≤ p1.toInt ∧ p1.toInt ≤ (93 : Int))) : CtI (S := Unit) l yX5_isSign cX5_isSign 2 (some .boolean) (rmD 1 0 0) G [.ref (g 75), .int p1] (Wd G g q I0 J0 R0 L0) (fun r _ => ((0 : Int) ≤ r.toInt ∧ r.toInt ≤ (1 : Int))) (fun _ => (Wd G g q I0 J0 R0 L0)) := by
  refine ctI_of (own := RX5) (by decide +kernel) rfl (Nat.le_of_ble_eq_true rfl) ?_
  intro p e s m below meth c A ls F hr hlk hnm hK hP hD hA hS hl
  have hx := F.1
  have hb := F.2.1
  have hown := F.2.2.2.1
  have hl : lv_has ls 2 [(0, .ref (g 75)), (1, .int p1)] := hl
  obtain ⟨Q, hQ⟩ : ∃ Q : State → Prop, Q = MQ below (va_Qi (S := Unit) (fun r _ => ((0 : Int) ≤ r.toInt ∧ r.toInt ≤ (1 : Int))) (BX G A (fun _ => (Wd G g q I0 J0 R0 L0))) A) [.ref (g 75), .int p1].toArray s 0 0 A := ⟨_, rfl⟩
  rw [show (MQ below (va_Qi (S := Unit) (fun r _ => ((0 : Int) ≤ r.toInt ∧ r.toInt ≤ (1 : Int))) (BX G A (fun _ => (Wd G g q I0 J0 R0 L0))) A) [.ref (g 75), .int p1].toArray s (rmD 1 0 0).cells (rmD 1 0 0).slots A) = Q from hQ.symm]
  refine lv_aload_n hx hb dX5_isSign_0 rfl (lv_at hl 0 rfl) ?_
  refine g_get F hK hP 68 (Wd_at68 G g q I0 J0 R0 L0) clX5 4 (by decide) flX5_21 rfl dX5_isSign_1 ?_
  have w_I0_26 := rg (hvI 26 (by decide)) (0) (3) rfl rfl
  refine lv_iconst (v := 3) hx hb dX5_isSign_4 (by decide) ?_
  refine lv_icmp_ne (tgt := 20) hx hb dX5_isSign_5 (by decide) (fun c1 => ?_) (fun c1 => ?_)
  · have gc1 : ¬ ((I0 26).toInt = 3) := fun q0 => c1 (Int32.toInt_inj.mp q0)
    refine lv_iconst (v := 0) hx hb dX5_isSign_20 (by decide) ?_
    rw [hQ]
    exact q_z F hr hlk () hP hD hS (show ((0 : Int) ≤ 0 ∧ 0 ≤ (1 : Int)) from by omega) dX5_isSign_21 (Nat.le_of_ble_eq_true rfl) (Nat.le_of_ble_eq_true rfl) (nar01 (by decide))
  · have gc1 : (I0 26).toInt = 3 := congrArg Int32.toInt c1
    refine lv_aload_n hx hb dX5_isSign_8 rfl (lv_at hl 0 rfl) ?_
    refine g_get F hK hP 68 (Wd_at68 G g q I0 J0 R0 L0) clX5 5 (by decide) flX5_24 rfl dX5_isSign_9 ?_
    refine lv_iload_n hx hb dX5_isSign_12 rfl (lv_at hl 1 rfl) ?_
    refine lv_icmp_ne (tgt := 20) hx hb dX5_isSign_13 (by decide) (fun c2 => ?_) (fun c2 => ?_)
    · have gc2 : ¬ ((I0 27).toInt = p1.toInt) := fun q0 => c2 (Int32.toInt_inj.mp q0)
      refine lv_iconst (v := 0) hx hb dX5_isSign_20 (by decide) ?_
      rw [hQ]
      exact q_z F hr hlk () hP hD hS (show ((0 : Int) ≤ 0 ∧ 0 ≤ (1 : Int)) from by omega) dX5_isSign_21 (Nat.le_of_ble_eq_true rfl) (Nat.le_of_ble_eq_true rfl) (nar01 (by decide))
    · have gc2 : (I0 27).toInt = p1.toInt := congrArg Int32.toInt c2
      refine lv_iconst (v := 1) hx hb dX5_isSign_16 (by decide) ?_
      refine lv_goto (tgt := 21) hx hb dX5_isSign_17 (by decide) ?_
      rw [hQ]
      exact q_z F hr hlk () hP hD hS (show ((0 : Int) ≤ 1 ∧ 1 ≤ (1 : Int)) from by omega) dX5_isSign_21 (Nat.le_of_ble_eq_true rfl) (Nat.le_of_ble_eq_true rfl) (nar01 (by decide))
set_option maxHeartbeats 4000000 in
set_option maxRecDepth 100000 in
theorem s_X6_productKind (l : Launch) (G : Gx) (g q : Nat → Nat) (I0 : Nat → Int32) (J0 : Nat → Int64) (R0 : Nat → Nat → Int32) (L0 : Nat → Nat → Int64) (hvI : InvI Wd_lo Wd_hi I0) (hvR : InvR Wd_rl R0) (hq2 : q 2 = (g 35))   : CtI (S := Unit) l yX6_productKind cX6_productKind 1 (some .int) (rmD 2 0 0) G [.ref (g 76)] (Wd G g q I0 J0 R0 L0) (fun r _ => ((-1 : Int) ≤ r.toInt ∧ r.toInt ≤ (12 : Int))) (fun _ => (Wd G g q I0 J0 R0 L0)) := by
  refine ctI_of (own := RX6) (by decide +kernel) rfl (Nat.le_of_ble_eq_true rfl) ?_
  intro p e s m below meth c A ls F hr hlk hnm hK hP hD hA hS hl
  have hx := F.1
  have hb := F.2.1
  have hown := F.2.2.2.1
  have hl : lv_has ls 1 [(0, .ref (g 76))] := hl
  obtain ⟨Q, hQ⟩ : ∃ Q : State → Prop, Q = MQ below (va_Qi (S := Unit) (fun r _ => ((-1 : Int) ≤ r.toInt ∧ r.toInt ≤ (12 : Int))) (BX G A (fun _ => (Wd G g q I0 J0 R0 L0))) A) [.ref (g 76)].toArray s 0 0 A := ⟨_, rfl⟩
  rw [show (MQ below (va_Qi (S := Unit) (fun r _ => ((-1 : Int) ≤ r.toInt ∧ r.toInt ≤ (12 : Int))) (BX G A (fun _ => (Wd G g q I0 J0 R0 L0))) A) [.ref (g 76)].toArray s (rmD 2 0 0).cells (rmD 2 0 0).slots A) = Q from hQ.symm]
  refine lv_aload_n hx hb dX6_productKind_0 rfl (lv_at hl 0 rfl) ?_
  refine g_get F hK hP 69 (Wd_at69 G g q I0 J0 R0 L0) clX6 0 (by decide) flX6_9 rfl dX6_productKind_1 ?_
  refine lv_bipush (v := 42) hx hb dX6_productKind_4 (by decide) ?_
  refine wvi (As := [.int 42]) (rest := []) (b := (g 75)) (d := 1) F hK hP hD hS hA (s_X5_isSign l G g q I0 J0 R0 L0 hvI hvR  42 (by decide)) kmV_X5_isSign mlX6_59 clX5 rfl 68 (Wd_at68 G g q I0 J0 R0 L0) ⟨(Nat.le_of_ble_eq_true rfl), (Nat.le_of_ble_eq_true rfl)⟩ hl.1 rfl (Nat.le_of_ble_eq_true rfl) dX6_productKind_6 (fun r1 u2 H locs hwr1 hP hD hS => ?_)
  have F0r1 := hwr1
  replace F0r1 : ((0 : Int) ≤ r1.toInt ∧ r1.toInt ≤ (1 : Int)) := F0r1
  refine lv_if_eq (tgt := 15) hx hb dX6_productKind_9 (by decide) (fun c3 => ?_) (fun c3 => ?_)
  · have gc3 : r1.toInt = 0 := congrArg Int32.toInt c3
    refine lv_aload_n hx hb dX6_productKind_15 rfl (lv_at hl 0 rfl) ?_
    refine g_get F hK hP 69 (Wd_at69 G g q I0 J0 R0 L0) clX6 0 (by decide) flX6_9 rfl dX6_productKind_16 ?_
    refine lv_bipush (v := 47) hx hb dX6_productKind_19 (by decide) ?_
    refine wvi (As := [.int 47]) (rest := []) (b := (g 75)) (d := 1) F hK hP hD hS hA (s_X5_isSign l G g q I0 J0 R0 L0 hvI hvR  47 (by decide)) kmV_X5_isSign mlX6_59 clX5 rfl 68 (Wd_at68 G g q I0 J0 R0 L0) ⟨(Nat.le_of_ble_eq_true rfl), (Nat.le_of_ble_eq_true rfl)⟩ hl.1 rfl (Nat.le_of_ble_eq_true rfl) dX6_productKind_21 (fun r4 u5 H locs hwr4 hP hD hS => ?_)
    have F0r4 := hwr4
    replace F0r4 : ((0 : Int) ≤ r4.toInt ∧ r4.toInt ≤ (1 : Int)) := F0r4
    refine lv_if_eq (tgt := 30) hx hb dX6_productKind_24 (by decide) (fun c6 => ?_) (fun c6 => ?_)
    · have gc6 : r4.toInt = 0 := congrArg Int32.toInt c6
      refine lv_aload_n hx hb dX6_productKind_30 rfl (lv_at hl 0 rfl) ?_
      refine g_get F hK hP 69 (Wd_at69 G g q I0 J0 R0 L0) clX6 0 (by decide) flX6_9 rfl dX6_productKind_31 ?_
      refine lv_bipush (v := 37) hx hb dX6_productKind_34 (by decide) ?_
      refine wvi (As := [.int 37]) (rest := []) (b := (g 75)) (d := 1) F hK hP hD hS hA (s_X5_isSign l G g q I0 J0 R0 L0 hvI hvR  37 (by decide)) kmV_X5_isSign mlX6_59 clX5 rfl 68 (Wd_at68 G g q I0 J0 R0 L0) ⟨(Nat.le_of_ble_eq_true rfl), (Nat.le_of_ble_eq_true rfl)⟩ hl.1 rfl (Nat.le_of_ble_eq_true rfl) dX6_productKind_36 (fun r7 u8 H locs hwr7 hP hD hS => ?_)
      have F0r7 := hwr7
      replace F0r7 : ((0 : Int) ≤ r7.toInt ∧ r7.toInt ≤ (1 : Int)) := F0r7
      refine lv_if_eq (tgt := 47) hx hb dX6_productKind_39 (by decide) (fun c9 => ?_) (fun c9 => ?_)
      · have gc9 : r7.toInt = 0 := congrArg Int32.toInt c9
        refine lv_iconst (v := (-1)) hx hb dX6_productKind_47 (by decide) ?_
        rw [hQ]
        exact q_i F hr hlk () hP hD hS (show ((-1 : Int) ≤ (-1) ∧ (-1) ≤ (12 : Int)) from by omega) dX6_productKind_48 (Nat.le_of_ble_eq_true rfl) (Nat.le_of_ble_eq_true rfl)
      · have gc9 : ¬ (r7.toInt = 0) := fun q0 => c9 (Int32.toInt_inj.mp q0)
        refine lv_bipush (v := 12) hx hb dX6_productKind_42 (by decide) ?_
        refine lv_goto (tgt := 48) hx hb dX6_productKind_44 (by decide) ?_
        rw [hQ]
        exact q_i F hr hlk () hP hD hS (show ((-1 : Int) ≤ 12 ∧ 12 ≤ (12 : Int)) from by omega) dX6_productKind_48 (Nat.le_of_ble_eq_true rfl) (Nat.le_of_ble_eq_true rfl)
    · have gc6 : ¬ (r4.toInt = 0) := fun q0 => c6 (Int32.toInt_inj.mp q0)
      refine lv_bipush (v := 11) hx hb dX6_productKind_27 (by decide) ?_
      rw [hQ]
      exact q_i F hr hlk () hP hD hS (show ((-1 : Int) ≤ 11 ∧ 11 ≤ (12 : Int)) from by omega) dX6_productKind_29 (Nat.le_of_ble_eq_true rfl) (Nat.le_of_ble_eq_true rfl)
  · have gc3 : ¬ (r1.toInt = 0) := fun q0 => c3 (Int32.toInt_inj.mp q0)
    refine lv_bipush (v := 10) hx hb dX6_productKind_12 (by decide) ?_
    rw [hQ]
    exact q_i F hr hlk () hP hD hS (show ((-1 : Int) ≤ 10 ∧ 10 ≤ (12 : Int)) from by omega) dX6_productKind_14 (Nat.le_of_ble_eq_true rfl) (Nat.le_of_ble_eq_true rfl)
set_option maxHeartbeats 4000000 in
set_option maxRecDepth 100000 in
theorem s_X11_isPerson (l : Launch) (G : Gx) (g q : Nat → Nat) (I0 : Nat → Int32) (J0 : Nat → Int64) (R0 : Nat → Nat → Int32) (L0 : Nat → Nat → Int64) (hvI : InvI Wd_lo Wd_hi I0) (hvR : InvR Wd_rl R0) (hq3 : q 3 = (g 11)) (p1 : Int32)  : CtI (S := Unit) l yX11_isPerson cX11_isPerson 2 (some .boolean) (rmD 2 0 0) G [.ref (g 74), .int p1] (Wd G g q I0 J0 R0 L0) (fun r _ => ((0 : Int) ≤ r.toInt ∧ r.toInt ≤ (1 : Int)) ∧ (r.toInt = 1 → (0 ≤ p1.toInt ∧ p1.toInt ≤ 11))) (fun _ => (Wd G g q I0 J0 R0 L0)) := by
  refine ctI_of (own := RX11) (by decide +kernel) rfl (Nat.le_of_ble_eq_true rfl) ?_
  intro p e s m below meth c A ls F hr hlk hnm hK hP hD hA hS hl
  have hx := F.1
  have hb := F.2.1
  have hown := F.2.2.2.1
  have hl : lv_has ls 2 [(0, .ref (g 74)), (1, .int p1)] := hl
  obtain ⟨Q, hQ⟩ : ∃ Q : State → Prop, Q = MQ below (va_Qi (S := Unit) (fun r _ => ((0 : Int) ≤ r.toInt ∧ r.toInt ≤ (1 : Int)) ∧ (r.toInt = 1 → (0 ≤ p1.toInt ∧ p1.toInt ≤ 11))) (BX G A (fun _ => (Wd G g q I0 J0 R0 L0))) A) [.ref (g 74), .int p1].toArray s 0 0 A := ⟨_, rfl⟩
  rw [show (MQ below (va_Qi (S := Unit) (fun r _ => ((0 : Int) ≤ r.toInt ∧ r.toInt ≤ (1 : Int)) ∧ (r.toInt = 1 → (0 ≤ p1.toInt ∧ p1.toInt ≤ 11))) (BX G A (fun _ => (Wd G g q I0 J0 R0 L0))) A) [.ref (g 74), .int p1].toArray s (rmD 2 0 0).cells (rmD 2 0 0).slots A) = Q from hQ.symm]
  refine lv_iload_n hx hb dX11_isPerson_0 rfl (lv_at hl 1 rfl) ?_
  refine lv_aload_n hx hb dX11_isPerson_1 rfl (lv_at hl 0 rfl) ?_
  refine g_get F hK hP 66 (Wd_at66 G g q I0 J0 R0 L0) clX11 4 (by decide) flX11_43 rfl dX11_isPerson_2 ?_
  refine g_get F hK hP 70 (Wd_at70 G g q I0 J0 R0 L0) clX4 0 (by decide) flX11_121 rfl dX11_isPerson_5 ?_
  refine cst_r hq3 ?_
  refine g_get F hK hP 0 (Wd_at0 G g q I0 J0 R0 L0) clX2 1 (by decide) flX11_139 rfl dX11_isPerson_8 ?_
  refine g_get F hK hP 2 (Wd_at2 G g q I0 J0 R0 L0) clX3 0 (by decide) flX11_143 rfl dX11_isPerson_11 ?_
  have w_I0_6 := rg (hvI 6 (by decide)) (0) (12) rfl rfl
  refine w0i (As := [.int p1, .int (I0 6)]) (rest := []) (d := 1) F hK hP hD hS hA (s_X11_isBelow l G  p1 ((I0 6)) (show ((0 : Int) ≤ (I0 6).toInt ∧ (I0 6).toInt ≤ (30 : Int)) from by omega)) kmS_X11_isBelow mlX11_169 ⟨(Nat.le_of_ble_eq_true rfl), (Nat.le_of_ble_eq_true rfl)⟩ hl.1 rfl (Nat.le_of_ble_eq_true rfl) dX11_isPerson_14 (fun r1 u2 H locs hwr1 hP hD hS => ?_)
  obtain ⟨F0r1, F1r1⟩ := hwr1
  replace F0r1 : ((0 : Int) ≤ r1.toInt ∧ r1.toInt ≤ (1 : Int)) := F0r1
  replace F1r1 : (r1.toInt = 1 → (0 ≤ p1.toInt ∧ p1.toInt < (I0 6).toInt)) := F1r1
  rw [hQ]
  exact q_z F hr hlk () hP hD hS ⟨(show ((0 : Int) ≤ r1.toInt ∧ r1.toInt ≤ (1 : Int)) from by omega), (show (r1.toInt = 1 → (0 ≤ p1.toInt ∧ p1.toInt ≤ 11)) from by omega)⟩ dX11_isPerson_17 (Nat.le_of_ble_eq_true rfl) (Nat.le_of_ble_eq_true rfl) (nar01 (show ((0 : Int) ≤ r1.toInt ∧ r1.toInt ≤ (1 : Int)) from by omega))
set_option maxHeartbeats 4000000 in
set_option maxRecDepth 100000 in
theorem s_X4_metDays (l : Launch) (G : Gx) (g q : Nat → Nat) (I0 : Nat → Int32) (J0 : Nat → Int64) (R0 : Nat → Nat → Int32) (L0 : Nat → Nat → Int64) (hvI : InvI Wd_lo Wd_hi I0) (hvR : InvR Wd_rl R0) (hq3 : q 3 = (g 11)) (p1 : Int32) (hp1 : ((0 : Int) ≤ p1.toInt ∧ p1.toInt ≤ (29 : Int))) : CtI (S := Unit) l yX4_metDays cX4_metDays 2 (some .int) (rmD 2 0 0) G [.ref (g 68), .int p1] (Wd G g q I0 J0 R0 L0) (fun r _ => ((0 : Int) ≤ r.toInt ∧ r.toInt ≤ (63 : Int))) (fun _ => (Wd G g q I0 J0 R0 L0)) := by
  refine ctI_of (own := RX4) (by decide +kernel) rfl (Nat.le_of_ble_eq_true rfl) ?_
  intro p e s m below meth c A ls F hr hlk hnm hK hP hD hA hS hl
  have hx := F.1
  have hb := F.2.1
  have hown := F.2.2.2.1
  have hl : lv_has ls 2 [(0, .ref (g 68)), (1, .int p1)] := hl
  obtain ⟨Q, hQ⟩ : ∃ Q : State → Prop, Q = MQ below (va_Qi (S := Unit) (fun r _ => ((0 : Int) ≤ r.toInt ∧ r.toInt ≤ (63 : Int))) (BX G A (fun _ => (Wd G g q I0 J0 R0 L0))) A) [.ref (g 68), .int p1].toArray s 0 0 A := ⟨_, rfl⟩
  rw [show (MQ below (va_Qi (S := Unit) (fun r _ => ((0 : Int) ≤ r.toInt ∧ r.toInt ≤ (63 : Int))) (BX G A (fun _ => (Wd G g q I0 J0 R0 L0))) A) [.ref (g 68), .int p1].toArray s (rmD 2 0 0).cells (rmD 2 0 0).slots A) = Q from hQ.symm]
  refine lv_aload_n hx hb dX4_metDays_0 rfl (lv_at hl 0 rfl) ?_
  refine g_get F hK hP 70 (Wd_at70 G g q I0 J0 R0 L0) clX4 1 (by decide) flX4_9 rfl dX4_metDays_1 ?_
  refine lv_aload_n hx hb dX4_metDays_4 rfl (lv_at hl 0 rfl) ?_
  refine g_get F hK hP 70 (Wd_at70 G g q I0 J0 R0 L0) clX4 0 (by decide) flX4_28 rfl dX4_metDays_5 ?_
  refine cst_r hq3 ?_
  refine g_get F hK hP 0 (Wd_at0 G g q I0 J0 R0 L0) clX2 8 (by decide) flX4_121 rfl dX4_metDays_8 ?_
  refine lv_iload_n hx hb dX4_metDays_11 rfl (lv_at hl 1 rfl) ?_
  refine g_iald F hK hP 28 (Wd_at28 G g q I0 J0 R0 L0) (in_of (by omega)) dX4_metDays_12 rfl ?_
  refine lv_topi (fun x1 ex1 => ?_)
  have gx1 : x1.toInt = (R0 24 (Int32.toNatClampNeg p1)).toInt := congrArg Int32.toInt (ex1)
  have fx1 : ((0 : Int) ≤ x1.toInt ∧ x1.toInt ≤ (11 : Int)) := by rw [ex1]; exact hvR 24 (by decide) _ (clamp_lt (n := 30) (in_of (by omega)))
  refine g_iald F hK hP 78 (Wd_at78 G g q I0 J0 R0 L0) (in_of (by omega)) dX4_metDays_13 rfl ?_
  refine lv_topi (fun x2 ex2 => ?_)
  have gx2 : x2.toInt = (R0 62 (Int32.toNatClampNeg x1)).toInt := congrArg Int32.toInt (ex2)
  refine lv_aload_n hx hb dX4_metDays_14 rfl (lv_at hl 0 rfl) ?_
  refine g_get F hK hP 70 (Wd_at70 G g q I0 J0 R0 L0) clX4 1 (by decide) flX4_9 rfl dX4_metDays_15 ?_
  refine lv_aload_n hx hb dX4_metDays_18 rfl (lv_at hl 0 rfl) ?_
  refine g_get F hK hP 70 (Wd_at70 G g q I0 J0 R0 L0) clX4 0 (by decide) flX4_28 rfl dX4_metDays_19 ?_
  refine cst_r hq3 ?_
  refine g_get F hK hP 0 (Wd_at0 G g q I0 J0 R0 L0) clX2 9 (by decide) flX4_124 rfl dX4_metDays_22 ?_
  refine lv_iload_n hx hb dX4_metDays_25 rfl (lv_at hl 1 rfl) ?_
  refine g_iald F hK hP 29 (Wd_at29 G g q I0 J0 R0 L0) (in_of (by omega)) dX4_metDays_26 rfl ?_
  refine lv_topi (fun x3 ex3 => ?_)
  have gx3 : x3.toInt = (R0 25 (Int32.toNatClampNeg p1)).toInt := congrArg Int32.toInt (ex3)
  have fx3 : ((0 : Int) ≤ x3.toInt ∧ x3.toInt ≤ (11 : Int)) := by rw [ex3]; exact hvR 25 (by decide) _ (clamp_lt (n := 30) (in_of (by omega)))
  refine g_iald F hK hP 78 (Wd_at78 G g q I0 J0 R0 L0) (in_of (by omega)) dX4_metDays_27 rfl ?_
  refine lv_topi (fun x4 ex4 => ?_)
  have gx4 : x4.toInt = (R0 62 (Int32.toNatClampNeg x3)).toInt := congrArg Int32.toInt (ex4)
  refine lv_iand hx hb dX4_metDays_28 ?_
  refine lv_topi (fun x5 ex5 => ?_)
  refine w0i (As := [.int x5]) (rest := []) (d := 1) F hK hP hD hS hA (s_J6_bitCount_0f7a4 l G  x5 ) kmS_J6_bitCount_0f7a4 mlX4_93 ⟨(Nat.le_of_ble_eq_true rfl), (Nat.le_of_ble_eq_true rfl)⟩ hl.1 rfl (Nat.le_of_ble_eq_true rfl) dX4_metDays_29 (fun r6 u7 H locs hwr6 hP hD hS => ?_)
  have F0r6 := hwr6
  replace F0r6 : ((0 : Int) ≤ r6.toInt ∧ r6.toInt ≤ (63 : Int)) := F0r6
  rw [hQ]
  exact q_i F hr hlk () hP hD hS (show ((0 : Int) ≤ r6.toInt ∧ r6.toInt ≤ (63 : Int)) from by omega) dX4_metDays_32 (Nat.le_of_ble_eq_true rfl) (Nat.le_of_ble_eq_true rfl)
set_option maxHeartbeats 4000000 in
set_option maxRecDepth 100000 in
theorem s_X4_inWithoutOwn (l : Launch) (G : Gx) (g q : Nat → Nat) (I0 : Nat → Int32) (J0 : Nat → Int64) (R0 : Nat → Nat → Int32) (L0 : Nat → Nat → Int64) (hvI : InvI Wd_lo Wd_hi I0) (hvR : InvR Wd_rl R0) (hq3 : q 3 = (g 11)) (p1 : Int32) (hp1 : ((0 : Int) ≤ p1.toInt ∧ p1.toInt ≤ (4 : Int))) : CtI (S := Unit) l yX4_inWithoutOwn cX4_inWithoutOwn 4 (some .int) (rmD 1 0 0) G [.ref (g 68), .int p1] (Wd G g q I0 J0 R0 L0) (fun r _ => True) (fun _ => (Wd G g q I0 J0 R0 L0)) := by
  refine ctI_of (own := RX4) (by decide +kernel) rfl (Nat.le_of_ble_eq_true rfl) ?_
  intro p e s m below meth c A ls F hr hlk hnm hK hP hD hA hS hl
  have hx := F.1
  have hb := F.2.1
  have hown := F.2.2.2.1
  have hl : lv_has ls 4 [(0, .ref (g 68)), (1, .int p1)] := hl
  obtain ⟨Q, hQ⟩ : ∃ Q : State → Prop, Q = MQ below (va_Qi (S := Unit) (fun r _ => True) (BX G A (fun _ => (Wd G g q I0 J0 R0 L0))) A) [.ref (g 68), .int p1].toArray s 0 0 A := ⟨_, rfl⟩
  rw [show (MQ below (va_Qi (S := Unit) (fun r _ => True) (BX G A (fun _ => (Wd G g q I0 J0 R0 L0))) A) [.ref (g 68), .int p1].toArray s (rmD 1 0 0).cells (rmD 1 0 0).slots A) = Q from hQ.symm]
  have lab_4 : ∀ (k_4 : Nat) (a2_4 : Int32) (a3_4 : Int32) (H : Heap) (locs : List Loc) (ls : Array Slot), ((12 - a3_4.toInt) < (k_4 : Int)) → ((0 : Int) ≤ a3_4.toInt ∧ a3_4.toInt ≤ (12 : Int)) → va_P G.1 vwCl (Wd G g q I0 J0 R0 L0) H → va_D A (Wd G g q I0 J0 R0 L0) → va_S A s.heap H locs → lv_has ls 4 [(0, .ref (g 68)), (1, .int p1), (2, .int a2_4), (3, .int a3_4)] → W p l e (rmD 1 0 0) s m [.ref (g 68), .int p1].toArray below meth c H locs 0 0 Q (F0 m 4 ls []) := by
    intro k_4
    induction k_4 with
    | zero =>
      intro a2_4 a3_4 H locs ls hm y0_4 hP hD hS hl
      exact absurd hm (by omega)
    | succ k_4 ih_4 =>
      intro a2_4 a3_4 H locs ls hm y0_4 hP hD hS hl
      have lab_47 : ∀ (a2_47 : Int32) (H : Heap) (locs : List Loc) (ls : Array Slot), ((0 : Int) ≤ a3_4.toInt ∧ a3_4.toInt ≤ (11 : Int)) → va_P G.1 vwCl (Wd G g q I0 J0 R0 L0) H → va_D A (Wd G g q I0 J0 R0 L0) → va_S A s.heap H locs → lv_has ls 4 [(0, .ref (g 68)), (1, .int p1), (2, .int a2_47), (3, .int a3_4)] → W p l e (rmD 1 0 0) s m [.ref (g 68), .int p1].toArray below meth c H locs 0 0 Q (F0 m 47 ls []) := by
        intro a2_47 H locs ls y0_47 hP hD hS hl
        obtain ⟨x1, ex1⟩ : ∃ y : Int32, y = a3_4 + 1 := ⟨_, rfl⟩
        have fx1 : x1.toInt = a3_4.toInt + (1 : Int) := by rw [ex1]; exact t_add (by show (-2147483648 : Int) ≤ a3_4.toInt + (1 : Int); omega) (by show a3_4.toInt + (1 : Int) ≤ 2147483647; omega)
        refine lv_iinc (v := x1) (lv' := [(3, .int x1), (0, .ref (g 68)), (1, .int p1), (2, .int a2_47)]) hx hb dX4_inWithoutOwn_47 hl (k := 3) rfl (by rw [ex1]; rfl) (by decide) rfl (fun ls hl => ?_)
        refine lv_goto (tgt := 4) hx hb dX4_inWithoutOwn_50 (by decide) ?_
        exact ih_4 a2_47 x1 _ _ _ (show (12 - x1.toInt) < (k_4 : Int) from by omega) (show ((0 : Int) ≤ x1.toInt ∧ x1.toInt ≤ (12 : Int)) from by omega) hP hD hS (lv_sub hl [1, 2, 3, 0] rfl)
      refine lv_iload_n hx hb dX4_inWithoutOwn_4 rfl (lv_at hl 3 rfl) ?_
      refine lv_aload_n hx hb dX4_inWithoutOwn_5 rfl (lv_at hl 0 rfl) ?_
      refine g_get F hK hP 70 (Wd_at70 G g q I0 J0 R0 L0) clX4 0 (by decide) flX4_28 rfl dX4_inWithoutOwn_6 ?_
      refine cst_r hq3 ?_
      refine g_get F hK hP 0 (Wd_at0 G g q I0 J0 R0 L0) clX2 1 (by decide) flX4_39 rfl dX4_inWithoutOwn_9 ?_
      refine g_get F hK hP 2 (Wd_at2 G g q I0 J0 R0 L0) clX3 0 (by decide) flX4_45 rfl dX4_inWithoutOwn_12 ?_
      have w_I0_6 := rg (hvI 6 (by decide)) (0) (12) rfl rfl
      refine lv_icmp_ge (tgt := 53) hx hb dX4_inWithoutOwn_15 (by decide) (fun c2 => ?_) (fun c2 => ?_)
      · have gc2 : (I0 6).toInt ≤ a3_4.toInt := (tle _ _).mp c2
        refine lv_iload_n hx hb dX4_inWithoutOwn_53 rfl (lv_at hl 2 rfl) ?_
        rw [hQ]
        exact q_i F hr hlk () hP hD hS trivial dX4_inWithoutOwn_54 (Nat.le_of_ble_eq_true rfl) (Nat.le_of_ble_eq_true rfl)
      · have gc2 : ¬ ((I0 6).toInt ≤ a3_4.toInt) := fun q0 => c2 ((tle _ _).mpr q0)
        refine lv_aload_n hx hb dX4_inWithoutOwn_18 rfl (lv_at hl 0 rfl) ?_
        refine g_get F hK hP 70 (Wd_at70 G g q I0 J0 R0 L0) clX4 0 (by decide) flX4_28 rfl dX4_inWithoutOwn_19 ?_
        refine cst_r hq3 ?_
        refine g_get F hK hP 0 (Wd_at0 G g q I0 J0 R0 L0) clX2 1 (by decide) flX4_39 rfl dX4_inWithoutOwn_22 ?_
        refine g_get F hK hP 2 (Wd_at2 G g q I0 J0 R0 L0) clX3 6 (by decide) flX4_50 rfl dX4_inWithoutOwn_25 ?_
        refine lv_iload_n hx hb dX4_inWithoutOwn_28 rfl (lv_at hl 3 rfl) ?_
        refine g_iald F hK hP 14 (Wd_at14 G g q I0 J0 R0 L0) (in_of (by omega)) dX4_inWithoutOwn_29 rfl ?_
        refine lv_topi (fun x3 ex3 => ?_)
        have gx3 : x3.toInt = (R0 10 (Int32.toNatClampNeg a3_4)).toInt := congrArg Int32.toInt (ex3)
        have fx3 : ((-1 : Int) ≤ x3.toInt ∧ x3.toInt ≤ (4 : Int)) := by rw [ex3]; exact hvR 10 (by decide) _ (clamp_lt (n := 12) (in_of (by omega)))
        refine lv_iconst (v := (-1)) hx hb dX4_inWithoutOwn_30 (by decide) ?_
        refine lv_icmp_ne (tgt := 47) hx hb dX4_inWithoutOwn_31 (by decide) (fun c4 => ?_) (fun c4 => ?_)
        · have gc4 : ¬ (x3.toInt = (-1)) := fun q0 => c4 (Int32.toInt_inj.mp q0)
          exact lab_47 a2_4 _ _ _ (show ((0 : Int) ≤ a3_4.toInt ∧ a3_4.toInt ≤ (11 : Int)) from by omega) hP hD hS (lv_sub hl [0, 1, 2, 3] rfl)
        · have gc4 : x3.toInt = (-1) := congrArg Int32.toInt c4
          refine lv_iload_n hx hb dX4_inWithoutOwn_34 rfl (lv_at hl 2 rfl) ?_
          refine lv_aload_n hx hb dX4_inWithoutOwn_35 rfl (lv_at hl 0 rfl) ?_
          refine g_get F hK hP 70 (Wd_at70 G g q I0 J0 R0 L0) clX4 1 (by decide) flX4_9 rfl dX4_inWithoutOwn_36 ?_
          refine lv_iload_n hx hb dX4_inWithoutOwn_39 rfl (lv_at hl 3 rfl) ?_
          refine g_iald F hK hP 78 (Wd_at78 G g q I0 J0 R0 L0) (in_of (by omega)) dX4_inWithoutOwn_40 rfl ?_
          refine lv_topi (fun x5 ex5 => ?_)
          have gx5 : x5.toInt = (R0 62 (Int32.toNatClampNeg a3_4)).toInt := congrArg Int32.toInt (ex5)
          refine lv_iload_n hx hb dX4_inWithoutOwn_41 rfl (lv_at hl 1 rfl) ?_
          refine lv_ishr hx hb dX4_inWithoutOwn_42 ?_
          refine lv_topi (fun x6 ex6 => ?_)
          refine lv_iconst (v := 1) hx hb dX4_inWithoutOwn_43 (by decide) ?_
          refine lv_iand hx hb dX4_inWithoutOwn_44 ?_
          refine lv_topi (fun x7 ex7 => ?_)
          have fx7 : (0 : Int) ≤ x7.toInt ∧ x7.toInt ≤ (1 : Int) := by rw [ex7]; exact t_and (b := 1) (by decide)
          refine lv_iadd hx hb dX4_inWithoutOwn_45 ?_
          refine lv_topi (fun x8 ex8 => ?_)
          refine lv_istore_n (lv' := [(2, .int x8), (0, .ref (g 68)), (1, .int p1), (3, .int a3_4)]) hx hb dX4_inWithoutOwn_46 rfl hl (by decide) rfl (fun ls hl => ?_)
          exact lab_47 x8 _ _ _ (show ((0 : Int) ≤ a3_4.toInt ∧ a3_4.toInt ≤ (11 : Int)) from by omega) hP hD hS (lv_sub hl [1, 2, 0, 3] rfl)
  refine lv_iconst (v := 0) hx hb dX4_inWithoutOwn_0 (by decide) ?_
  refine lv_istore_n (lv' := [(2, .int 0), (0, .ref (g 68)), (1, .int p1)]) hx hb dX4_inWithoutOwn_1 rfl hl (by decide) rfl (fun ls hl => ?_)
  refine lv_iconst (v := 0) hx hb dX4_inWithoutOwn_2 (by decide) ?_
  refine lv_istore_n (lv' := [(3, .int 0), (2, .int 0), (0, .ref (g 68)), (1, .int p1)]) hx hb dX4_inWithoutOwn_3 rfl hl (by decide) rfl (fun ls hl => ?_)
  exact lab_4 13 0 0 _ _ _ (show (12 - 0) < ((13 : Nat) : Int) from by omega) (by decide) hP hD hS (lv_sub hl [2, 3, 1, 0] rfl)
set_option maxHeartbeats 4000000 in
set_option maxRecDepth 100000 in
theorem s_X4_standing (l : Launch) (G : Gx) (g q : Nat → Nat) (I0 : Nat → Int32) (J0 : Nat → Int64) (R0 : Nat → Nat → Int32) (L0 : Nat → Nat → Int64) (hvI : InvI Wd_lo Wd_hi I0) (hvR : InvR Wd_rl R0) (hq3 : q 3 = (g 11)) (p1 : Int32) (hp1 : ((0 : Int) ≤ p1.toInt ∧ p1.toInt ≤ (4 : Int))) : CtI (S := Unit) l yX4_standing cX4_standing 2 (some .int) (rmD 2 0 0) G [.ref (g 68), .int p1] (Wd G g q I0 J0 R0 L0) (fun r _ => ((0 : Int) ≤ r.toInt)) (fun _ => (Wd G g q I0 J0 R0 L0)) := by
  refine ctI_of (own := RX4) (by decide +kernel) rfl (Nat.le_of_ble_eq_true rfl) ?_
  intro p e s m below meth c A ls F hr hlk hnm hK hP hD hA hS hl
  have hx := F.1
  have hb := F.2.1
  have hown := F.2.2.2.1
  have hl : lv_has ls 2 [(0, .ref (g 68)), (1, .int p1)] := hl
  obtain ⟨Q, hQ⟩ : ∃ Q : State → Prop, Q = MQ below (va_Qi (S := Unit) (fun r _ => ((0 : Int) ≤ r.toInt)) (BX G A (fun _ => (Wd G g q I0 J0 R0 L0))) A) [.ref (g 68), .int p1].toArray s 0 0 A := ⟨_, rfl⟩
  rw [show (MQ below (va_Qi (S := Unit) (fun r _ => ((0 : Int) ≤ r.toInt)) (BX G A (fun _ => (Wd G g q I0 J0 R0 L0))) A) [.ref (g 68), .int p1].toArray s (rmD 2 0 0).cells (rmD 2 0 0).slots A) = Q from hQ.symm]
  refine lv_iconst (v := 0) hx hb dX4_standing_0 (by decide) ?_
  refine lv_aload_n hx hb dX4_standing_1 rfl (lv_at hl 0 rfl) ?_
  refine lv_iload_n hx hb dX4_standing_2 rfl (lv_at hl 1 rfl) ?_
  refine wvi (As := [.int p1]) (rest := [.int 0]) (b := (g 68)) (d := 1) F hK hP hD hS hA (s_X4_inWithoutOwn l G g q I0 J0 R0 L0 hvI hvR hq3 p1 (show ((0 : Int) ≤ p1.toInt ∧ p1.toInt ≤ (4 : Int)) from by omega)) kmV_X4_inWithoutOwn mlX4_53 clX4 rfl 70 (Wd_at70 G g q I0 J0 R0 L0) ⟨(Nat.le_of_ble_eq_true rfl), (Nat.le_of_ble_eq_true rfl)⟩ hl.1 rfl (Nat.le_of_ble_eq_true rfl) dX4_standing_3 (fun r1 u2 H locs hwr1 hP hD hS => ?_)
  refine lv_aload_n hx hb dX4_standing_6 rfl (lv_at hl 0 rfl) ?_
  refine g_get F hK hP 70 (Wd_at70 G g q I0 J0 R0 L0) clX4 0 (by decide) flX4_28 rfl dX4_standing_7 ?_
  refine cst_r hq3 ?_
  refine g_get F hK hP 0 (Wd_at0 G g q I0 J0 R0 L0) clX2 0 (by decide) flX4_57 rfl dX4_standing_10 ?_
  refine g_get F hK hP 1 (Wd_at1 G g q I0 J0 R0 L0) clX1 1 (by decide) flX4_61 rfl dX4_standing_13 ?_
  refine lv_aload_n hx hb dX4_standing_16 rfl (lv_at hl 0 rfl) ?_
  refine g_get F hK hP 70 (Wd_at70 G g q I0 J0 R0 L0) clX4 0 (by decide) flX4_28 rfl dX4_standing_17 ?_
  refine cst_r hq3 ?_
  refine g_get F hK hP 0 (Wd_at0 G g q I0 J0 R0 L0) clX2 0 (by decide) flX4_57 rfl dX4_standing_20 ?_
  refine g_get F hK hP 1 (Wd_at1 G g q I0 J0 R0 L0) clX1 2 (by decide) flX4_66 rfl dX4_standing_23 ?_
  refine lv_isub hx hb dX4_standing_26 ?_
  refine lv_topi (fun x3 ex3 => ?_)
  refine lv_isub hx hb dX4_standing_27 ?_
  refine lv_topi (fun x4 ex4 => ?_)
  refine va_mmax hx hb (F.2.2.1.trans hl.1.symm) hown (F.2.2.2.2 _ mmX4_max) (F.2.2.2.2 _ mms_max) (F.2.2.2.2 _ ini_J9) (F.2.2.2.2 _ mmc_max) (Nat.le_of_ble_eq_true rfl) (Nat.le_of_ble_eq_true rfl) (Nat.le_of_ble_eq_true rfl) (Nat.le_of_ble_eq_true rfl) dX4_standing_28 ?_
  refine lv_topi (fun x5 ex5 => ?_)
  have fx5 : x5.toInt = max (0) (x4.toInt) := by rw [ex5]; exact t_max _ _
  rw [hQ]
  exact q_i F hr hlk () hP hD hS (show ((0 : Int) ≤ x5.toInt) from by omega) dX4_standing_31 (Nat.le_of_ble_eq_true rfl) (Nat.le_of_ble_eq_true rfl)
set_option maxHeartbeats 4000000 in
set_option maxRecDepth 100000 in
theorem s_X11_areSets (l : Launch) (G : Gx) (g q : Nat → Nat) (I0 : Nat → Int32) (J0 : Nat → Int64) (R0 : Nat → Nat → Int32) (L0 : Nat → Nat → Int64) (hvI : InvI Wd_lo Wd_hi I0) (hvR : InvR Wd_rl R0) (hq3 : q 3 = (g 11)) (p1 : Int32) (hp1 : ((0 : Int) ≤ p1.toInt ∧ p1.toInt ≤ (1 : Int))) : CtI (S := Unit) l yX11_areSets cX11_areSets 5 (some .boolean) (rmD 1 0 0) G [.ref (g 74), .int p1] (Wd G g q I0 J0 R0 L0) (fun r _ => ((0 : Int) ≤ r.toInt ∧ r.toInt ≤ (1 : Int))) (fun _ => (Wd G g q I0 J0 R0 L0)) := by
  refine ctI_of (own := RX11) (by decide +kernel) rfl (Nat.le_of_ble_eq_true rfl) ?_
  intro p e s m below meth c A ls F hr hlk hnm hK hP hD hA hS hl
  have hx := F.1
  have hb := F.2.1
  have hown := F.2.2.2.1
  have hl : lv_has ls 5 [(0, .ref (g 74)), (1, .int p1)] := hl
  obtain ⟨Q, hQ⟩ : ∃ Q : State → Prop, Q = MQ below (va_Qi (S := Unit) (fun r _ => ((0 : Int) ≤ r.toInt ∧ r.toInt ≤ (1 : Int))) (BX G A (fun _ => (Wd G g q I0 J0 R0 L0))) A) [.ref (g 74), .int p1].toArray s 0 0 A := ⟨_, rfl⟩
  rw [show (MQ below (va_Qi (S := Unit) (fun r _ => ((0 : Int) ≤ r.toInt ∧ r.toInt ≤ (1 : Int))) (BX G A (fun _ => (Wd G g q I0 J0 R0 L0))) A) [.ref (g 74), .int p1].toArray s (rmD 1 0 0).cells (rmD 1 0 0).slots A) = Q from hQ.symm]
  have lab_16 : ∀ (k_16 : Nat) (a2_16 : Int32) (a3_16 : Int32) (H : Heap) (locs : List Loc) (ls : Array Slot), ((12 - a3_16.toInt) < (k_16 : Int)) → ((0 : Int) ≤ a2_16.toInt ∧ a2_16.toInt ≤ (12 : Int)) → ((0 : Int) ≤ a3_16.toInt ∧ a3_16.toInt ≤ (12 : Int)) → va_P G.1 vwCl (Wd G g q I0 J0 R0 L0) H → va_D A (Wd G g q I0 J0 R0 L0) → va_S A s.heap H locs → lv_has ls 5 [(0, .ref (g 74)), (1, .int p1), (2, .int a2_16), (3, .int a3_16)] → W p l e (rmD 1 0 0) s m [.ref (g 74), .int p1].toArray below meth c H locs 0 0 Q (F0 m 16 ls []) := by
    intro k_16
    induction k_16 with
    | zero =>
      intro a2_16 a3_16 H locs ls hm y0_16 y1_16 hP hD hS hl
      exact absurd hm (by omega)
    | succ k_16 ih_16 =>
      intro a2_16 a3_16 H locs ls hm y0_16 y1_16 hP hD hS hl
      refine lv_iload_n hx hb dX11_areSets_16 rfl (lv_at hl 3 rfl) ?_
      refine lv_iload_n hx hb dX11_areSets_17 rfl (lv_at hl 2 rfl) ?_
      refine lv_icmp_ge (tgt := 55) hx hb dX11_areSets_18 (by decide) (fun c1 => ?_) (fun c1 => ?_)
      · have gc1 : a2_16.toInt ≤ a3_16.toInt := (tle _ _).mp c1
        refine lv_iconst (v := 1) hx hb dX11_areSets_55 (by decide) ?_
        rw [hQ]
        exact q_z F hr hlk () hP hD hS (show ((0 : Int) ≤ 1 ∧ 1 ≤ (1 : Int)) from by omega) dX11_areSets_56 (Nat.le_of_ble_eq_true rfl) (Nat.le_of_ble_eq_true rfl) (nar01 (by decide))
      · have gc1 : ¬ (a2_16.toInt ≤ a3_16.toInt) := fun q0 => c1 ((tle _ _).mpr q0)
        refine lv_iload_n hx hb dX11_areSets_21 rfl (lv_at hl 1 rfl) ?_
        refine lv_iload_n hx hb dX11_areSets_22 rfl (lv_at hl 3 rfl) ?_
        refine lv_iadd hx hb dX11_areSets_23 ?_
        refine lv_topi (fun x2 ex2 => ?_)
        have fx2 : x2.toInt = p1.toInt + a3_16.toInt := by rw [ex2]; exact t_add (by show (-2147483648 : Int) ≤ p1.toInt + a3_16.toInt; omega) (by show p1.toInt + a3_16.toInt ≤ 2147483647; omega)
        refine lv_istore (lv' := [(4, .int x2), (0, .ref (g 74)), (1, .int p1), (2, .int a2_16), (3, .int a3_16)]) hx hb dX11_areSets_24 hl (by decide) rfl (fun ls hl => ?_)
        refine lv_iload hx hb dX11_areSets_26 (lv_at hl 0 rfl) ?_
        refine lv_aload_n hx hb dX11_areSets_28 rfl (lv_at hl 1 rfl) ?_
        refine g_get F hK hP 66 (Wd_at66 G g q I0 J0 R0 L0) clX11 1 (by decide) flX11_13 rfl dX11_areSets_29 ?_
        have w_I0_18 := rg (hvI 18 (by decide)) (0) (1800) rfl rfl
        refine lv_icmp_ge (tgt := 47) hx hb dX11_areSets_32 (by decide) (fun c3 => ?_) (fun c3 => ?_)
        · have gc3 : (I0 18).toInt ≤ x2.toInt := (tle _ _).mp c3
          refine lv_iconst (v := 0) hx hb dX11_areSets_47 (by decide) ?_
          rw [hQ]
          exact q_z F hr hlk () hP hD hS (show ((0 : Int) ≤ 0 ∧ 0 ≤ (1 : Int)) from by omega) dX11_areSets_48 (Nat.le_of_ble_eq_true rfl) (Nat.le_of_ble_eq_true rfl) (nar01 (by decide))
        · have gc3 : ¬ ((I0 18).toInt ≤ x2.toInt) := fun q0 => c3 ((tle _ _).mpr q0)
          refine lv_aload_n hx hb dX11_areSets_35 rfl (lv_at hl 1 rfl) ?_
          refine g_get F hK hP 66 (Wd_at66 G g q I0 J0 R0 L0) clX11 0 (by decide) flX11_9 rfl dX11_areSets_36 ?_
          refine lv_iload hx hb dX11_areSets_39 (lv_at hl 0 rfl) ?_
          refine g_iald F hK hP 74 (Wd_at74 G g q I0 J0 R0 L0) (in_of (by omega)) dX11_areSets_41 rfl ?_
          refine lv_topi (fun x4 ex4 => ?_)
          have gx4 : x4.toInt = (R0 58 (Int32.toNatClampNeg x2)).toInt := congrArg Int32.toInt (ex4)
          have fx4 : ((0 : Int) ≤ x4.toInt ∧ x4.toInt ≤ (255 : Int)) := by rw [ex4]; exact hvR 58 (by decide) _ (clamp_lt (n := 1800) (in_of (by omega)))
          refine lv_bipush (v := 31) hx hb dX11_areSets_42 (by decide) ?_
          refine lv_icmp_le (tgt := 49) hx hb dX11_areSets_44 (by decide) (fun c5 => ?_) (fun c5 => ?_)
          · have gc5 : x4.toInt ≤ 31 := (tle _ _).mp c5
            obtain ⟨x6, ex6⟩ : ∃ y : Int32, y = a3_16 + 1 := ⟨_, rfl⟩
            have fx6 : x6.toInt = a3_16.toInt + (1 : Int) := by rw [ex6]; exact t_add (by show (-2147483648 : Int) ≤ a3_16.toInt + (1 : Int); omega) (by show a3_16.toInt + (1 : Int) ≤ 2147483647; omega)
            refine lv_iinc (v := x6) (lv' := [(3, .int x6), (4, .int x2), (0, .ref (g 74)), (1, .int p1), (2, .int a2_16)]) hx hb dX11_areSets_49 hl (k := 4) rfl (by rw [ex6]; rfl) (by decide) rfl (fun ls hl => ?_)
            refine lv_goto (tgt := 16) hx hb dX11_areSets_52 (by decide) ?_
            exact ih_16 a2_16 x6 _ _ _ (show (12 - x6.toInt) < (k_16 : Int) from by omega) (show ((0 : Int) ≤ a2_16.toInt ∧ a2_16.toInt ≤ (12 : Int)) from by omega) (show ((0 : Int) ≤ x6.toInt ∧ x6.toInt ≤ (12 : Int)) from by omega) hP hD hS (lv_sub hl [2, 3, 4, 0] rfl)
          · have gc5 : ¬ (x4.toInt ≤ 31) := fun q0 => c5 ((tle _ _).mpr q0)
            refine lv_iconst (v := 0) hx hb dX11_areSets_47 (by decide) ?_
            rw [hQ]
            exact q_z F hr hlk () hP hD hS (show ((0 : Int) ≤ 0 ∧ 0 ≤ (1 : Int)) from by omega) dX11_areSets_48 (Nat.le_of_ble_eq_true rfl) (Nat.le_of_ble_eq_true rfl) (nar01 (by decide))
  refine lv_aload_n hx hb dX11_areSets_0 rfl (lv_at hl 0 rfl) ?_
  refine g_get F hK hP 66 (Wd_at66 G g q I0 J0 R0 L0) clX11 4 (by decide) flX11_43 rfl dX11_areSets_1 ?_
  refine g_get F hK hP 70 (Wd_at70 G g q I0 J0 R0 L0) clX4 0 (by decide) flX11_121 rfl dX11_areSets_4 ?_
  refine cst_r hq3 ?_
  refine g_get F hK hP 0 (Wd_at0 G g q I0 J0 R0 L0) clX2 1 (by decide) flX11_139 rfl dX11_areSets_7 ?_
  refine g_get F hK hP 2 (Wd_at2 G g q I0 J0 R0 L0) clX3 0 (by decide) flX11_143 rfl dX11_areSets_10 ?_
  have w_I0_6 := rg (hvI 6 (by decide)) (0) (12) rfl rfl
  refine lv_istore_n (lv' := [(2, .int (I0 6)), (0, .ref (g 74)), (1, .int p1)]) hx hb dX11_areSets_13 rfl hl (by decide) rfl (fun ls hl => ?_)
  refine lv_iconst (v := 0) hx hb dX11_areSets_14 (by decide) ?_
  refine lv_istore_n (lv' := [(3, .int 0), (2, .int (I0 6)), (0, .ref (g 74)), (1, .int p1)]) hx hb dX11_areSets_15 rfl hl (by decide) rfl (fun ls hl => ?_)
  exact lab_16 13 ((I0 6)) 0 _ _ _ (show (12 - 0) < ((13 : Nat) : Int) from by omega) (show ((0 : Int) ≤ (I0 6).toInt ∧ (I0 6).toInt ≤ (12 : Int)) from by omega) (by decide) hP hD hS (lv_sub hl [2, 3, 1, 0] rfl)
set_option maxHeartbeats 4000000 in
set_option maxRecDepth 100000 in
theorem s_X11_areTwo (l : Launch) (G : Gx) (g q : Nat → Nat) (I0 : Nat → Int32) (J0 : Nat → Int64) (R0 : Nat → Nat → Int32) (L0 : Nat → Nat → Int64) (hvI : InvI Wd_lo Wd_hi I0) (hvR : InvR Wd_rl R0) (hq3 : q 3 = (g 11)) (p1 : Int32) (p2 : Int32)  : CtI (S := Unit) l yX11_areTwo cX11_areTwo 3 (some .boolean) (rmD 3 0 0) G [.ref (g 74), .int p1, .int p2] (Wd G g q I0 J0 R0 L0) (fun r _ => ((0 : Int) ≤ r.toInt ∧ r.toInt ≤ (1 : Int)) ∧ (r.toInt = 1 → (0 ≤ p1.toInt ∧ p1.toInt ≤ 11 ∧ 0 ≤ p2.toInt ∧ p2.toInt ≤ 11))) (fun _ => (Wd G g q I0 J0 R0 L0)) := by
  refine ctI_of (own := RX11) (by decide +kernel) rfl (Nat.le_of_ble_eq_true rfl) ?_
  intro p e s m below meth c A ls F hr hlk hnm hK hP hD hA hS hl
  have hx := F.1
  have hb := F.2.1
  have hown := F.2.2.2.1
  have hl : lv_has ls 3 [(0, .ref (g 74)), (1, .int p1), (2, .int p2)] := hl
  obtain ⟨Q, hQ⟩ : ∃ Q : State → Prop, Q = MQ below (va_Qi (S := Unit) (fun r _ => ((0 : Int) ≤ r.toInt ∧ r.toInt ≤ (1 : Int)) ∧ (r.toInt = 1 → (0 ≤ p1.toInt ∧ p1.toInt ≤ 11 ∧ 0 ≤ p2.toInt ∧ p2.toInt ≤ 11))) (BX G A (fun _ => (Wd G g q I0 J0 R0 L0))) A) [.ref (g 74), .int p1, .int p2].toArray s 0 0 A := ⟨_, rfl⟩
  rw [show (MQ below (va_Qi (S := Unit) (fun r _ => ((0 : Int) ≤ r.toInt ∧ r.toInt ≤ (1 : Int)) ∧ (r.toInt = 1 → (0 ≤ p1.toInt ∧ p1.toInt ≤ 11 ∧ 0 ≤ p2.toInt ∧ p2.toInt ≤ 11))) (BX G A (fun _ => (Wd G g q I0 J0 R0 L0))) A) [.ref (g 74), .int p1, .int p2].toArray s (rmD 3 0 0).cells (rmD 3 0 0).slots A) = Q from hQ.symm]
  refine lv_aload_n hx hb dX11_areTwo_0 rfl (lv_at hl 0 rfl) ?_
  refine lv_iload_n hx hb dX11_areTwo_1 rfl (lv_at hl 1 rfl) ?_
  refine wvi (As := [.int p1]) (rest := []) (b := (g 74)) (d := 2) F hK hP hD hS hA (s_X11_isPerson l G g q I0 J0 R0 L0 hvI hvR hq3 p1 ) kmV_X11_isPerson mlX11_184 clX11 rfl 66 (Wd_at66 G g q I0 J0 R0 L0) ⟨(Nat.le_of_ble_eq_true rfl), (Nat.le_of_ble_eq_true rfl)⟩ hl.1 rfl (Nat.le_of_ble_eq_true rfl) dX11_areTwo_2 (fun r1 u2 H locs hwr1 hP hD hS => ?_)
  obtain ⟨F0r1, F1r1⟩ := hwr1
  replace F0r1 : ((0 : Int) ≤ r1.toInt ∧ r1.toInt ≤ (1 : Int)) := F0r1
  replace F1r1 : (r1.toInt = 1 → (0 ≤ p1.toInt ∧ p1.toInt ≤ 11)) := F1r1
  refine lv_if_eq (tgt := 25) hx hb dX11_areTwo_5 (by decide) (fun c3 => ?_) (fun c3 => ?_)
  · have gc3 : r1.toInt = 0 := congrArg Int32.toInt c3
    refine lv_iconst (v := 0) hx hb dX11_areTwo_25 (by decide) ?_
    rw [hQ]
    exact q_z F hr hlk () hP hD hS ⟨(show ((0 : Int) ≤ 0 ∧ 0 ≤ (1 : Int)) from by omega), (show (0 = 1 → (0 ≤ p1.toInt ∧ p1.toInt ≤ 11 ∧ 0 ≤ p2.toInt ∧ p2.toInt ≤ 11)) from by omega)⟩ dX11_areTwo_26 (Nat.le_of_ble_eq_true rfl) (Nat.le_of_ble_eq_true rfl) (nar01 (by decide))
  · have gc3 : ¬ (r1.toInt = 0) := fun q0 => c3 (Int32.toInt_inj.mp q0)
    refine lv_aload_n hx hb dX11_areTwo_8 rfl (lv_at hl 0 rfl) ?_
    refine lv_iload_n hx hb dX11_areTwo_9 rfl (lv_at hl 2 rfl) ?_
    refine wvi (As := [.int p2]) (rest := []) (b := (g 74)) (d := 2) F hK hP hD hS hA (s_X11_isPerson l G g q I0 J0 R0 L0 hvI hvR hq3 p2 ) kmV_X11_isPerson mlX11_184 clX11 rfl 66 (Wd_at66 G g q I0 J0 R0 L0) ⟨(Nat.le_of_ble_eq_true rfl), (Nat.le_of_ble_eq_true rfl)⟩ hl.1 rfl (Nat.le_of_ble_eq_true rfl) dX11_areTwo_10 (fun r4 u5 H locs hwr4 hP hD hS => ?_)
    obtain ⟨F0r4, F1r4⟩ := hwr4
    replace F0r4 : ((0 : Int) ≤ r4.toInt ∧ r4.toInt ≤ (1 : Int)) := F0r4
    replace F1r4 : (r4.toInt = 1 → (0 ≤ p2.toInt ∧ p2.toInt ≤ 11)) := F1r4
    refine lv_if_eq (tgt := 25) hx hb dX11_areTwo_13 (by decide) (fun c6 => ?_) (fun c6 => ?_)
    · have gc6 : r4.toInt = 0 := congrArg Int32.toInt c6
      refine lv_iconst (v := 0) hx hb dX11_areTwo_25 (by decide) ?_
      rw [hQ]
      exact q_z F hr hlk () hP hD hS ⟨(show ((0 : Int) ≤ 0 ∧ 0 ≤ (1 : Int)) from by omega), (show (0 = 1 → (0 ≤ p1.toInt ∧ p1.toInt ≤ 11 ∧ 0 ≤ p2.toInt ∧ p2.toInt ≤ 11)) from by omega)⟩ dX11_areTwo_26 (Nat.le_of_ble_eq_true rfl) (Nat.le_of_ble_eq_true rfl) (nar01 (by decide))
    · have gc6 : ¬ (r4.toInt = 0) := fun q0 => c6 (Int32.toInt_inj.mp q0)
      refine lv_iload_n hx hb dX11_areTwo_16 rfl (lv_at hl 1 rfl) ?_
      refine lv_iload_n hx hb dX11_areTwo_17 rfl (lv_at hl 2 rfl) ?_
      refine lv_icmp_eq (tgt := 25) hx hb dX11_areTwo_18 (by decide) (fun c7 => ?_) (fun c7 => ?_)
      · have gc7 : p1.toInt = p2.toInt := congrArg Int32.toInt c7
        refine lv_iconst (v := 0) hx hb dX11_areTwo_25 (by decide) ?_
        rw [hQ]
        exact q_z F hr hlk () hP hD hS ⟨(show ((0 : Int) ≤ 0 ∧ 0 ≤ (1 : Int)) from by omega), (show (0 = 1 → (0 ≤ p1.toInt ∧ p1.toInt ≤ 11 ∧ 0 ≤ p2.toInt ∧ p2.toInt ≤ 11)) from by omega)⟩ dX11_areTwo_26 (Nat.le_of_ble_eq_true rfl) (Nat.le_of_ble_eq_true rfl) (nar01 (by decide))
      · have gc7 : ¬ (p1.toInt = p2.toInt) := fun q0 => c7 (Int32.toInt_inj.mp q0)
        refine lv_iconst (v := 1) hx hb dX11_areTwo_21 (by decide) ?_
        refine lv_goto (tgt := 26) hx hb dX11_areTwo_22 (by decide) ?_
        rw [hQ]
        exact q_z F hr hlk () hP hD hS ⟨(show ((0 : Int) ≤ 1 ∧ 1 ≤ (1 : Int)) from by omega), (show (1 = 1 → (0 ≤ p1.toInt ∧ p1.toInt ≤ 11 ∧ 0 ≤ p2.toInt ∧ p2.toInt ≤ 11)) from by omega)⟩ dX11_areTwo_26 (Nat.le_of_ble_eq_true rfl) (Nat.le_of_ble_eq_true rfl) (nar01 (by decide))
set_option maxHeartbeats 4000000 in
set_option maxRecDepth 100000 in
theorem s_X4_commonDays_plansets (l : Launch) (G : Gx) (g q : Nat → Nat) (I0 : Nat → Int32) (J0 : Nat → Int64) (R0 : Nat → Nat → Int32) (L0 : Nat → Nat → Int64) (hvI : InvI Wd_lo Wd_hi I0) (hvR : InvR Wd_rl R0) (hq3 : q 3 = (g 11)) (p2 : Int32) (hp2 : ((0 : Int) ≤ p2.toInt ∧ p2.toInt ≤ (5 : Int))) : CtI (S := Unit) l yX4_commonDays cX4_commonDays 5 (some .int) (rmD 1 0 0) G [.ref (g 68), .ref (g 78), .int p2] (Wd G g q I0 J0 R0 L0) (fun r _ => True) (fun _ => (Wd G g q I0 J0 R0 L0)) := by
  refine ctI_of (own := RX4) (by decide +kernel) rfl (Nat.le_of_ble_eq_true rfl) ?_
  intro p e s m below meth c A ls F hr hlk hnm hK hP hD hA hS hl
  have hx := F.1
  have hb := F.2.1
  have hown := F.2.2.2.1
  have hl : lv_has ls 5 [(0, .ref (g 68)), (1, .ref (g 78)), (2, .int p2)] := hl
  obtain ⟨Q, hQ⟩ : ∃ Q : State → Prop, Q = MQ below (va_Qi (S := Unit) (fun r _ => True) (BX G A (fun _ => (Wd G g q I0 J0 R0 L0))) A) [.ref (g 68), .ref (g 78), .int p2].toArray s 0 0 A := ⟨_, rfl⟩
  rw [show (MQ below (va_Qi (S := Unit) (fun r _ => True) (BX G A (fun _ => (Wd G g q I0 J0 R0 L0))) A) [.ref (g 68), .ref (g 78), .int p2].toArray s (rmD 1 0 0).cells (rmD 1 0 0).slots A) = Q from hQ.symm]
  have lab_6 : ∀ (k_6 : Nat) (a3_6 : Int32) (a4_6 : Int32) (H : Heap) (locs : List Loc) (ls : Array Slot), ((12 - a4_6.toInt) < (k_6 : Int)) → ((0 : Int) ≤ a4_6.toInt ∧ a4_6.toInt ≤ (12 : Int)) → va_P G.1 vwCl (Wd G g q I0 J0 R0 L0) H → va_D A (Wd G g q I0 J0 R0 L0) → va_S A s.heap H locs → lv_has ls 5 [(0, .ref (g 68)), (1, .ref (g 78)), (2, .int p2), (3, .int a3_6), (4, .int a4_6)] → W p l e (rmD 1 0 0) s m [.ref (g 68), .ref (g 78), .int p2].toArray below meth c H locs 0 0 Q (F0 m 6 ls []) := by
    intro k_6
    induction k_6 with
    | zero =>
      intro a3_6 a4_6 H locs ls hm y0_6 hP hD hS hl
      exact absurd hm (by omega)
    | succ k_6 ih_6 =>
      intro a3_6 a4_6 H locs ls hm y0_6 hP hD hS hl
      have lab_45 : ∀ (a3_45 : Int32) (H : Heap) (locs : List Loc) (ls : Array Slot), ((0 : Int) ≤ a4_6.toInt ∧ a4_6.toInt ≤ (11 : Int)) → va_P G.1 vwCl (Wd G g q I0 J0 R0 L0) H → va_D A (Wd G g q I0 J0 R0 L0) → va_S A s.heap H locs → lv_has ls 5 [(0, .ref (g 68)), (1, .ref (g 78)), (2, .int p2), (3, .int a3_45), (4, .int a4_6)] → W p l e (rmD 1 0 0) s m [.ref (g 68), .ref (g 78), .int p2].toArray below meth c H locs 0 0 Q (F0 m 45 ls []) := by
        intro a3_45 H locs ls y0_45 hP hD hS hl
        obtain ⟨x1, ex1⟩ : ∃ y : Int32, y = a4_6 + 1 := ⟨_, rfl⟩
        have fx1 : x1.toInt = a4_6.toInt + (1 : Int) := by rw [ex1]; exact t_add (by show (-2147483648 : Int) ≤ a4_6.toInt + (1 : Int); omega) (by show a4_6.toInt + (1 : Int) ≤ 2147483647; omega)
        refine lv_iinc (v := x1) (lv' := [(4, .int x1), (0, .ref (g 68)), (1, .ref (g 78)), (2, .int p2), (3, .int a3_45)]) hx hb dX4_commonDays_45 hl (k := 4) rfl (by rw [ex1]; rfl) (by decide) rfl (fun ls hl => ?_)
        refine lv_goto (tgt := 6) hx hb dX4_commonDays_48 (by decide) ?_
        exact ih_6 a3_45 x1 _ _ _ (show (12 - x1.toInt) < (k_6 : Int) from by omega) (show ((0 : Int) ≤ x1.toInt ∧ x1.toInt ≤ (12 : Int)) from by omega) hP hD hS (lv_sub hl [1, 2, 3, 4, 0] rfl)
      refine lv_iload hx hb dX4_commonDays_6 (lv_at hl 4 rfl) ?_
      refine lv_aload_n hx hb dX4_commonDays_8 rfl (lv_at hl 0 rfl) ?_
      refine g_get F hK hP 70 (Wd_at70 G g q I0 J0 R0 L0) clX4 0 (by decide) flX4_28 rfl dX4_commonDays_9 ?_
      refine cst_r hq3 ?_
      refine g_get F hK hP 0 (Wd_at0 G g q I0 J0 R0 L0) clX2 1 (by decide) flX4_39 rfl dX4_commonDays_12 ?_
      refine g_get F hK hP 2 (Wd_at2 G g q I0 J0 R0 L0) clX3 0 (by decide) flX4_45 rfl dX4_commonDays_15 ?_
      have w_I0_6 := rg (hvI 6 (by decide)) (0) (12) rfl rfl
      refine lv_icmp_ge (tgt := 51) hx hb dX4_commonDays_18 (by decide) (fun c2 => ?_) (fun c2 => ?_)
      · have gc2 : (I0 6).toInt ≤ a4_6.toInt := (tle _ _).mp c2
        refine lv_iload_n hx hb dX4_commonDays_51 rfl (lv_at hl 3 rfl) ?_
        rw [hQ]
        exact q_i F hr hlk () hP hD hS trivial dX4_commonDays_52 (Nat.le_of_ble_eq_true rfl) (Nat.le_of_ble_eq_true rfl)
      · have gc2 : ¬ ((I0 6).toInt ≤ a4_6.toInt) := fun q0 => c2 ((tle _ _).mpr q0)
        refine lv_aload_n hx hb dX4_commonDays_21 rfl (lv_at hl 0 rfl) ?_
        refine g_get F hK hP 70 (Wd_at70 G g q I0 J0 R0 L0) clX4 0 (by decide) flX4_28 rfl dX4_commonDays_22 ?_
        refine cst_r hq3 ?_
        refine g_get F hK hP 0 (Wd_at0 G g q I0 J0 R0 L0) clX2 1 (by decide) flX4_39 rfl dX4_commonDays_25 ?_
        refine g_get F hK hP 2 (Wd_at2 G g q I0 J0 R0 L0) clX3 2 (by decide) flX4_118 rfl dX4_commonDays_28 ?_
        refine lv_iload hx hb dX4_commonDays_31 (lv_at hl 4 rfl) ?_
        refine g_iald F hK hP 10 (Wd_at10 G g q I0 J0 R0 L0) (in_of (by omega)) dX4_commonDays_33 rfl ?_
        refine lv_topi (fun x3 ex3 => ?_)
        have gx3 : x3.toInt = (R0 6 (Int32.toNatClampNeg a4_6)).toInt := congrArg Int32.toInt (ex3)
        have fx3 : ((0 : Int) ≤ x3.toInt ∧ x3.toInt ≤ (5 : Int)) := by rw [ex3]; exact hvR 6 (by decide) _ (clamp_lt (n := 12) (in_of (by omega)))
        refine lv_iload_n hx hb dX4_commonDays_34 rfl (lv_at hl 2 rfl) ?_
        refine lv_icmp_ne (tgt := 45) hx hb dX4_commonDays_35 (by decide) (fun c4 => ?_) (fun c4 => ?_)
        · have gc4 : ¬ (x3.toInt = p2.toInt) := fun q0 => c4 (Int32.toInt_inj.mp q0)
          exact lab_45 a3_6 _ _ _ (show ((0 : Int) ≤ a4_6.toInt ∧ a4_6.toInt ≤ (11 : Int)) from by omega) hP hD hS (lv_sub hl [0, 1, 2, 3, 4] rfl)
        · have gc4 : x3.toInt = p2.toInt := congrArg Int32.toInt c4
          refine lv_iload_n hx hb dX4_commonDays_38 rfl (lv_at hl 3 rfl) ?_
          refine lv_aload_n hx hb dX4_commonDays_39 rfl (lv_at hl 1 rfl) ?_
          refine lv_iload hx hb dX4_commonDays_40 (lv_at hl 4 rfl) ?_
          refine g_iald F hK hP 78 (Wd_at78 G g q I0 J0 R0 L0) (in_of (by omega)) dX4_commonDays_42 rfl ?_
          refine lv_topi (fun x5 ex5 => ?_)
          have gx5 : x5.toInt = (R0 62 (Int32.toNatClampNeg a4_6)).toInt := congrArg Int32.toInt (ex5)
          refine lv_iand hx hb dX4_commonDays_43 ?_
          refine lv_topi (fun x6 ex6 => ?_)
          refine lv_istore_n (lv' := [(3, .int x6), (0, .ref (g 68)), (1, .ref (g 78)), (2, .int p2), (4, .int a4_6)]) hx hb dX4_commonDays_44 rfl hl (by decide) rfl (fun ls hl => ?_)
          exact lab_45 x6 _ _ _ (show ((0 : Int) ≤ a4_6.toInt ∧ a4_6.toInt ≤ (11 : Int)) from by omega) hP hD hS (lv_sub hl [1, 2, 3, 0, 4] rfl)
  refine lv_bipush (v := 31) hx hb dX4_commonDays_0 (by decide) ?_
  refine lv_istore_n (lv' := [(3, .int 31), (0, .ref (g 68)), (1, .ref (g 78)), (2, .int p2)]) hx hb dX4_commonDays_2 rfl hl (by decide) rfl (fun ls hl => ?_)
  refine lv_iconst (v := 0) hx hb dX4_commonDays_3 (by decide) ?_
  refine lv_istore (lv' := [(4, .int 0), (3, .int 31), (0, .ref (g 68)), (1, .ref (g 78)), (2, .int p2)]) hx hb dX4_commonDays_4 hl (by decide) rfl (fun ls hl => ?_)
  exact lab_6 13 31 0 _ _ _ (show (12 - 0) < ((13 : Nat) : Int) from by omega) (by decide) hP hD hS (lv_sub hl [2, 3, 4, 1, 0] rfl)
set_option maxHeartbeats 4000000 in
set_option maxRecDepth 100000 in
theorem s_X4_inCount (l : Launch) (G : Gx) (g q : Nat → Nat) (I0 : Nat → Int32) (J0 : Nat → Int64) (R0 : Nat → Nat → Int32) (L0 : Nat → Nat → Int64) (hvI : InvI Wd_lo Wd_hi I0) (hvR : InvR Wd_rl R0) (hq3 : q 3 = (g 11)) (p1 : Int32) (hp1 : ((0 : Int) ≤ p1.toInt ∧ p1.toInt ≤ (4 : Int))) : CtI (S := Unit) l yX4_inCount cX4_inCount 4 (some .int) (rmD 1 0 0) G [.ref (g 68), .int p1] (Wd G g q I0 J0 R0 L0) (fun r _ => ((0 : Int) ≤ r.toInt ∧ r.toInt ≤ (12 : Int))) (fun _ => (Wd G g q I0 J0 R0 L0)) := by
  refine ctI_of (own := RX4) (by decide +kernel) rfl (Nat.le_of_ble_eq_true rfl) ?_
  intro p e s m below meth c A ls F hr hlk hnm hK hP hD hA hS hl
  have hx := F.1
  have hb := F.2.1
  have hown := F.2.2.2.1
  have hl : lv_has ls 4 [(0, .ref (g 68)), (1, .int p1)] := hl
  obtain ⟨Q, hQ⟩ : ∃ Q : State → Prop, Q = MQ below (va_Qi (S := Unit) (fun r _ => ((0 : Int) ≤ r.toInt ∧ r.toInt ≤ (12 : Int))) (BX G A (fun _ => (Wd G g q I0 J0 R0 L0))) A) [.ref (g 68), .int p1].toArray s 0 0 A := ⟨_, rfl⟩
  rw [show (MQ below (va_Qi (S := Unit) (fun r _ => ((0 : Int) ≤ r.toInt ∧ r.toInt ≤ (12 : Int))) (BX G A (fun _ => (Wd G g q I0 J0 R0 L0))) A) [.ref (g 68), .int p1].toArray s (rmD 1 0 0).cells (rmD 1 0 0).slots A) = Q from hQ.symm]
  have lab_4 : ∀ (k_4 : Nat) (a2_4 : Int32) (a3_4 : Int32) (H : Heap) (locs : List Loc) (ls : Array Slot), ((12 - a3_4.toInt) < (k_4 : Int)) → ((0 : Int) ≤ a3_4.toInt ∧ a3_4.toInt ≤ (12 : Int)) → (0 ≤ a2_4.toInt ∧ a2_4.toInt ≤ a3_4.toInt) → va_P G.1 vwCl (Wd G g q I0 J0 R0 L0) H → va_D A (Wd G g q I0 J0 R0 L0) → va_S A s.heap H locs → lv_has ls 4 [(0, .ref (g 68)), (1, .int p1), (2, .int a2_4), (3, .int a3_4)] → W p l e (rmD 1 0 0) s m [.ref (g 68), .int p1].toArray below meth c H locs 0 0 Q (F0 m 4 ls []) := by
    intro k_4
    induction k_4 with
    | zero =>
      intro a2_4 a3_4 H locs ls hm y0_4 z0_4 hP hD hS hl
      exact absurd hm (by omega)
    | succ k_4 ih_4 =>
      intro a2_4 a3_4 H locs ls hm y0_4 z0_4 hP hD hS hl
      refine lv_iload_n hx hb dX4_inCount_4 rfl (lv_at hl 3 rfl) ?_
      refine lv_aload_n hx hb dX4_inCount_5 rfl (lv_at hl 0 rfl) ?_
      refine g_get F hK hP 70 (Wd_at70 G g q I0 J0 R0 L0) clX4 0 (by decide) flX4_28 rfl dX4_inCount_6 ?_
      refine cst_r hq3 ?_
      refine g_get F hK hP 0 (Wd_at0 G g q I0 J0 R0 L0) clX2 1 (by decide) flX4_39 rfl dX4_inCount_9 ?_
      refine g_get F hK hP 2 (Wd_at2 G g q I0 J0 R0 L0) clX3 0 (by decide) flX4_45 rfl dX4_inCount_12 ?_
      have w_I0_6 := rg (hvI 6 (by decide)) (0) (12) rfl rfl
      refine lv_icmp_ge (tgt := 37) hx hb dX4_inCount_15 (by decide) (fun c1 => ?_) (fun c1 => ?_)
      · have gc1 : (I0 6).toInt ≤ a3_4.toInt := (tle _ _).mp c1
        refine lv_iload_n hx hb dX4_inCount_37 rfl (lv_at hl 2 rfl) ?_
        rw [hQ]
        exact q_i F hr hlk () hP hD hS (show ((0 : Int) ≤ a2_4.toInt ∧ a2_4.toInt ≤ (12 : Int)) from by omega) dX4_inCount_38 (Nat.le_of_ble_eq_true rfl) (Nat.le_of_ble_eq_true rfl)
      · have gc1 : ¬ ((I0 6).toInt ≤ a3_4.toInt) := fun q0 => c1 ((tle _ _).mpr q0)
        refine lv_iload_n hx hb dX4_inCount_18 rfl (lv_at hl 2 rfl) ?_
        refine lv_aload_n hx hb dX4_inCount_19 rfl (lv_at hl 0 rfl) ?_
        refine g_get F hK hP 70 (Wd_at70 G g q I0 J0 R0 L0) clX4 1 (by decide) flX4_9 rfl dX4_inCount_20 ?_
        refine lv_iload_n hx hb dX4_inCount_23 rfl (lv_at hl 3 rfl) ?_
        refine g_iald F hK hP 78 (Wd_at78 G g q I0 J0 R0 L0) (in_of (by omega)) dX4_inCount_24 rfl ?_
        refine lv_topi (fun x2 ex2 => ?_)
        have gx2 : x2.toInt = (R0 62 (Int32.toNatClampNeg a3_4)).toInt := congrArg Int32.toInt (ex2)
        refine lv_iload_n hx hb dX4_inCount_25 rfl (lv_at hl 1 rfl) ?_
        refine lv_ishr hx hb dX4_inCount_26 ?_
        refine lv_topi (fun x3 ex3 => ?_)
        refine lv_iconst (v := 1) hx hb dX4_inCount_27 (by decide) ?_
        refine lv_iand hx hb dX4_inCount_28 ?_
        refine lv_topi (fun x4 ex4 => ?_)
        have fx4 : (0 : Int) ≤ x4.toInt ∧ x4.toInt ≤ (1 : Int) := by rw [ex4]; exact t_and (b := 1) (by decide)
        refine lv_iadd hx hb dX4_inCount_29 ?_
        refine lv_topi (fun x5 ex5 => ?_)
        have fx5 : x5.toInt = a2_4.toInt + x4.toInt := by rw [ex5]; exact t_add (by show (-2147483648 : Int) ≤ a2_4.toInt + x4.toInt; omega) (by show a2_4.toInt + x4.toInt ≤ 2147483647; omega)
        refine lv_istore_n (lv' := [(2, .int x5), (0, .ref (g 68)), (1, .int p1), (3, .int a3_4)]) hx hb dX4_inCount_30 rfl hl (by decide) rfl (fun ls hl => ?_)
        obtain ⟨x6, ex6⟩ : ∃ y : Int32, y = a3_4 + 1 := ⟨_, rfl⟩
        have fx6 : x6.toInt = a3_4.toInt + (1 : Int) := by rw [ex6]; exact t_add (by show (-2147483648 : Int) ≤ a3_4.toInt + (1 : Int); omega) (by show a3_4.toInt + (1 : Int) ≤ 2147483647; omega)
        refine lv_iinc (v := x6) (lv' := [(3, .int x6), (2, .int x5), (0, .ref (g 68)), (1, .int p1)]) hx hb dX4_inCount_31 hl (k := 3) rfl (by rw [ex6]; rfl) (by decide) rfl (fun ls hl => ?_)
        refine lv_goto (tgt := 4) hx hb dX4_inCount_34 (by decide) ?_
        exact ih_4 x5 x6 _ _ _ (show (12 - x6.toInt) < (k_4 : Int) from by omega) (show ((0 : Int) ≤ x6.toInt ∧ x6.toInt ≤ (12 : Int)) from by omega) (show (0 ≤ x5.toInt ∧ x5.toInt ≤ x6.toInt) from by omega) hP hD hS (lv_sub hl [2, 3, 1, 0] rfl)
  refine lv_iconst (v := 0) hx hb dX4_inCount_0 (by decide) ?_
  refine lv_istore_n (lv' := [(2, .int 0), (0, .ref (g 68)), (1, .int p1)]) hx hb dX4_inCount_1 rfl hl (by decide) rfl (fun ls hl => ?_)
  refine lv_iconst (v := 0) hx hb dX4_inCount_2 (by decide) ?_
  refine lv_istore_n (lv' := [(3, .int 0), (2, .int 0), (0, .ref (g 68)), (1, .int p1)]) hx hb dX4_inCount_3 rfl hl (by decide) rfl (fun ls hl => ?_)
  exact lab_4 13 0 0 _ _ _ (show (12 - 0) < ((13 : Nat) : Int) from by omega) (by decide) (show (0 ≤ 0 ∧ 0 ≤ 0) from by omega) hP hD hS (lv_sub hl [2, 3, 1, 0] rfl)
set_option maxHeartbeats 4000000 in
set_option maxRecDepth 100000 in
theorem s_X7_given (l : Launch) (G : Gx) (g q : Nat → Nat) (I0 : Nat → Int32) (J0 : Nat → Int64) (R0 : Nat → Nat → Int32) (L0 : Nat → Nat → Int64) (hvI : InvI Wd_lo Wd_hi I0) (hvR : InvR Wd_rl R0)  (p1 : Int32) (p2 : Int32) (hp1 : ((0 : Int) ≤ p1.toInt ∧ p1.toInt ≤ (6 : Int))) : CtI (S := Unit) l yX7_given cX7_given 3 (some .int) (rmD 1 0 0) G [.ref (g 2), .int p1, .int p2] (Wd G g q I0 J0 R0 L0) (fun r _ => True) (fun _ => (Wd G g q I0 J0 R0 L0)) := by
  refine ctI_of (own := RX7) (by decide +kernel) rfl (Nat.le_of_ble_eq_true rfl) ?_
  intro p e s m below meth c A ls F hr hlk hnm hK hP hD hA hS hl
  have hx := F.1
  have hb := F.2.1
  have hown := F.2.2.2.1
  have hl : lv_has ls 3 [(0, .ref (g 2)), (1, .int p1), (2, .int p2)] := hl
  obtain ⟨Q, hQ⟩ : ∃ Q : State → Prop, Q = MQ below (va_Qi (S := Unit) (fun r _ => True) (BX G A (fun _ => (Wd G g q I0 J0 R0 L0))) A) [.ref (g 2), .int p1, .int p2].toArray s 0 0 A := ⟨_, rfl⟩
  rw [show (MQ below (va_Qi (S := Unit) (fun r _ => True) (BX G A (fun _ => (Wd G g q I0 J0 R0 L0))) A) [.ref (g 2), .int p1, .int p2].toArray s (rmD 1 0 0).cells (rmD 1 0 0).slots A) = Q from hQ.symm]
  refine lv_iload_n hx hb dX7_given_0 rfl (lv_at hl 1 rfl) ?_
  refine lv_if_ne (tgt := 6) hx hb dX7_given_1 (by decide) (fun c1 => ?_) (fun c1 => ?_)
  · have gc1 : ¬ (p1.toInt = 0) := fun q0 => c1 (Int32.toInt_inj.mp q0)
    refine lv_iload_n hx hb dX7_given_6 rfl (lv_at hl 1 rfl) ?_
    refine lv_bipush (v := 6) hx hb dX7_given_7 (by decide) ?_
    refine lv_icmp_ge (tgt := 21) hx hb dX7_given_9 (by decide) (fun c2 => ?_) (fun c2 => ?_)
    · have gc2 : 6 ≤ p1.toInt := (tle _ _).mp c2
      refine lv_iconst (v := 1) hx hb dX7_given_21 (by decide) ?_
      rw [hQ]
      exact q_i F hr hlk () hP hD hS trivial dX7_given_22 (Nat.le_of_ble_eq_true rfl) (Nat.le_of_ble_eq_true rfl)
    · have gc2 : ¬ (6 ≤ p1.toInt) := fun q0 => c2 ((tle _ _).mpr q0)
      refine lv_aload_n hx hb dX7_given_12 rfl (lv_at hl 0 rfl) ?_
      refine g_get F hK hP 3 (Wd_at3 G g q I0 J0 R0 L0) clX7 6 (by decide) flX7_31 rfl dX7_given_13 ?_
      refine lv_iload_n hx hb dX7_given_16 rfl (lv_at hl 1 rfl) ?_
      refine g_iald F hK hP 23 (Wd_at23 G g q I0 J0 R0 L0) (in_of (by omega)) dX7_given_17 rfl ?_
      refine lv_topi (fun x3 ex3 => ?_)
      have gx3 : x3.toInt = (R0 19 (Int32.toNatClampNeg p1)).toInt := congrArg Int32.toInt (ex3)
      refine lv_goto (tgt := 22) hx hb dX7_given_18 (by decide) ?_
      rw [hQ]
      exact q_i F hr hlk () hP hD hS trivial dX7_given_22 (Nat.le_of_ble_eq_true rfl) (Nat.le_of_ble_eq_true rfl)
  · have gc1 : p1.toInt = 0 := congrArg Int32.toInt c1
    refine lv_iload_n hx hb dX7_given_4 rfl (lv_at hl 2 rfl) ?_
    rw [hQ]
    exact q_i F hr hlk () hP hD hS trivial dX7_given_5 (Nat.le_of_ble_eq_true rfl) (Nat.le_of_ble_eq_true rfl)
set_option maxHeartbeats 4000000 in
set_option maxRecDepth 100000 in
theorem s_X7_limited (l : Launch) (G : Gx)  (p0 : Int64)  : CtI (S := Unit) l yX7_limited cX7_limited 2 (some .int) (rmD 1 0 0) G [.long p0] [] (fun r _ => True) (fun _ => []) := by
  refine ctI_of (own := RX7) (by decide +kernel) rfl (Nat.le_of_ble_eq_true rfl) ?_
  intro p e s m below meth c A ls F hr hlk hnm hK hP hD hA hS hl
  have hx := F.1
  have hb := F.2.1
  have hown := F.2.2.2.1
  have hl : lv_has ls 2 [(0, .long p0)] := hl
  obtain ⟨Q, hQ⟩ : ∃ Q : State → Prop, Q = MQ below (va_Qi (S := Unit) (fun r _ => True) (BX G A (fun _ => [])) A) [.long p0].toArray s 0 0 A := ⟨_, rfl⟩
  rw [show (MQ below (va_Qi (S := Unit) (fun r _ => True) (BX G A (fun _ => [])) A) [.long p0].toArray s (rmD 1 0 0).cells (rmD 1 0 0).slots A) = Q from hQ.symm]
  refine lv_lload_n hx hb dX7_limited_0 rfl (lv_at hl 0 rfl) ?_
  refine lv_ldc2 hx hb hown (F.2.2.2.2 _ clX7_66) dX7_limited_1 ?_
  refine W.lcmp hx hb dX7_limited_4 ?_
  refine lv_topi (fun x1 ex1 => ?_)
  refine lv_if_le (tgt := 11) hx hb dX7_limited_5 (by decide) (fun c2 => ?_) (fun c2 => ?_)
  · have gc2 : x1.toInt ≤ 0 := (tle _ _).mp c2
    refine lv_lload_n hx hb dX7_limited_11 rfl (lv_at hl 0 rfl) ?_
    refine lv_ldc2 hx hb hown (F.2.2.2.2 _ clX7_69) dX7_limited_12 ?_
    refine W.lcmp hx hb dX7_limited_15 ?_
    refine lv_topi (fun x3 ex3 => ?_)
    refine lv_if_ge (tgt := 24) hx hb dX7_limited_16 (by decide) (fun c4 => ?_) (fun c4 => ?_)
    · have gc4 : 0 ≤ x3.toInt := (tle _ _).mp c4
      refine lv_lload_n hx hb dX7_limited_24 rfl (lv_at hl 0 rfl) ?_
      obtain ⟨x5, ex5⟩ : ∃ y : Int32, (p0 : Int64).toInt32 = y := ⟨_, rfl⟩
      refine lv_l2i (v := x5) hx hb dX7_limited_25 ex5 ?_
      rw [hQ]
      exact q_i F hr hlk () hP hD hS trivial dX7_limited_26 (Nat.le_of_ble_eq_true rfl) (Nat.le_of_ble_eq_true rfl)
    · have gc4 : ¬ (0 ≤ x3.toInt) := fun q0 => c4 ((tle _ _).mpr q0)
      refine lv_ldc hx hb hown (F.2.2.2.2 _ cnX7_71) dX7_limited_19 ?_
      refine lv_goto (tgt := 26) hx hb dX7_limited_21 (by decide) ?_
      rw [hQ]
      exact q_i F hr hlk () hP hD hS trivial dX7_limited_26 (Nat.le_of_ble_eq_true rfl) (Nat.le_of_ble_eq_true rfl)
  · have gc2 : ¬ (x1.toInt ≤ 0) := fun q0 => c2 ((tle _ _).mpr q0)
    refine lv_ldc hx hb hown (F.2.2.2.2 _ cnX7_68) dX7_limited_8 ?_
    rw [hQ]
    exact q_i F hr hlk () hP hD hS trivial dX7_limited_10 (Nat.le_of_ble_eq_true rfl) (Nat.le_of_ble_eq_true rfl)
set_option maxHeartbeats 4000000 in
set_option maxRecDepth 100000 in
theorem s_X7_joined (l : Launch) (G : Gx)  (p0 : Int32) (p1 : Int32) (p2 : Int32) (hp0 : ((8 : Int) ≤ p0.toInt ∧ p0.toInt ≤ (31 : Int))) : CtI (S := Unit) l yX7_joined cX7_joined 3 (some .int) (rmD 2 0 0) G [.int p0, .int p1, .int p2] [] (fun r _ => True) (fun _ => []) := by
  refine ctI_of (own := RX7) (by decide +kernel) rfl (Nat.le_of_ble_eq_true rfl) ?_
  intro p e s m below meth c A ls F hr hlk hnm hK hP hD hA hS hl
  have hx := F.1
  have hb := F.2.1
  have hown := F.2.2.2.1
  have hl : lv_has ls 3 [(0, .int p0), (1, .int p1), (2, .int p2)] := hl
  obtain ⟨Q, hQ⟩ : ∃ Q : State → Prop, Q = MQ below (va_Qi (S := Unit) (fun r _ => True) (BX G A (fun _ => [])) A) [.int p0, .int p1, .int p2].toArray s 0 0 A := ⟨_, rfl⟩
  rw [show (MQ below (va_Qi (S := Unit) (fun r _ => True) (BX G A (fun _ => [])) A) [.int p0, .int p1, .int p2].toArray s (rmD 2 0 0).cells (rmD 2 0 0).slots A) = Q from hQ.symm]
  refine lv_iload_n hx hb dX7_joined_0 rfl (lv_at hl 0 rfl) ?_
  by_cases h1 : p0 = 8
  · have gh1 : p0.toInt = 8 := congrArg Int32.toInt h1
    refine cst_i h1 ?_
    refine lv_tableIn (off := 59) (tgt := 60) hx hb dX7_joined_1 (by decide) (by decide) rfl (by decide) ?_
    refine lv_iload_n hx hb dX7_joined_60 rfl (lv_at hl 1 rfl) ?_
    obtain ⟨x2, ex2⟩ : ∃ y : Int64, (p1 : Int32).toInt64 = y := ⟨_, rfl⟩
    refine lv_i2l (v := x2) hx hb dX7_joined_61 ex2 ?_
    refine lv_iload_n hx hb dX7_joined_62 rfl (lv_at hl 2 rfl) ?_
    obtain ⟨x3, ex3⟩ : ∃ y : Int64, (p2 : Int32).toInt64 = y := ⟨_, rfl⟩
    refine lv_i2l (v := x3) hx hb dX7_joined_63 ex3 ?_
    refine lv_ladd hx hb dX7_joined_64 ?_
    refine lv_topl (fun x4 ex4 => ?_)
    refine w0i (As := [.long x4]) (rest := []) (d := 1) F hK hP hD hS hA (s_X7_limited l G  x4 ) kmS_X7_limited mlX7_48 ⟨(Nat.le_of_ble_eq_true rfl), (Nat.le_of_ble_eq_true rfl)⟩ hl.1 rfl (Nat.le_of_ble_eq_true rfl) dX7_joined_65 (fun r5 u6 H locs hwr5 hP hD hS => ?_)
    rw [hQ]
    exact q_i F hr hlk () hP hD hS trivial dX7_joined_68 (Nat.le_of_ble_eq_true rfl) (Nat.le_of_ble_eq_true rfl)
  by_cases h7 : p0 = 9
  · have gh7 : p0.toInt = 9 := congrArg Int32.toInt h7
    refine cst_i h7 ?_
    refine lv_tableIn (off := 68) (tgt := 69) hx hb dX7_joined_1 (by decide) (by decide) rfl (by decide) ?_
    refine lv_iload_n hx hb dX7_joined_69 rfl (lv_at hl 1 rfl) ?_
    obtain ⟨x8, ex8⟩ : ∃ y : Int64, (p1 : Int32).toInt64 = y := ⟨_, rfl⟩
    refine lv_i2l (v := x8) hx hb dX7_joined_70 ex8 ?_
    refine lv_iload_n hx hb dX7_joined_71 rfl (lv_at hl 2 rfl) ?_
    obtain ⟨x9, ex9⟩ : ∃ y : Int64, (p2 : Int32).toInt64 = y := ⟨_, rfl⟩
    refine lv_i2l (v := x9) hx hb dX7_joined_72 ex9 ?_
    refine lv_lsub hx hb dX7_joined_73 ?_
    refine lv_topl (fun x10 ex10 => ?_)
    refine w0i (As := [.long x10]) (rest := []) (d := 1) F hK hP hD hS hA (s_X7_limited l G  x10 ) kmS_X7_limited mlX7_48 ⟨(Nat.le_of_ble_eq_true rfl), (Nat.le_of_ble_eq_true rfl)⟩ hl.1 rfl (Nat.le_of_ble_eq_true rfl) dX7_joined_74 (fun r11 u12 H locs hwr11 hP hD hS => ?_)
    rw [hQ]
    exact q_i F hr hlk () hP hD hS trivial dX7_joined_77 (Nat.le_of_ble_eq_true rfl) (Nat.le_of_ble_eq_true rfl)
  by_cases h13 : p0 = 10
  · have gh13 : p0.toInt = 10 := congrArg Int32.toInt h13
    refine cst_i h13 ?_
    refine lv_tableIn (off := 77) (tgt := 78) hx hb dX7_joined_1 (by decide) (by decide) rfl (by decide) ?_
    refine lv_iload_n hx hb dX7_joined_78 rfl (lv_at hl 1 rfl) ?_
    obtain ⟨x14, ex14⟩ : ∃ y : Int64, (p1 : Int32).toInt64 = y := ⟨_, rfl⟩
    refine lv_i2l (v := x14) hx hb dX7_joined_79 ex14 ?_
    refine lv_iload_n hx hb dX7_joined_80 rfl (lv_at hl 2 rfl) ?_
    obtain ⟨x15, ex15⟩ : ∃ y : Int64, (p2 : Int32).toInt64 = y := ⟨_, rfl⟩
    refine lv_i2l (v := x15) hx hb dX7_joined_81 ex15 ?_
    refine lv_lmul hx hb dX7_joined_82 ?_
    refine lv_topl (fun x16 ex16 => ?_)
    refine w0i (As := [.long x16]) (rest := []) (d := 1) F hK hP hD hS hA (s_X7_limited l G  x16 ) kmS_X7_limited mlX7_48 ⟨(Nat.le_of_ble_eq_true rfl), (Nat.le_of_ble_eq_true rfl)⟩ hl.1 rfl (Nat.le_of_ble_eq_true rfl) dX7_joined_83 (fun r17 u18 H locs hwr17 hP hD hS => ?_)
    rw [hQ]
    exact q_i F hr hlk () hP hD hS trivial dX7_joined_86 (Nat.le_of_ble_eq_true rfl) (Nat.le_of_ble_eq_true rfl)
  by_cases h19 : p0 = 11
  · have gh19 : p0.toInt = 11 := congrArg Int32.toInt h19
    refine cst_i h19 ?_
    refine lv_tableIn (off := 86) (tgt := 87) hx hb dX7_joined_1 (by decide) (by decide) rfl (by decide) ?_
    refine lv_iload_n hx hb dX7_joined_87 rfl (lv_at hl 2 rfl) ?_
    refine lv_if_ne (tgt := 95) hx hb dX7_joined_88 (by decide) (fun c20 => ?_) (fun c20 => ?_)
    · have gc20 : ¬ (p2.toInt = 0) := fun q0 => c20 (Int32.toInt_inj.mp q0)
      refine lv_iload_n hx hb dX7_joined_95 rfl (lv_at hl 1 rfl) ?_
      refine lv_iload_n hx hb dX7_joined_96 rfl (lv_at hl 2 rfl) ?_
      refine w0i (As := [.int p1, .int p2]) (rest := []) (d := 1) F hK hP hD hS hA (s_J9_floorDiv_7cf53 l G  p1 p2 (by omega)) kmS_J9_floorDiv_7cf53 mlX7_52 ⟨(Nat.le_of_ble_eq_true rfl), (Nat.le_of_ble_eq_true rfl)⟩ hl.1 rfl (Nat.le_of_ble_eq_true rfl) dX7_joined_97 (fun r21 u22 H locs hwr21 hP hD hS => ?_)
      rw [hQ]
      exact q_i F hr hlk () hP hD hS trivial dX7_joined_100 (Nat.le_of_ble_eq_true rfl) (Nat.le_of_ble_eq_true rfl)
    · have gc20 : p2.toInt = 0 := congrArg Int32.toInt c20
      refine lv_iconst (v := 0) hx hb dX7_joined_91 (by decide) ?_
      refine lv_goto (tgt := 100) hx hb dX7_joined_92 (by decide) ?_
      rw [hQ]
      exact q_i F hr hlk () hP hD hS trivial dX7_joined_100 (Nat.le_of_ble_eq_true rfl) (Nat.le_of_ble_eq_true rfl)
  by_cases h23 : p0 = 12
  · have gh23 : p0.toInt = 12 := congrArg Int32.toInt h23
    refine cst_i h23 ?_
    refine lv_tableIn (off := 100) (tgt := 101) hx hb dX7_joined_1 (by decide) (by decide) rfl (by decide) ?_
    refine lv_iload_n hx hb dX7_joined_101 rfl (lv_at hl 2 rfl) ?_
    refine lv_if_ne (tgt := 109) hx hb dX7_joined_102 (by decide) (fun c24 => ?_) (fun c24 => ?_)
    · have gc24 : ¬ (p2.toInt = 0) := fun q0 => c24 (Int32.toInt_inj.mp q0)
      refine lv_iload_n hx hb dX7_joined_109 rfl (lv_at hl 1 rfl) ?_
      refine lv_iload_n hx hb dX7_joined_110 rfl (lv_at hl 2 rfl) ?_
      refine w0i (As := [.int p1, .int p2]) (rest := []) (d := 1) F hK hP hD hS hA (s_J9_floorMod_7cf53 l G  p1 p2 (by omega)) kmS_J9_floorMod_7cf53 mlX7_57 ⟨(Nat.le_of_ble_eq_true rfl), (Nat.le_of_ble_eq_true rfl)⟩ hl.1 rfl (Nat.le_of_ble_eq_true rfl) dX7_joined_111 (fun r25 u26 H locs hwr25 hP hD hS => ?_)
      rw [hQ]
      exact q_i F hr hlk () hP hD hS trivial dX7_joined_114 (Nat.le_of_ble_eq_true rfl) (Nat.le_of_ble_eq_true rfl)
    · have gc24 : p2.toInt = 0 := congrArg Int32.toInt c24
      refine lv_iconst (v := 0) hx hb dX7_joined_105 (by decide) ?_
      refine lv_goto (tgt := 114) hx hb dX7_joined_106 (by decide) ?_
      rw [hQ]
      exact q_i F hr hlk () hP hD hS trivial dX7_joined_114 (Nat.le_of_ble_eq_true rfl) (Nat.le_of_ble_eq_true rfl)
  by_cases h27 : p0 = 13
  · have gh27 : p0.toInt = 13 := congrArg Int32.toInt h27
    refine cst_i h27 ?_
    refine lv_tableIn (off := 114) (tgt := 115) hx hb dX7_joined_1 (by decide) (by decide) rfl (by decide) ?_
    refine lv_iload_n hx hb dX7_joined_115 rfl (lv_at hl 1 rfl) ?_
    refine lv_iload_n hx hb dX7_joined_116 rfl (lv_at hl 2 rfl) ?_
    refine va_mmin hx hb (F.2.2.1.trans hl.1.symm) hown (F.2.2.2.2 _ mmX7_min) (F.2.2.2.2 _ mms_min) (F.2.2.2.2 _ ini_J9) (F.2.2.2.2 _ mmc_min) (Nat.le_of_ble_eq_true rfl) (Nat.le_of_ble_eq_true rfl) (Nat.le_of_ble_eq_true rfl) (Nat.le_of_ble_eq_true rfl) dX7_joined_117 ?_
    refine lv_topi (fun x28 ex28 => ?_)
    have fx28 : x28.toInt = min (p1.toInt) (p2.toInt) := by rw [ex28]; exact t_min _ _
    rw [hQ]
    exact q_i F hr hlk () hP hD hS trivial dX7_joined_120 (Nat.le_of_ble_eq_true rfl) (Nat.le_of_ble_eq_true rfl)
  by_cases h29 : p0 = 14
  · have gh29 : p0.toInt = 14 := congrArg Int32.toInt h29
    refine cst_i h29 ?_
    refine lv_tableIn (off := 120) (tgt := 121) hx hb dX7_joined_1 (by decide) (by decide) rfl (by decide) ?_
    refine lv_iload_n hx hb dX7_joined_121 rfl (lv_at hl 1 rfl) ?_
    refine lv_iload_n hx hb dX7_joined_122 rfl (lv_at hl 2 rfl) ?_
    refine va_mmax hx hb (F.2.2.1.trans hl.1.symm) hown (F.2.2.2.2 _ mmX7_max) (F.2.2.2.2 _ mms_max) (F.2.2.2.2 _ ini_J9) (F.2.2.2.2 _ mmc_max) (Nat.le_of_ble_eq_true rfl) (Nat.le_of_ble_eq_true rfl) (Nat.le_of_ble_eq_true rfl) (Nat.le_of_ble_eq_true rfl) dX7_joined_123 ?_
    refine lv_topi (fun x30 ex30 => ?_)
    have fx30 : x30.toInt = max (p1.toInt) (p2.toInt) := by rw [ex30]; exact t_max _ _
    rw [hQ]
    exact q_i F hr hlk () hP hD hS trivial dX7_joined_126 (Nat.le_of_ble_eq_true rfl) (Nat.le_of_ble_eq_true rfl)
  by_cases h31 : p0 = 15
  · have gh31 : p0.toInt = 15 := congrArg Int32.toInt h31
    refine cst_i h31 ?_
    refine lv_tableIn (off := 126) (tgt := 127) hx hb dX7_joined_1 (by decide) (by decide) rfl (by decide) ?_
    refine lv_iload_n hx hb dX7_joined_127 rfl (lv_at hl 1 rfl) ?_
    refine lv_iload_n hx hb dX7_joined_128 rfl (lv_at hl 2 rfl) ?_
    refine lv_icmp_ge (tgt := 136) hx hb dX7_joined_129 (by decide) (fun c32 => ?_) (fun c32 => ?_)
    · have gc32 : p2.toInt ≤ p1.toInt := (tle _ _).mp c32
      refine lv_iconst (v := 0) hx hb dX7_joined_136 (by decide) ?_
      rw [hQ]
      exact q_i F hr hlk () hP hD hS trivial dX7_joined_137 (Nat.le_of_ble_eq_true rfl) (Nat.le_of_ble_eq_true rfl)
    · have gc32 : ¬ (p2.toInt ≤ p1.toInt) := fun q0 => c32 ((tle _ _).mpr q0)
      refine lv_iconst (v := 1) hx hb dX7_joined_132 (by decide) ?_
      refine lv_goto (tgt := 137) hx hb dX7_joined_133 (by decide) ?_
      rw [hQ]
      exact q_i F hr hlk () hP hD hS trivial dX7_joined_137 (Nat.le_of_ble_eq_true rfl) (Nat.le_of_ble_eq_true rfl)
  by_cases h33 : p0 = 16
  · have gh33 : p0.toInt = 16 := congrArg Int32.toInt h33
    refine cst_i h33 ?_
    refine lv_tableIn (off := 137) (tgt := 138) hx hb dX7_joined_1 (by decide) (by decide) rfl (by decide) ?_
    refine lv_iload_n hx hb dX7_joined_138 rfl (lv_at hl 1 rfl) ?_
    refine lv_iload_n hx hb dX7_joined_139 rfl (lv_at hl 2 rfl) ?_
    refine lv_icmp_le (tgt := 147) hx hb dX7_joined_140 (by decide) (fun c34 => ?_) (fun c34 => ?_)
    · have gc34 : p1.toInt ≤ p2.toInt := (tle _ _).mp c34
      refine lv_iconst (v := 0) hx hb dX7_joined_147 (by decide) ?_
      rw [hQ]
      exact q_i F hr hlk () hP hD hS trivial dX7_joined_148 (Nat.le_of_ble_eq_true rfl) (Nat.le_of_ble_eq_true rfl)
    · have gc34 : ¬ (p1.toInt ≤ p2.toInt) := fun q0 => c34 ((tle _ _).mpr q0)
      refine lv_iconst (v := 1) hx hb dX7_joined_143 (by decide) ?_
      refine lv_goto (tgt := 148) hx hb dX7_joined_144 (by decide) ?_
      rw [hQ]
      exact q_i F hr hlk () hP hD hS trivial dX7_joined_148 (Nat.le_of_ble_eq_true rfl) (Nat.le_of_ble_eq_true rfl)
  by_cases h35 : p0 = 17
  · have gh35 : p0.toInt = 17 := congrArg Int32.toInt h35
    refine cst_i h35 ?_
    refine lv_tableIn (off := 148) (tgt := 149) hx hb dX7_joined_1 (by decide) (by decide) rfl (by decide) ?_
    refine lv_iload_n hx hb dX7_joined_149 rfl (lv_at hl 1 rfl) ?_
    refine lv_iload_n hx hb dX7_joined_150 rfl (lv_at hl 2 rfl) ?_
    refine lv_icmp_ne (tgt := 158) hx hb dX7_joined_151 (by decide) (fun c36 => ?_) (fun c36 => ?_)
    · have gc36 : ¬ (p1.toInt = p2.toInt) := fun q0 => c36 (Int32.toInt_inj.mp q0)
      refine lv_iconst (v := 0) hx hb dX7_joined_158 (by decide) ?_
      rw [hQ]
      exact q_i F hr hlk () hP hD hS trivial dX7_joined_159 (Nat.le_of_ble_eq_true rfl) (Nat.le_of_ble_eq_true rfl)
    · have gc36 : p1.toInt = p2.toInt := congrArg Int32.toInt c36
      refine lv_iconst (v := 1) hx hb dX7_joined_154 (by decide) ?_
      refine lv_goto (tgt := 159) hx hb dX7_joined_155 (by decide) ?_
      rw [hQ]
      exact q_i F hr hlk () hP hD hS trivial dX7_joined_159 (Nat.le_of_ble_eq_true rfl) (Nat.le_of_ble_eq_true rfl)
  by_cases h37 : p0 = 18
  · have gh37 : p0.toInt = 18 := congrArg Int32.toInt h37
    refine cst_i h37 ?_
    refine lv_tableIn (off := 159) (tgt := 160) hx hb dX7_joined_1 (by decide) (by decide) rfl (by decide) ?_
    refine lv_iload_n hx hb dX7_joined_160 rfl (lv_at hl 1 rfl) ?_
    refine lv_iload_n hx hb dX7_joined_161 rfl (lv_at hl 2 rfl) ?_
    refine lv_iand hx hb dX7_joined_162 ?_
    refine lv_topi (fun x38 ex38 => ?_)
    rw [hQ]
    exact q_i F hr hlk () hP hD hS trivial dX7_joined_163 (Nat.le_of_ble_eq_true rfl) (Nat.le_of_ble_eq_true rfl)
  refine lv_tableOut (tgt := 164) hx hb dX7_joined_1 (by have gh1 := lv_neT h1 (a := 8) rfl; have gh7 := lv_neT h7 (a := 9) rfl; have gh13 := lv_neT h13 (a := 10) rfl; have gh19 := lv_neT h19 (a := 11) rfl; have gh23 := lv_neT h23 (a := 12) rfl; have gh27 := lv_neT h27 (a := 13) rfl; have gh29 := lv_neT h29 (a := 14) rfl; have gh31 := lv_neT h31 (a := 15) rfl; have gh33 := lv_neT h33 (a := 16) rfl; have gh35 := lv_neT h35 (a := 17) rfl; have gh37 := lv_neT h37 (a := 18) rfl; omega) (by decide) ?_
  refine lv_iload_n hx hb dX7_joined_164 rfl (lv_at hl 1 rfl) ?_
  refine lv_iload_n hx hb dX7_joined_165 rfl (lv_at hl 2 rfl) ?_
  refine lv_ior hx hb dX7_joined_166 ?_
  refine lv_topi (fun x39 ex39 => ?_)
  rw [hQ]
  exact q_i F hr hlk () hP hD hS trivial dX7_joined_167 (Nat.le_of_ble_eq_true rfl) (Nat.le_of_ble_eq_true rfl)
set_option maxHeartbeats 4000000 in
set_option maxRecDepth 100000 in
theorem s_X4_tieWorth (l : Launch) (G : Gx) (g q : Nat → Nat) (I0 : Nat → Int32) (J0 : Nat → Int64) (R0 : Nat → Nat → Int32) (L0 : Nat → Nat → Int64) (hvI : InvI Wd_lo Wd_hi I0) (hvR : InvR Wd_rl R0) (hq3 : q 3 = (g 11))   : CtI (S := Unit) l yX4_tieWorth cX4_tieWorth 3 (some .int) (rmD 3 0 0) G [.ref (g 68)] (Wd G g q I0 J0 R0 L0) (fun r _ => True) (fun _ => (Wd G g q I0 J0 R0 L0)) := by
  refine ctI_of (own := RX4) (by decide +kernel) rfl (Nat.le_of_ble_eq_true rfl) ?_
  intro p e s m below meth c A ls F hr hlk hnm hK hP hD hA hS hl
  have hx := F.1
  have hb := F.2.1
  have hown := F.2.2.2.1
  have hl : lv_has ls 3 [(0, .ref (g 68))] := hl
  obtain ⟨Q, hQ⟩ : ∃ Q : State → Prop, Q = MQ below (va_Qi (S := Unit) (fun r _ => True) (BX G A (fun _ => (Wd G g q I0 J0 R0 L0))) A) [.ref (g 68)].toArray s 0 0 A := ⟨_, rfl⟩
  rw [show (MQ below (va_Qi (S := Unit) (fun r _ => True) (BX G A (fun _ => (Wd G g q I0 J0 R0 L0))) A) [.ref (g 68)].toArray s (rmD 3 0 0).cells (rmD 3 0 0).slots A) = Q from hQ.symm]
  have lab_4 : ∀ (k_4 : Nat) (a1_4 : Int32) (a2_4 : Int32) (H : Heap) (locs : List Loc) (ls : Array Slot), ((30 - a2_4.toInt) < (k_4 : Int)) → ((0 : Int) ≤ a2_4.toInt ∧ a2_4.toInt ≤ (30 : Int)) → va_P G.1 vwCl (Wd G g q I0 J0 R0 L0) H → va_D A (Wd G g q I0 J0 R0 L0) → va_S A s.heap H locs → lv_has ls 3 [(0, .ref (g 68)), (1, .int a1_4), (2, .int a2_4)] → W p l e (rmD 3 0 0) s m [.ref (g 68)].toArray below meth c H locs 0 0 Q (F0 m 4 ls []) := by
    intro k_4
    induction k_4 with
    | zero =>
      intro a1_4 a2_4 H locs ls hm y0_4 hP hD hS hl
      exact absurd hm (by omega)
    | succ k_4 ih_4 =>
      intro a1_4 a2_4 H locs ls hm y0_4 hP hD hS hl
      refine lv_iload_n hx hb dX4_tieWorth_4 rfl (lv_at hl 2 rfl) ?_
      refine lv_aload_n hx hb dX4_tieWorth_5 rfl (lv_at hl 0 rfl) ?_
      refine g_get F hK hP 70 (Wd_at70 G g q I0 J0 R0 L0) clX4 0 (by decide) flX4_28 rfl dX4_tieWorth_6 ?_
      refine cst_r hq3 ?_
      refine g_get F hK hP 0 (Wd_at0 G g q I0 J0 R0 L0) clX2 7 (by decide) flX4_127 rfl dX4_tieWorth_9 ?_
      have w_I0_1 := rg (hvI 1 (by decide)) (0) (30) rfl rfl
      refine lv_icmp_ge (tgt := 39) hx hb dX4_tieWorth_12 (by decide) (fun c1 => ?_) (fun c1 => ?_)
      · have gc1 : (I0 1).toInt ≤ a2_4.toInt := (tle _ _).mp c1
        refine lv_iload_n hx hb dX4_tieWorth_39 rfl (lv_at hl 1 rfl) ?_
        rw [hQ]
        exact q_i F hr hlk () hP hD hS trivial dX4_tieWorth_40 (Nat.le_of_ble_eq_true rfl) (Nat.le_of_ble_eq_true rfl)
      · have gc1 : ¬ ((I0 1).toInt ≤ a2_4.toInt) := fun q0 => c1 ((tle _ _).mpr q0)
        refine lv_iload_n hx hb dX4_tieWorth_15 rfl (lv_at hl 1 rfl) ?_
        refine lv_aload_n hx hb dX4_tieWorth_16 rfl (lv_at hl 0 rfl) ?_
        refine g_get F hK hP 70 (Wd_at70 G g q I0 J0 R0 L0) clX4 0 (by decide) flX4_28 rfl dX4_tieWorth_17 ?_
        refine cst_r hq3 ?_
        refine g_get F hK hP 0 (Wd_at0 G g q I0 J0 R0 L0) clX2 10 (by decide) flX4_130 rfl dX4_tieWorth_20 ?_
        refine lv_iload_n hx hb dX4_tieWorth_23 rfl (lv_at hl 2 rfl) ?_
        refine g_iald F hK hP 30 (Wd_at30 G g q I0 J0 R0 L0) (in_of (by omega)) dX4_tieWorth_24 rfl ?_
        refine lv_topi (fun x2 ex2 => ?_)
        have gx2 : x2.toInt = (R0 26 (Int32.toNatClampNeg a2_4)).toInt := congrArg Int32.toInt (ex2)
        refine lv_aload_n hx hb dX4_tieWorth_25 rfl (lv_at hl 0 rfl) ?_
        refine lv_iload_n hx hb dX4_tieWorth_26 rfl (lv_at hl 2 rfl) ?_
        refine wvi (As := [.int a2_4]) (rest := [.int x2, .int a1_4]) (b := (g 68)) (d := 2) F hK hP hD hS hA (s_X4_metDays l G g q I0 J0 R0 L0 hvI hvR hq3 a2_4 (show ((0 : Int) ≤ a2_4.toInt ∧ a2_4.toInt ≤ (29 : Int)) from by omega)) kmV_X4_metDays mlX4_133 clX4 rfl 70 (Wd_at70 G g q I0 J0 R0 L0) ⟨(Nat.le_of_ble_eq_true rfl), (Nat.le_of_ble_eq_true rfl)⟩ hl.1 rfl (Nat.le_of_ble_eq_true rfl) dX4_tieWorth_27 (fun r3 u4 H locs hwr3 hP hD hS => ?_)
        have F0r3 := hwr3
        replace F0r3 : ((0 : Int) ≤ r3.toInt ∧ r3.toInt ≤ (63 : Int)) := F0r3
        refine lv_imul hx hb dX4_tieWorth_30 ?_
        refine lv_topi (fun x5 ex5 => ?_)
        refine lv_iadd hx hb dX4_tieWorth_31 ?_
        refine lv_topi (fun x6 ex6 => ?_)
        refine lv_istore_n (lv' := [(1, .int x6), (0, .ref (g 68)), (2, .int a2_4)]) hx hb dX4_tieWorth_32 rfl hl (by decide) rfl (fun ls hl => ?_)
        obtain ⟨x7, ex7⟩ : ∃ y : Int32, y = a2_4 + 1 := ⟨_, rfl⟩
        have fx7 : x7.toInt = a2_4.toInt + (1 : Int) := by rw [ex7]; exact t_add (by show (-2147483648 : Int) ≤ a2_4.toInt + (1 : Int); omega) (by show a2_4.toInt + (1 : Int) ≤ 2147483647; omega)
        refine lv_iinc (v := x7) (lv' := [(2, .int x7), (1, .int x6), (0, .ref (g 68))]) hx hb dX4_tieWorth_33 hl (k := 2) rfl (by rw [ex7]; rfl) (by decide) rfl (fun ls hl => ?_)
        refine lv_goto (tgt := 4) hx hb dX4_tieWorth_36 (by decide) ?_
        exact ih_4 x6 x7 _ _ _ (show (30 - x7.toInt) < (k_4 : Int) from by omega) (show ((0 : Int) ≤ x7.toInt ∧ x7.toInt ≤ (30 : Int)) from by omega) hP hD hS (lv_sub hl [2, 1, 0] rfl)
  refine lv_iconst (v := 0) hx hb dX4_tieWorth_0 (by decide) ?_
  refine lv_istore_n (lv' := [(1, .int 0), (0, .ref (g 68))]) hx hb dX4_tieWorth_1 rfl hl (by decide) rfl (fun ls hl => ?_)
  refine lv_iconst (v := 0) hx hb dX4_tieWorth_2 (by decide) ?_
  refine lv_istore_n (lv' := [(2, .int 0), (1, .int 0), (0, .ref (g 68))]) hx hb dX4_tieWorth_3 rfl hl (by decide) rfl (fun ls hl => ?_)
  exact lab_4 31 0 0 _ _ _ (show (30 - 0) < ((31 : Nat) : Int) from by omega) (by decide) hP hD hS (lv_sub hl [2, 1, 0] rfl)
set_option maxHeartbeats 4000000 in
set_option maxRecDepth 100000 in
theorem s_X2_tieBound (l : Launch) (G : Gx) (g q : Nat → Nat) (I0 : Nat → Int32) (J0 : Nat → Int64) (R0 : Nat → Nat → Int32) (L0 : Nat → Nat → Int64) (hvI : InvI Wd_lo Wd_hi I0) (hvR : InvR Wd_rl R0)    : CtI (S := Unit) l yX2_tieBound cX2_tieBound 7 (some .int) (rmD 2 0 0) G [.ref (g 11)] (Wd G g q I0 J0 R0 L0) (fun r _ => True) (fun _ => (Wd G g q I0 J0 R0 L0)) := by
  refine ctI_of (own := RX2) (by decide +kernel) rfl (Nat.le_of_ble_eq_true rfl) ?_
  intro p e s m below meth c A ls F hr hlk hnm hK hP hD hA hS hl
  have hx := F.1
  have hb := F.2.1
  have hown := F.2.2.2.1
  have hl : lv_has ls 7 [(0, .ref (g 11))] := hl
  obtain ⟨Q, hQ⟩ : ∃ Q : State → Prop, Q = MQ below (va_Qi (S := Unit) (fun r _ => True) (BX G A (fun _ => (Wd G g q I0 J0 R0 L0))) A) [.ref (g 11)].toArray s 0 0 A := ⟨_, rfl⟩
  rw [show (MQ below (va_Qi (S := Unit) (fun r _ => True) (BX G A (fun _ => (Wd G g q I0 J0 R0 L0))) A) [.ref (g 11)].toArray s (rmD 2 0 0).cells (rmD 2 0 0).slots A) = Q from hQ.symm]
  have lab_4 : ∀ (k_4 : Nat) (a1_4 : Int32) (a2_4 : Int32) (H : Heap) (locs : List Loc) (ls : Array Slot), ((30 - a2_4.toInt) < (k_4 : Int)) → ((0 : Int) ≤ a2_4.toInt ∧ a2_4.toInt ≤ (30 : Int)) → va_P G.1 vwCl (Wd G g q I0 J0 R0 L0) H → va_D A (Wd G g q I0 J0 R0 L0) → va_S A s.heap H locs → lv_has ls 7 [(0, .ref (g 11)), (1, .int a1_4), (2, .int a2_4)] → W p l e (rmD 2 0 0) s m [.ref (g 11)].toArray below meth c H locs 0 0 Q (F0 m 4 ls []) := by
    intro k_4
    induction k_4 with
    | zero =>
      intro a1_4 a2_4 H locs ls hm y0_4 hP hD hS hl
      exact absurd hm (by omega)
    | succ k_4 ih_4 =>
      intro a1_4 a2_4 H locs ls hm y0_4 hP hD hS hl
      refine lv_iload_n hx hb dX2_tieBound_4 rfl (lv_at hl 2 rfl) ?_
      refine lv_aload_n hx hb dX2_tieBound_5 rfl (lv_at hl 0 rfl) ?_
      refine g_get F hK hP 0 (Wd_at0 G g q I0 J0 R0 L0) clX2 7 (by decide) flX2_47 rfl dX2_tieBound_6 ?_
      have w_I0_1 := rg (hvI 1 (by decide)) (0) (30) rfl rfl
      refine lv_icmp_ge (tgt := 104) hx hb dX2_tieBound_9 (by decide) (fun c1 => ?_) (fun c1 => ?_)
      · have gc1 : (I0 1).toInt ≤ a2_4.toInt := (tle _ _).mp c1
        refine lv_iload_n hx hb dX2_tieBound_104 rfl (lv_at hl 1 rfl) ?_
        rw [hQ]
        exact q_i F hr hlk () hP hD hS trivial dX2_tieBound_105 (Nat.le_of_ble_eq_true rfl) (Nat.le_of_ble_eq_true rfl)
      · have gc1 : ¬ ((I0 1).toInt ≤ a2_4.toInt) := fun q0 => c1 ((tle _ _).mpr q0)
        refine lv_aload_n hx hb dX2_tieBound_12 rfl (lv_at hl 0 rfl) ?_
        refine g_get F hK hP 0 (Wd_at0 G g q I0 J0 R0 L0) clX2 8 (by decide) flX2_50 rfl dX2_tieBound_13 ?_
        refine lv_iload_n hx hb dX2_tieBound_16 rfl (lv_at hl 2 rfl) ?_
        refine g_iald F hK hP 28 (Wd_at28 G g q I0 J0 R0 L0) (in_of (by omega)) dX2_tieBound_17 rfl ?_
        refine lv_topi (fun x2 ex2 => ?_)
        have gx2 : x2.toInt = (R0 24 (Int32.toNatClampNeg a2_4)).toInt := congrArg Int32.toInt (ex2)
        have fx2 : ((0 : Int) ≤ x2.toInt ∧ x2.toInt ≤ (11 : Int)) := by rw [ex2]; exact hvR 24 (by decide) _ (clamp_lt (n := 30) (in_of (by omega)))
        refine lv_istore_n (lv' := [(3, .int x2), (0, .ref (g 11)), (1, .int a1_4), (2, .int a2_4)]) hx hb dX2_tieBound_18 rfl hl (by decide) rfl (fun ls hl => ?_)
        refine lv_aload_n hx hb dX2_tieBound_19 rfl (lv_at hl 1 rfl) ?_
        refine g_get F hK hP 0 (Wd_at0 G g q I0 J0 R0 L0) clX2 9 (by decide) flX2_53 rfl dX2_tieBound_20 ?_
        refine lv_iload_n hx hb dX2_tieBound_23 rfl (lv_at hl 3 rfl) ?_
        refine g_iald F hK hP 29 (Wd_at29 G g q I0 J0 R0 L0) (in_of (by omega)) dX2_tieBound_24 rfl ?_
        refine lv_topi (fun x3 ex3 => ?_)
        have gx3 : x3.toInt = (R0 25 (Int32.toNatClampNeg a2_4)).toInt := congrArg Int32.toInt (ex3)
        have fx3 : ((0 : Int) ≤ x3.toInt ∧ x3.toInt ≤ (11 : Int)) := by rw [ex3]; exact hvR 25 (by decide) _ (clamp_lt (n := 30) (in_of (by omega)))
        refine lv_istore (lv' := [(4, .int x3), (3, .int x2), (0, .ref (g 11)), (1, .int a1_4), (2, .int a2_4)]) hx hb dX2_tieBound_25 hl (by decide) rfl (fun ls hl => ?_)
        refine lv_aload_n hx hb dX2_tieBound_27 rfl (lv_at hl 2 rfl) ?_
        refine g_get F hK hP 0 (Wd_at0 G g q I0 J0 R0 L0) clX2 1 (by decide) flX2_21 rfl dX2_tieBound_28 ?_
        refine g_get F hK hP 2 (Wd_at2 G g q I0 J0 R0 L0) clX3 3 (by decide) flX2_100 rfl dX2_tieBound_31 ?_
        refine lv_iload_n hx hb dX2_tieBound_34 rfl (lv_at hl 1 rfl) ?_
        refine g_iald F hK hP 11 (Wd_at11 G g q I0 J0 R0 L0) (in_of (by omega)) dX2_tieBound_35 rfl ?_
        refine lv_topi (fun x4 ex4 => ?_)
        have gx4 : x4.toInt = (R0 7 (Int32.toNatClampNeg x2)).toInt := congrArg Int32.toInt (ex4)
        refine lv_aload_n hx hb dX2_tieBound_36 rfl (lv_at hl 2 rfl) ?_
        refine g_get F hK hP 0 (Wd_at0 G g q I0 J0 R0 L0) clX2 1 (by decide) flX2_21 rfl dX2_tieBound_37 ?_
        refine g_get F hK hP 2 (Wd_at2 G g q I0 J0 R0 L0) clX3 3 (by decide) flX2_100 rfl dX2_tieBound_40 ?_
        refine lv_iload hx hb dX2_tieBound_43 (lv_at hl 0 rfl) ?_
        refine g_iald F hK hP 11 (Wd_at11 G g q I0 J0 R0 L0) (in_of (by omega)) dX2_tieBound_45 rfl ?_
        refine lv_topi (fun x5 ex5 => ?_)
        have gx5 : x5.toInt = (R0 7 (Int32.toNatClampNeg x3)).toInt := congrArg Int32.toInt (ex5)
        refine va_mmin hx hb (F.2.2.1.trans hl.1.symm) hown (F.2.2.2.2 _ mmX2_min) (F.2.2.2.2 _ mms_min) (F.2.2.2.2 _ ini_J9) (F.2.2.2.2 _ mmc_min) (Nat.le_of_ble_eq_true rfl) (Nat.le_of_ble_eq_true rfl) (Nat.le_of_ble_eq_true rfl) (Nat.le_of_ble_eq_true rfl) dX2_tieBound_46 ?_
        refine lv_topi (fun x6 ex6 => ?_)
        have fx6 : x6.toInt = min (x4.toInt) (x5.toInt) := by rw [ex6]; exact t_min _ _
        refine lv_istore (lv' := [(5, .int x6), (4, .int x3), (3, .int x2), (0, .ref (g 11)), (1, .int a1_4), (2, .int a2_4)]) hx hb dX2_tieBound_49 hl (by decide) rfl (fun ls hl => ?_)
        refine lv_bipush (v := 31) hx hb dX2_tieBound_51 (by decide) ?_
        refine lv_aload_n hx hb dX2_tieBound_53 rfl (lv_at hl 3 rfl) ?_
        refine g_get F hK hP 0 (Wd_at0 G g q I0 J0 R0 L0) clX2 1 (by decide) flX2_21 rfl dX2_tieBound_54 ?_
        refine g_get F hK hP 2 (Wd_at2 G g q I0 J0 R0 L0) clX3 4 (by decide) flX2_109 rfl dX2_tieBound_57 ?_
        refine lv_iload_n hx hb dX2_tieBound_60 rfl (lv_at hl 2 rfl) ?_
        refine g_iald F hK hP 12 (Wd_at12 G g q I0 J0 R0 L0) (in_of (by omega)) dX2_tieBound_61 rfl ?_
        refine lv_topi (fun x7 ex7 => ?_)
        have gx7 : x7.toInt = (R0 8 (Int32.toNatClampNeg x2)).toInt := congrArg Int32.toInt (ex7)
        refine lv_aload_n hx hb dX2_tieBound_62 rfl (lv_at hl 3 rfl) ?_
        refine g_get F hK hP 0 (Wd_at0 G g q I0 J0 R0 L0) clX2 1 (by decide) flX2_21 rfl dX2_tieBound_63 ?_
        refine g_get F hK hP 2 (Wd_at2 G g q I0 J0 R0 L0) clX3 4 (by decide) flX2_109 rfl dX2_tieBound_66 ?_
        refine lv_iload hx hb dX2_tieBound_69 (lv_at hl 1 rfl) ?_
        refine g_iald F hK hP 12 (Wd_at12 G g q I0 J0 R0 L0) (in_of (by omega)) dX2_tieBound_71 rfl ?_
        refine lv_topi (fun x8 ex8 => ?_)
        have gx8 : x8.toInt = (R0 8 (Int32.toNatClampNeg x3)).toInt := congrArg Int32.toInt (ex8)
        refine lv_ior hx hb dX2_tieBound_72 ?_
        refine lv_topi (fun x9 ex9 => ?_)
        refine lv_iconst (v := (-1)) hx hb dX2_tieBound_73 (by decide) ?_
        refine lv_ixor hx hb dX2_tieBound_74 ?_
        refine lv_topi (fun x10 ex10 => ?_)
        refine lv_iand hx hb dX2_tieBound_75 ?_
        refine lv_topi (fun x11 ex11 => ?_)
        have fx11 : (0 : Int) ≤ x11.toInt ∧ x11.toInt ≤ (31 : Int) := by rw [ex11]; exact t_and2 (a := 31) (by decide)
        refine lv_istore (lv' := [(6, .int x11), (5, .int x6), (4, .int x3), (3, .int x2), (0, .ref (g 11)), (1, .int a1_4), (2, .int a2_4)]) hx hb dX2_tieBound_76 hl (by decide) rfl (fun ls hl => ?_)
        refine lv_iload_n hx hb dX2_tieBound_78 rfl (lv_at hl 5 rfl) ?_
        refine lv_aload_n hx hb dX2_tieBound_79 rfl (lv_at hl 4 rfl) ?_
        refine g_get F hK hP 0 (Wd_at0 G g q I0 J0 R0 L0) clX2 10 (by decide) flX2_56 rfl dX2_tieBound_80 ?_
        refine lv_iload_n hx hb dX2_tieBound_83 rfl (lv_at hl 6 rfl) ?_
        refine g_iald F hK hP 30 (Wd_at30 G g q I0 J0 R0 L0) (in_of (by omega)) dX2_tieBound_84 rfl ?_
        refine lv_topi (fun x12 ex12 => ?_)
        have gx12 : x12.toInt = (R0 26 (Int32.toNatClampNeg a2_4)).toInt := congrArg Int32.toInt (ex12)
        refine lv_iload hx hb dX2_tieBound_85 (lv_at hl 1 rfl) ?_
        refine lv_iload hx hb dX2_tieBound_87 (lv_at hl 0 rfl) ?_
        refine w0i (As := [.int x11]) (rest := [.int x6, .int x12, .int a1_4]) (d := 1) F hK hP hD hS hA (s_J6_bitCount_0f7a4 l G  x11 ) kmS_J6_bitCount_0f7a4 mlX2_112 ⟨(Nat.le_of_ble_eq_true rfl), (Nat.le_of_ble_eq_true rfl)⟩ hl.1 rfl (Nat.le_of_ble_eq_true rfl) dX2_tieBound_89 (fun r13 u14 H locs hwr13 hP hD hS => ?_)
        have F0r13 := hwr13
        replace F0r13 : ((0 : Int) ≤ r13.toInt ∧ r13.toInt ≤ (63 : Int)) := F0r13
        refine va_mmin hx hb (F.2.2.1.trans hl.1.symm) hown (F.2.2.2.2 _ mmX2_min) (F.2.2.2.2 _ mms_min) (F.2.2.2.2 _ ini_J9) (F.2.2.2.2 _ mmc_min) (Nat.le_of_ble_eq_true rfl) (Nat.le_of_ble_eq_true rfl) (Nat.le_of_ble_eq_true rfl) (Nat.le_of_ble_eq_true rfl) dX2_tieBound_92 ?_
        refine lv_topi (fun x15 ex15 => ?_)
        have fx15 : x15.toInt = min (x6.toInt) (r13.toInt) := by rw [ex15]; exact t_min _ _
        refine lv_imul hx hb dX2_tieBound_95 ?_
        refine lv_topi (fun x16 ex16 => ?_)
        refine lv_iadd hx hb dX2_tieBound_96 ?_
        refine lv_topi (fun x17 ex17 => ?_)
        refine lv_istore_n (lv' := [(1, .int x17), (6, .int x11), (5, .int x6), (4, .int x3), (3, .int x2), (0, .ref (g 11)), (2, .int a2_4)]) hx hb dX2_tieBound_97 rfl hl (by decide) rfl (fun ls hl => ?_)
        obtain ⟨x18, ex18⟩ : ∃ y : Int32, y = a2_4 + 1 := ⟨_, rfl⟩
        have fx18 : x18.toInt = a2_4.toInt + (1 : Int) := by rw [ex18]; exact t_add (by show (-2147483648 : Int) ≤ a2_4.toInt + (1 : Int); omega) (by show a2_4.toInt + (1 : Int) ≤ 2147483647; omega)
        refine lv_iinc (v := x18) (lv' := [(2, .int x18), (1, .int x17), (6, .int x11), (5, .int x6), (4, .int x3), (3, .int x2), (0, .ref (g 11))]) hx hb dX2_tieBound_98 hl (k := 6) rfl (by rw [ex18]; rfl) (by decide) rfl (fun ls hl => ?_)
        refine lv_goto (tgt := 4) hx hb dX2_tieBound_101 (by decide) ?_
        exact ih_4 x17 x18 _ _ _ (show (30 - x18.toInt) < (k_4 : Int) from by omega) (show ((0 : Int) ≤ x18.toInt ∧ x18.toInt ≤ (30 : Int)) from by omega) hP hD hS (lv_sub hl [6, 1, 0] rfl)
  refine lv_iconst (v := 0) hx hb dX2_tieBound_0 (by decide) ?_
  refine lv_istore_n (lv' := [(1, .int 0), (0, .ref (g 11))]) hx hb dX2_tieBound_1 rfl hl (by decide) rfl (fun ls hl => ?_)
  refine lv_iconst (v := 0) hx hb dX2_tieBound_2 (by decide) ?_
  refine lv_istore_n (lv' := [(2, .int 0), (1, .int 0), (0, .ref (g 11))]) hx hb dX2_tieBound_3 rfl hl (by decide) rfl (fun ls hl => ?_)
  exact lab_4 31 0 0 _ _ _ (show (30 - 0) < ((31 : Nat) : Int) from by omega) (by decide) hP hD hS (lv_sub hl [2, 1, 0] rfl)
set_option maxHeartbeats 4000000 in
set_option maxRecDepth 100000 in
theorem s_X11_bound (l : Launch) (G : Gx) (g q : Nat → Nat) (I0 : Nat → Int32) (J0 : Nat → Int64) (R0 : Nat → Nat → Int32) (L0 : Nat → Nat → Int64) (hvI : InvI Wd_lo Wd_hi I0) (hvR : InvR Wd_rl R0) (hq3 : q 3 = (g 11)) (p1 : Int32) (hp1 : ((0 : Int) ≤ p1.toInt ∧ p1.toInt ≤ (1 : Int))) : CtI (S := Unit) l yX11_bound cX11_bound 3 (some .int) (rmD 4 0 0) G [.ref (g 74), .int p1] (Wd G g q I0 J0 R0 L0) (fun r _ => True) (fun _ => (Wd G g q I0 J0 R0 L0)) := by
  refine ctI_of (own := RX11) (by decide +kernel) rfl (Nat.le_of_ble_eq_true rfl) ?_
  intro p e s m below meth c A ls F hr hlk hnm hK hP hD hA hS hl
  have hx := F.1
  have hb := F.2.1
  have hown := F.2.2.2.1
  have hl : lv_has ls 3 [(0, .ref (g 74)), (1, .int p1)] := hl
  obtain ⟨Q, hQ⟩ : ∃ Q : State → Prop, Q = MQ below (va_Qi (S := Unit) (fun r _ => True) (BX G A (fun _ => (Wd G g q I0 J0 R0 L0))) A) [.ref (g 74), .int p1].toArray s 0 0 A := ⟨_, rfl⟩
  rw [show (MQ below (va_Qi (S := Unit) (fun r _ => True) (BX G A (fun _ => (Wd G g q I0 J0 R0 L0))) A) [.ref (g 74), .int p1].toArray s (rmD 4 0 0).cells (rmD 4 0 0).slots A) = Q from hQ.symm]
  refine lv_aload_n hx hb dX11_bound_0 rfl (lv_at hl 0 rfl) ?_
  refine g_get F hK hP 66 (Wd_at66 G g q I0 J0 R0 L0) clX11 4 (by decide) flX11_43 rfl dX11_bound_1 ?_
  refine g_get F hK hP 70 (Wd_at70 G g q I0 J0 R0 L0) clX4 0 (by decide) flX11_121 rfl dX11_bound_4 ?_
  refine cst_r hq3 ?_
  refine wvi (As := []) (rest := []) (b := (g 11)) (d := 2) F hK hP hD hS hA (s_X2_tieBound l G g q I0 J0 R0 L0 hvI hvR   ) kmV_X2_tieBound mlX11_297 clX2 rfl 0 (Wd_at0 G g q I0 J0 R0 L0) ⟨(Nat.le_of_ble_eq_true rfl), (Nat.le_of_ble_eq_true rfl)⟩ hl.1 rfl (Nat.le_of_ble_eq_true rfl) dX11_bound_7 (fun r1 u2 H locs hwr1 hP hD hS => ?_)
  refine lv_istore_n (lv' := [(2, .int r1), (0, .ref (g 74)), (1, .int p1)]) hx hb dX11_bound_10 rfl hl (by decide) rfl (fun ls hl => ?_)
  refine lv_iload_n hx hb dX11_bound_11 rfl (lv_at hl 2 rfl) ?_
  refine lv_if_eq (tgt := 27) hx hb dX11_bound_12 (by decide) (fun c3 => ?_) (fun c3 => ?_)
  · have gc3 : p1.toInt = 0 := congrArg Int32.toInt c3
    refine lv_iload_n hx hb dX11_bound_27 rfl (lv_at hl 0 rfl) ?_
    rw [hQ]
    exact q_i F hr hlk () hP hD hS trivial dX11_bound_28 (Nat.le_of_ble_eq_true rfl) (Nat.le_of_ble_eq_true rfl)
  · have gc3 : ¬ (p1.toInt = 0) := fun q0 => c3 (Int32.toInt_inj.mp q0)
    refine lv_iload_n hx hb dX11_bound_15 rfl (lv_at hl 0 rfl) ?_
    refine lv_aload_n hx hb dX11_bound_16 rfl (lv_at hl 1 rfl) ?_
    refine g_get F hK hP 66 (Wd_at66 G g q I0 J0 R0 L0) clX11 4 (by decide) flX11_43 rfl dX11_bound_17 ?_
    refine wvi (As := []) (rest := [.int r1]) (b := (g 68)) (d := 3) F hK hP hD hS hA (s_X4_tieWorth l G g q I0 J0 R0 L0 hvI hvR hq3  ) kmV_X4_tieWorth mlX11_300 clX4 rfl 70 (Wd_at70 G g q I0 J0 R0 L0) ⟨(Nat.le_of_ble_eq_true rfl), (Nat.le_of_ble_eq_true rfl)⟩ hl.1 rfl (Nat.le_of_ble_eq_true rfl) dX11_bound_20 (fun r4 u5 H locs hwr4 hP hD hS => ?_)
    refine lv_isub hx hb dX11_bound_23 ?_
    refine lv_topi (fun x6 ex6 => ?_)
    refine lv_goto (tgt := 28) hx hb dX11_bound_24 (by decide) ?_
    rw [hQ]
    exact q_i F hr hlk () hP hD hS trivial dX11_bound_28 (Nat.le_of_ble_eq_true rfl) (Nat.le_of_ble_eq_true rfl)
set_option maxHeartbeats 4000000 in
set_option maxRecDepth 100000 in
theorem s_X11_checkByte_tape (l : Launch) (G : Gx) (g q : Nat → Nat) (I0 : Nat → Int32) (J0 : Nat → Int64) (R0 : Nat → Nat → Int32) (L0 : Nat → Nat → Int64) (hvI : InvI Wd_lo Wd_hi I0) (hvR : InvR Wd_rl R0) (hq3 : q 3 = (g 11)) (p1 : Int32) (hp1 : ((1 : Int) ≤ p1.toInt ∧ p1.toInt ≤ (13 : Int))) : CtI (S := Unit) l yX11_checkByte cX11_checkByte 4 (some .int) (rmD 1 0 0) G [.ref (g 66), .int p1] (Wd G g q I0 J0 R0 L0) (fun r _ => True) (fun _ => (Wd G g q I0 J0 R0 L0)) := by
  refine ctI_of (own := RX11) (by decide +kernel) rfl (Nat.le_of_ble_eq_true rfl) ?_
  intro p e s m below meth c A ls F hr hlk hnm hK hP hD hA hS hl
  have hx := F.1
  have hb := F.2.1
  have hown := F.2.2.2.1
  have hl : lv_has ls 4 [(0, .ref (g 66)), (1, .int p1)] := hl
  obtain ⟨Q, hQ⟩ : ∃ Q : State → Prop, Q = MQ below (va_Qi (S := Unit) (fun r _ => True) (BX G A (fun _ => (Wd G g q I0 J0 R0 L0))) A) [.ref (g 66), .int p1].toArray s 0 0 A := ⟨_, rfl⟩
  rw [show (MQ below (va_Qi (S := Unit) (fun r _ => True) (BX G A (fun _ => (Wd G g q I0 J0 R0 L0))) A) [.ref (g 66), .int p1].toArray s (rmD 1 0 0).cells (rmD 1 0 0).slots A) = Q from hQ.symm]
  have lab_5 : ∀ (k_5 : Nat) (a2_5 : Int32) (a3_5 : Int32) (H : Heap) (locs : List Loc) (ls : Array Slot), ((13 - a3_5.toInt) < (k_5 : Int)) → ((0 : Int) ≤ a3_5.toInt ∧ a3_5.toInt ≤ (13 : Int)) → va_P G.1 vwCl (Wd G g q I0 J0 R0 L0) H → va_D A (Wd G g q I0 J0 R0 L0) → va_S A s.heap H locs → lv_has ls 4 [(0, .ref (g 66)), (1, .int p1), (2, .int a2_5), (3, .int a3_5)] → W p l e (rmD 1 0 0) s m [.ref (g 66), .int p1].toArray below meth c H locs 0 0 Q (F0 m 5 ls []) := by
    intro k_5
    induction k_5 with
    | zero =>
      intro a2_5 a3_5 H locs ls hm y0_5 hP hD hS hl
      exact absurd hm (by omega)
    | succ k_5 ih_5 =>
      intro a2_5 a3_5 H locs ls hm y0_5 hP hD hS hl
      refine lv_iload_n hx hb dX11_checkByte_5 rfl (lv_at hl 3 rfl) ?_
      refine lv_iload_n hx hb dX11_checkByte_6 rfl (lv_at hl 1 rfl) ?_
      refine lv_icmp_ge (tgt := 34) hx hb dX11_checkByte_7 (by decide) (fun c1 => ?_) (fun c1 => ?_)
      · have gc1 : p1.toInt ≤ a3_5.toInt := (tle _ _).mp c1
        refine lv_iload_n hx hb dX11_checkByte_34 rfl (lv_at hl 2 rfl) ?_
        rw [hQ]
        exact q_i F hr hlk () hP hD hS trivial dX11_checkByte_35 (Nat.le_of_ble_eq_true rfl) (Nat.le_of_ble_eq_true rfl)
      · have gc1 : ¬ (p1.toInt ≤ a3_5.toInt) := fun q0 => c1 ((tle _ _).mpr q0)
        refine lv_iload_n hx hb dX11_checkByte_10 rfl (lv_at hl 3 rfl) ?_
        refine lv_aload_n hx hb dX11_checkByte_11 rfl (lv_at hl 0 rfl) ?_
        refine g_ialen (v := 1800) F hK hP 74 (Wd_at74 G g q I0 J0 R0 L0) rfl dX11_checkByte_12 ?_
        refine lv_icmp_ge (tgt := 34) hx hb dX11_checkByte_13 (by decide) (fun c2 => ?_) (fun c2 => ?_)
        · have gc2 : 1800 ≤ a3_5.toInt := (tle _ _).mp c2
          refine lv_iload_n hx hb dX11_checkByte_34 rfl (lv_at hl 2 rfl) ?_
          rw [hQ]
          exact q_i F hr hlk () hP hD hS trivial dX11_checkByte_35 (Nat.le_of_ble_eq_true rfl) (Nat.le_of_ble_eq_true rfl)
        · have gc2 : ¬ (1800 ≤ a3_5.toInt) := fun q0 => c2 ((tle _ _).mpr q0)
          refine lv_iconst (v := 5) hx hb dX11_checkByte_16 (by decide) ?_
          refine lv_iload_n hx hb dX11_checkByte_17 rfl (lv_at hl 2 rfl) ?_
          refine lv_imul hx hb dX11_checkByte_18 ?_
          refine lv_topi (fun x3 ex3 => ?_)
          refine lv_aload_n hx hb dX11_checkByte_19 rfl (lv_at hl 0 rfl) ?_
          refine lv_iload_n hx hb dX11_checkByte_20 rfl (lv_at hl 3 rfl) ?_
          refine g_iald F hK hP 74 (Wd_at74 G g q I0 J0 R0 L0) (in_of (by omega)) dX11_checkByte_21 rfl ?_
          refine lv_topi (fun x4 ex4 => ?_)
          have gx4 : x4.toInt = (R0 58 (Int32.toNatClampNeg a3_5)).toInt := congrArg Int32.toInt (ex4)
          have fx4 : ((0 : Int) ≤ x4.toInt ∧ x4.toInt ≤ (255 : Int)) := by rw [ex4]; exact hvR 58 (by decide) _ (clamp_lt (n := 1800) (in_of (by omega)))
          refine lv_iadd hx hb dX11_checkByte_22 ?_
          refine lv_topi (fun x5 ex5 => ?_)
          refine lv_sipush (v := 227) hx hb dX11_checkByte_23 (by decide) ?_
          refine lv_irem hx hb dX11_checkByte_26 (by decide) ?_
          refine lv_topi (fun x6 ex6 => ?_)
          refine lv_istore_n (lv' := [(2, .int x6), (0, .ref (g 66)), (1, .int p1), (3, .int a3_5)]) hx hb dX11_checkByte_27 rfl hl (by decide) rfl (fun ls hl => ?_)
          obtain ⟨x7, ex7⟩ : ∃ y : Int32, y = a3_5 + 1 := ⟨_, rfl⟩
          have fx7 : x7.toInt = a3_5.toInt + (1 : Int) := by rw [ex7]; exact t_add (by show (-2147483648 : Int) ≤ a3_5.toInt + (1 : Int); omega) (by show a3_5.toInt + (1 : Int) ≤ 2147483647; omega)
          refine lv_iinc (v := x7) (lv' := [(3, .int x7), (2, .int x6), (0, .ref (g 66)), (1, .int p1)]) hx hb dX11_checkByte_28 hl (k := 3) rfl (by rw [ex7]; rfl) (by decide) rfl (fun ls hl => ?_)
          refine lv_goto (tgt := 5) hx hb dX11_checkByte_31 (by decide) ?_
          exact ih_5 x6 x7 _ _ _ (show (13 - x7.toInt) < (k_5 : Int) from by omega) (show ((0 : Int) ≤ x7.toInt ∧ x7.toInt ≤ (13 : Int)) from by omega) hP hD hS (lv_sub hl [2, 3, 1, 0] rfl)
  refine lv_bipush (v := 31) hx hb dX11_checkByte_0 (by decide) ?_
  refine lv_istore_n (lv' := [(2, .int 31), (0, .ref (g 66)), (1, .int p1)]) hx hb dX11_checkByte_2 rfl hl (by decide) rfl (fun ls hl => ?_)
  refine lv_iconst (v := 0) hx hb dX11_checkByte_3 (by decide) ?_
  refine lv_istore_n (lv' := [(3, .int 0), (2, .int 31), (0, .ref (g 66)), (1, .int p1)]) hx hb dX11_checkByte_4 rfl hl (by decide) rfl (fun ls hl => ?_)
  exact lab_5 14 31 0 _ _ _ (show (13 - 0) < ((14 : Nat) : Int) from by omega) (by decide) hP hD hS (lv_sub hl [2, 3, 1, 0] rfl)
set_option maxHeartbeats 4000000 in
set_option maxRecDepth 100000 in
theorem s_X11_checkByte_xwritten (l : Launch) (G : Gx) (g q : Nat → Nat) (I0 : Nat → Int32) (J0 : Nat → Int64) (R0 : Nat → Nat → Int32) (L0 : Nat → Nat → Int64) (hvI : InvI Wd_lo Wd_hi I0) (hvR : InvR Wd_rl R0) (hq3 : q 3 = (g 11)) (p1 : Int32) (hp1 : ((1 : Int) ≤ p1.toInt ∧ p1.toInt ≤ (13 : Int))) : CtI (S := Unit) l yX11_checkByte cX11_checkByte 4 (some .int) (rmD 1 0 0) G [.ref (g 72), .int p1] (Wd G g q I0 J0 R0 L0) (fun r _ => True) (fun _ => (Wd G g q I0 J0 R0 L0)) := by
  refine ctI_of (own := RX11) (by decide +kernel) rfl (Nat.le_of_ble_eq_true rfl) ?_
  intro p e s m below meth c A ls F hr hlk hnm hK hP hD hA hS hl
  have hx := F.1
  have hb := F.2.1
  have hown := F.2.2.2.1
  have hl : lv_has ls 4 [(0, .ref (g 72)), (1, .int p1)] := hl
  obtain ⟨Q, hQ⟩ : ∃ Q : State → Prop, Q = MQ below (va_Qi (S := Unit) (fun r _ => True) (BX G A (fun _ => (Wd G g q I0 J0 R0 L0))) A) [.ref (g 72), .int p1].toArray s 0 0 A := ⟨_, rfl⟩
  rw [show (MQ below (va_Qi (S := Unit) (fun r _ => True) (BX G A (fun _ => (Wd G g q I0 J0 R0 L0))) A) [.ref (g 72), .int p1].toArray s (rmD 1 0 0).cells (rmD 1 0 0).slots A) = Q from hQ.symm]
  have lab_5 : ∀ (k_5 : Nat) (a2_5 : Int32) (a3_5 : Int32) (H : Heap) (locs : List Loc) (ls : Array Slot), ((13 - a3_5.toInt) < (k_5 : Int)) → ((0 : Int) ≤ a3_5.toInt ∧ a3_5.toInt ≤ (13 : Int)) → va_P G.1 vwCl (Wd G g q I0 J0 R0 L0) H → va_D A (Wd G g q I0 J0 R0 L0) → va_S A s.heap H locs → lv_has ls 4 [(0, .ref (g 72)), (1, .int p1), (2, .int a2_5), (3, .int a3_5)] → W p l e (rmD 1 0 0) s m [.ref (g 72), .int p1].toArray below meth c H locs 0 0 Q (F0 m 5 ls []) := by
    intro k_5
    induction k_5 with
    | zero =>
      intro a2_5 a3_5 H locs ls hm y0_5 hP hD hS hl
      exact absurd hm (by omega)
    | succ k_5 ih_5 =>
      intro a2_5 a3_5 H locs ls hm y0_5 hP hD hS hl
      refine lv_iload_n hx hb dX11_checkByte_5 rfl (lv_at hl 3 rfl) ?_
      refine lv_iload_n hx hb dX11_checkByte_6 rfl (lv_at hl 1 rfl) ?_
      refine lv_icmp_ge (tgt := 34) hx hb dX11_checkByte_7 (by decide) (fun c1 => ?_) (fun c1 => ?_)
      · have gc1 : p1.toInt ≤ a3_5.toInt := (tle _ _).mp c1
        refine lv_iload_n hx hb dX11_checkByte_34 rfl (lv_at hl 2 rfl) ?_
        rw [hQ]
        exact q_i F hr hlk () hP hD hS trivial dX11_checkByte_35 (Nat.le_of_ble_eq_true rfl) (Nat.le_of_ble_eq_true rfl)
      · have gc1 : ¬ (p1.toInt ≤ a3_5.toInt) := fun q0 => c1 ((tle _ _).mpr q0)
        refine lv_iload_n hx hb dX11_checkByte_10 rfl (lv_at hl 3 rfl) ?_
        refine lv_aload_n hx hb dX11_checkByte_11 rfl (lv_at hl 0 rfl) ?_
        refine g_ialen (v := 14) F hK hP 75 (Wd_at75 G g q I0 J0 R0 L0) rfl dX11_checkByte_12 ?_
        refine lv_icmp_ge (tgt := 34) hx hb dX11_checkByte_13 (by decide) (fun c2 => ?_) (fun c2 => ?_)
        · have gc2 : 14 ≤ a3_5.toInt := (tle _ _).mp c2
          refine lv_iload_n hx hb dX11_checkByte_34 rfl (lv_at hl 2 rfl) ?_
          rw [hQ]
          exact q_i F hr hlk () hP hD hS trivial dX11_checkByte_35 (Nat.le_of_ble_eq_true rfl) (Nat.le_of_ble_eq_true rfl)
        · have gc2 : ¬ (14 ≤ a3_5.toInt) := fun q0 => c2 ((tle _ _).mpr q0)
          refine lv_iconst (v := 5) hx hb dX11_checkByte_16 (by decide) ?_
          refine lv_iload_n hx hb dX11_checkByte_17 rfl (lv_at hl 2 rfl) ?_
          refine lv_imul hx hb dX11_checkByte_18 ?_
          refine lv_topi (fun x3 ex3 => ?_)
          refine lv_aload_n hx hb dX11_checkByte_19 rfl (lv_at hl 0 rfl) ?_
          refine lv_iload_n hx hb dX11_checkByte_20 rfl (lv_at hl 3 rfl) ?_
          refine g_iald F hK hP 75 (Wd_at75 G g q I0 J0 R0 L0) (in_of (by omega)) dX11_checkByte_21 rfl ?_
          refine lv_topi (fun x4 ex4 => ?_)
          have gx4 : x4.toInt = (R0 59 (Int32.toNatClampNeg a3_5)).toInt := congrArg Int32.toInt (ex4)
          refine lv_iadd hx hb dX11_checkByte_22 ?_
          refine lv_topi (fun x5 ex5 => ?_)
          refine lv_sipush (v := 227) hx hb dX11_checkByte_23 (by decide) ?_
          refine lv_irem hx hb dX11_checkByte_26 (by decide) ?_
          refine lv_topi (fun x6 ex6 => ?_)
          refine lv_istore_n (lv' := [(2, .int x6), (0, .ref (g 72)), (1, .int p1), (3, .int a3_5)]) hx hb dX11_checkByte_27 rfl hl (by decide) rfl (fun ls hl => ?_)
          obtain ⟨x7, ex7⟩ : ∃ y : Int32, y = a3_5 + 1 := ⟨_, rfl⟩
          have fx7 : x7.toInt = a3_5.toInt + (1 : Int) := by rw [ex7]; exact t_add (by show (-2147483648 : Int) ≤ a3_5.toInt + (1 : Int); omega) (by show a3_5.toInt + (1 : Int) ≤ 2147483647; omega)
          refine lv_iinc (v := x7) (lv' := [(3, .int x7), (2, .int x6), (0, .ref (g 72)), (1, .int p1)]) hx hb dX11_checkByte_28 hl (k := 3) rfl (by rw [ex7]; rfl) (by decide) rfl (fun ls hl => ?_)
          refine lv_goto (tgt := 5) hx hb dX11_checkByte_31 (by decide) ?_
          exact ih_5 x6 x7 _ _ _ (show (13 - x7.toInt) < (k_5 : Int) from by omega) (show ((0 : Int) ≤ x7.toInt ∧ x7.toInt ≤ (13 : Int)) from by omega) hP hD hS (lv_sub hl [2, 3, 1, 0] rfl)
  refine lv_bipush (v := 31) hx hb dX11_checkByte_0 (by decide) ?_
  refine lv_istore_n (lv' := [(2, .int 31), (0, .ref (g 72)), (1, .int p1)]) hx hb dX11_checkByte_2 rfl hl (by decide) rfl (fun ls hl => ?_)
  refine lv_iconst (v := 0) hx hb dX11_checkByte_3 (by decide) ?_
  refine lv_istore_n (lv' := [(3, .int 0), (2, .int 31), (0, .ref (g 72)), (1, .int p1)]) hx hb dX11_checkByte_4 rfl hl (by decide) rfl (fun ls hl => ?_)
  exact lab_5 14 31 0 _ _ _ (show (13 - 0) < ((14 : Nat) : Int) from by omega) (by decide) hP hD hS (lv_sub hl [2, 3, 1, 0] rfl)
set_option maxHeartbeats 4000000 in
set_option maxRecDepth 100000 in
theorem s_X11_day (l : Launch) (G : Gx) (g q : Nat → Nat) (I0 : Nat → Int32) (J0 : Nat → Int64) (R0 : Nat → Nat → Int32) (L0 : Nat → Nat → Int64) (hvI : InvI Wd_lo Wd_hi I0) (hvR : InvR Wd_rl R0) (hq3 : q 3 = (g 11)) (p1 : Int32) (p2 : Int32)  : CtI (S := Unit) l yX11_day cX11_day 3 (some .int) (rmD 3 0 0) G [.ref (g 74), .int p1, .int p2] (Wd G g q I0 J0 R0 L0) (fun r _ => True) (fun _ => (Wd G g q I0 J0 R0 L0)) := by
  refine ctI_of (own := RX11) (by decide +kernel) rfl (Nat.le_of_ble_eq_true rfl) ?_
  intro p e s m below meth c A ls F hr hlk hnm hK hP hD hA hS hl
  have hx := F.1
  have hb := F.2.1
  have hown := F.2.2.2.1
  have hl : lv_has ls 3 [(0, .ref (g 74)), (1, .int p1), (2, .int p2)] := hl
  obtain ⟨Q, hQ⟩ : ∃ Q : State → Prop, Q = MQ below (va_Qi (S := Unit) (fun r _ => True) (BX G A (fun _ => (Wd G g q I0 J0 R0 L0))) A) [.ref (g 74), .int p1, .int p2].toArray s 0 0 A := ⟨_, rfl⟩
  rw [show (MQ below (va_Qi (S := Unit) (fun r _ => True) (BX G A (fun _ => (Wd G g q I0 J0 R0 L0))) A) [.ref (g 74), .int p1, .int p2].toArray s (rmD 3 0 0).cells (rmD 3 0 0).slots A) = Q from hQ.symm]
  refine lv_iload_n hx hb dX11_day_0 rfl (lv_at hl 1 rfl) ?_
  refine w0i (As := [.int p1]) (rest := []) (d := 2) F hK hP hD hS hA (s_X11_isDay l G  p1 ) kmS_X11_isDay mlX11_230 ⟨(Nat.le_of_ble_eq_true rfl), (Nat.le_of_ble_eq_true rfl)⟩ hl.1 rfl (Nat.le_of_ble_eq_true rfl) dX11_day_1 (fun r1 u2 H locs hwr1 hP hD hS => ?_)
  obtain ⟨F0r1, F1r1⟩ := hwr1
  replace F0r1 : ((0 : Int) ≤ r1.toInt ∧ r1.toInt ≤ (1 : Int)) := F0r1
  replace F1r1 : (r1.toInt = 1 → (0 ≤ p1.toInt ∧ p1.toInt ≤ 4)) := F1r1
  refine lv_if_ne (tgt := 9) hx hb dX11_day_4 (by decide) (fun c3 => ?_) (fun c3 => ?_)
  · have gc3 : ¬ (r1.toInt = 0) := fun q0 => c3 (Int32.toInt_inj.mp q0)
    refine lv_iload_n hx hb dX11_day_9 rfl (lv_at hl 2 rfl) ?_
    by_cases h4 : p2 = 0
    · have gh4 : p2.toInt = 0 := congrArg Int32.toInt h4
      refine cst_i h4 ?_
      refine lv_tableIn (off := 26) (tgt := 36) hx hb dX11_day_10 (by decide) (by decide) rfl (by decide) ?_
      refine lv_aload_n hx hb dX11_day_36 rfl (lv_at hl 0 rfl) ?_
      refine g_get F hK hP 66 (Wd_at66 G g q I0 J0 R0 L0) clX11 4 (by decide) flX11_43 rfl dX11_day_37 ?_
      refine lv_iload_n hx hb dX11_day_40 rfl (lv_at hl 1 rfl) ?_
      refine wvi (As := [.int p1]) (rest := []) (b := (g 68)) (d := 1) F hK hP hD hS hA (s_X4_inCount l G g q I0 J0 R0 L0 hvI hvR hq3 p1 (show ((0 : Int) ≤ p1.toInt ∧ p1.toInt ≤ (4 : Int)) from by omega)) kmV_X4_inCount mlX11_233 clX4 rfl 70 (Wd_at70 G g q I0 J0 R0 L0) ⟨(Nat.le_of_ble_eq_true rfl), (Nat.le_of_ble_eq_true rfl)⟩ hl.1 rfl (Nat.le_of_ble_eq_true rfl) dX11_day_41 (fun r5 u6 H locs hwr5 hP hD hS => ?_)
      have F0r5 := hwr5
      replace F0r5 : ((0 : Int) ≤ r5.toInt ∧ r5.toInt ≤ (12 : Int)) := F0r5
      rw [hQ]
      exact q_i F hr hlk () hP hD hS trivial dX11_day_44 (Nat.le_of_ble_eq_true rfl) (Nat.le_of_ble_eq_true rfl)
    by_cases h7 : p2 = 1
    · have gh7 : p2.toInt = 1 := congrArg Int32.toInt h7
      refine cst_i h7 ?_
      refine lv_tableIn (off := 35) (tgt := 45) hx hb dX11_day_10 (by decide) (by decide) rfl (by decide) ?_
      refine lv_aload_n hx hb dX11_day_45 rfl (lv_at hl 0 rfl) ?_
      refine g_get F hK hP 66 (Wd_at66 G g q I0 J0 R0 L0) clX11 4 (by decide) flX11_43 rfl dX11_day_46 ?_
      refine lv_iload_n hx hb dX11_day_49 rfl (lv_at hl 1 rfl) ?_
      refine wvi (As := [.int p1]) (rest := []) (b := (g 68)) (d := 2) F hK hP hD hS hA (s_X4_standing l G g q I0 J0 R0 L0 hvI hvR hq3 p1 (show ((0 : Int) ≤ p1.toInt ∧ p1.toInt ≤ (4 : Int)) from by omega)) kmV_X4_standing mlX11_236 clX4 rfl 70 (Wd_at70 G g q I0 J0 R0 L0) ⟨(Nat.le_of_ble_eq_true rfl), (Nat.le_of_ble_eq_true rfl)⟩ hl.1 rfl (Nat.le_of_ble_eq_true rfl) dX11_day_50 (fun r8 u9 H locs hwr8 hP hD hS => ?_)
      have F0r8 := hwr8
      replace F0r8 : ((0 : Int) ≤ r8.toInt) := F0r8
      rw [hQ]
      exact q_i F hr hlk () hP hD hS trivial dX11_day_53 (Nat.le_of_ble_eq_true rfl) (Nat.le_of_ble_eq_true rfl)
    by_cases h10 : p2 = 2
    · have gh10 : p2.toInt = 2 := congrArg Int32.toInt h10
      refine cst_i h10 ?_
      refine lv_tableIn (off := 44) (tgt := 54) hx hb dX11_day_10 (by decide) (by decide) rfl (by decide) ?_
      refine lv_aload_n hx hb dX11_day_54 rfl (lv_at hl 0 rfl) ?_
      refine g_get F hK hP 66 (Wd_at66 G g q I0 J0 R0 L0) clX11 4 (by decide) flX11_43 rfl dX11_day_55 ?_
      refine g_get F hK hP 70 (Wd_at70 G g q I0 J0 R0 L0) clX4 0 (by decide) flX11_121 rfl dX11_day_58 ?_
      refine cst_r hq3 ?_
      refine g_get F hK hP 0 (Wd_at0 G g q I0 J0 R0 L0) clX2 11 (by decide) flX11_239 rfl dX11_day_61 ?_
      refine lv_iload_n hx hb dX11_day_64 rfl (lv_at hl 1 rfl) ?_
      refine g_iald F hK hP 31 (Wd_at31 G g q I0 J0 R0 L0) (in_of (by omega)) dX11_day_65 rfl ?_
      refine lv_topi (fun x11 ex11 => ?_)
      have gx11 : x11.toInt = (R0 27 (Int32.toNatClampNeg p1)).toInt := congrArg Int32.toInt (ex11)
      rw [hQ]
      exact q_i F hr hlk () hP hD hS trivial dX11_day_66 (Nat.le_of_ble_eq_true rfl) (Nat.le_of_ble_eq_true rfl)
    refine lv_tableOut (tgt := 67) hx hb dX11_day_10 (by have gh4 := lv_neT h4 (a := 0) rfl; have gh7 := lv_neT h7 (a := 1) rfl; have gh10 := lv_neT h10 (a := 2) rfl; omega) (by decide) ?_
    refine lv_iconst (v := (-1)) hx hb dX11_day_67 (by decide) ?_
    rw [hQ]
    exact q_i F hr hlk () hP hD hS trivial dX11_day_68 (Nat.le_of_ble_eq_true rfl) (Nat.le_of_ble_eq_true rfl)
  · have gc3 : r1.toInt = 0 := congrArg Int32.toInt c3
    refine lv_iconst (v := (-1)) hx hb dX11_day_7 (by decide) ?_
    rw [hQ]
    exact q_i F hr hlk () hP hD hS trivial dX11_day_8 (Nat.le_of_ble_eq_true rfl) (Nat.le_of_ble_eq_true rfl)
set_option maxHeartbeats 4000000 in
set_option maxRecDepth 100000 in
theorem s_X11_isPart (l : Launch) (G : Gx)  (p0 : Int32)  : CtI (S := Unit) l yX11_isPart cX11_isPart 1 (some .boolean) (rmD 1 0 0) G [.int p0] [] (fun r _ => ((0 : Int) ≤ r.toInt ∧ r.toInt ≤ (1 : Int)) ∧ (r.toInt = 1 → (0 ≤ p0.toInt ∧ p0.toInt ≤ 100))) (fun _ => []) := by
  refine ctI_of (own := RX11) (by decide +kernel) rfl (Nat.le_of_ble_eq_true rfl) ?_
  intro p e s m below meth c A ls F hr hlk hnm hK hP hD hA hS hl
  have hx := F.1
  have hb := F.2.1
  have hown := F.2.2.2.1
  have hl : lv_has ls 1 [(0, .int p0)] := hl
  obtain ⟨Q, hQ⟩ : ∃ Q : State → Prop, Q = MQ below (va_Qi (S := Unit) (fun r _ => ((0 : Int) ≤ r.toInt ∧ r.toInt ≤ (1 : Int)) ∧ (r.toInt = 1 → (0 ≤ p0.toInt ∧ p0.toInt ≤ 100))) (BX G A (fun _ => [])) A) [.int p0].toArray s 0 0 A := ⟨_, rfl⟩
  rw [show (MQ below (va_Qi (S := Unit) (fun r _ => ((0 : Int) ≤ r.toInt ∧ r.toInt ≤ (1 : Int)) ∧ (r.toInt = 1 → (0 ≤ p0.toInt ∧ p0.toInt ≤ 100))) (BX G A (fun _ => [])) A) [.int p0].toArray s (rmD 1 0 0).cells (rmD 1 0 0).slots A) = Q from hQ.symm]
  refine lv_iload_n hx hb dX11_isPart_0 rfl (lv_at hl 0 rfl) ?_
  refine lv_if_lt (tgt := 14) hx hb dX11_isPart_1 (by decide) (fun c1 => ?_) (fun c1 => ?_)
  · have gc1 : p0.toInt < 0 := (tlt _ _).mp c1
    refine lv_iconst (v := 0) hx hb dX11_isPart_14 (by decide) ?_
    rw [hQ]
    exact q_z F hr hlk () hP hD hS ⟨(show ((0 : Int) ≤ 0 ∧ 0 ≤ (1 : Int)) from by omega), (show (0 = 1 → (0 ≤ p0.toInt ∧ p0.toInt ≤ 100)) from by omega)⟩ dX11_isPart_15 (Nat.le_of_ble_eq_true rfl) (Nat.le_of_ble_eq_true rfl) (nar01 (by decide))
  · have gc1 : ¬ (p0.toInt < 0) := fun q0 => c1 ((tlt _ _).mpr q0)
    refine lv_iload_n hx hb dX11_isPart_4 rfl (lv_at hl 0 rfl) ?_
    refine lv_bipush (v := 100) hx hb dX11_isPart_5 (by decide) ?_
    refine lv_icmp_gt (tgt := 14) hx hb dX11_isPart_7 (by decide) (fun c2 => ?_) (fun c2 => ?_)
    · have gc2 : 100 < p0.toInt := (tlt _ _).mp c2
      refine lv_iconst (v := 0) hx hb dX11_isPart_14 (by decide) ?_
      rw [hQ]
      exact q_z F hr hlk () hP hD hS ⟨(show ((0 : Int) ≤ 0 ∧ 0 ≤ (1 : Int)) from by omega), (show (0 = 1 → (0 ≤ p0.toInt ∧ p0.toInt ≤ 100)) from by omega)⟩ dX11_isPart_15 (Nat.le_of_ble_eq_true rfl) (Nat.le_of_ble_eq_true rfl) (nar01 (by decide))
    · have gc2 : ¬ (100 < p0.toInt) := fun q0 => c2 ((tlt _ _).mpr q0)
      refine lv_iconst (v := 1) hx hb dX11_isPart_10 (by decide) ?_
      refine lv_goto (tgt := 15) hx hb dX11_isPart_11 (by decide) ?_
      rw [hQ]
      exact q_z F hr hlk () hP hD hS ⟨(show ((0 : Int) ≤ 1 ∧ 1 ≤ (1 : Int)) from by omega), (show (1 = 1 → (0 ≤ p0.toInt ∧ p0.toInt ≤ 100)) from by omega)⟩ dX11_isPart_15 (Nat.le_of_ble_eq_true rfl) (Nat.le_of_ble_eq_true rfl) (nar01 (by decide))
set_option maxHeartbeats 4000000 in
set_option maxRecDepth 100000 in
theorem s_X11_fault (l : Launch) (G : Gx) (g q : Nat → Nat) (I0 : Nat → Int32) (J0 : Nat → Int64) (R0 : Nat → Nat → Int32) (L0 : Nat → Nat → Int64) (hvI : InvI Wd_lo Wd_hi I0) (hvR : InvR Wd_rl R0) (hq3 : q 3 = (g 11)) (p1 : Int32)  : CtI (S := Unit) l yX11_fault cX11_fault 2 (some .int) (rmD 1 0 0) G [.ref (g 74), .int p1] (Wd G g q I0 J0 R0 L0) (fun r _ => True) (fun _ => (Wd G g q I0 J0 R0 L0)) := by
  refine ctI_of (own := RX11) (by decide +kernel) rfl (Nat.le_of_ble_eq_true rfl) ?_
  intro p e s m below meth c A ls F hr hlk hnm hK hP hD hA hS hl
  have hx := F.1
  have hb := F.2.1
  have hown := F.2.2.2.1
  have hl : lv_has ls 2 [(0, .ref (g 74)), (1, .int p1)] := hl
  obtain ⟨Q, hQ⟩ : ∃ Q : State → Prop, Q = MQ below (va_Qi (S := Unit) (fun r _ => True) (BX G A (fun _ => (Wd G g q I0 J0 R0 L0))) A) [.ref (g 74), .int p1].toArray s 0 0 A := ⟨_, rfl⟩
  rw [show (MQ below (va_Qi (S := Unit) (fun r _ => True) (BX G A (fun _ => (Wd G g q I0 J0 R0 L0))) A) [.ref (g 74), .int p1].toArray s (rmD 1 0 0).cells (rmD 1 0 0).slots A) = Q from hQ.symm]
  refine lv_iload_n hx hb dX11_fault_0 rfl (lv_at hl 1 rfl) ?_
  by_cases h1 : p1 = 0
  · have gh1 : p1.toInt = 0 := congrArg Int32.toInt h1
    refine cst_i h1 ?_
    refine lv_lookup (off := 27) (tgt := 28) hx hb dX11_fault_1 (by decide) (by decide) (by decide) ?_
    refine lv_aload_n hx hb dX11_fault_28 rfl (lv_at hl 0 rfl) ?_
    refine g_get F hK hP 66 (Wd_at66 G g q I0 J0 R0 L0) clX11 8 (by decide) flX11_70 rfl dX11_fault_29 ?_
    rw [hQ]
    exact q_i F hr hlk () hP hD hS trivial dX11_fault_32 (Nat.le_of_ble_eq_true rfl) (Nat.le_of_ble_eq_true rfl)
  by_cases h2 : p1 = 1
  · have gh2 : p1.toInt = 1 := congrArg Int32.toInt h2
    refine cst_i h2 ?_
    refine lv_lookup (off := 32) (tgt := 33) hx hb dX11_fault_1 (by decide) (by decide) (by decide) ?_
    refine lv_aload_n hx hb dX11_fault_33 rfl (lv_at hl 0 rfl) ?_
    refine g_get F hK hP 66 (Wd_at66 G g q I0 J0 R0 L0) clX11 9 (by decide) flX11_73 rfl dX11_fault_34 ?_
    rw [hQ]
    exact q_i F hr hlk () hP hD hS trivial dX11_fault_37 (Nat.le_of_ble_eq_true rfl) (Nat.le_of_ble_eq_true rfl)
  refine lv_lookup (off := 37) (tgt := 38) hx hb dX11_fault_1 (by decide) ((lv_osw h1 rfl).trans ((lv_osw h2 rfl).trans rfl)) (by decide) ?_
  refine lv_iconst (v := (-1)) hx hb dX11_fault_38 (by decide) ?_
  rw [hQ]
  exact q_i F hr hlk () hP hD hS trivial dX11_fault_39 (Nat.le_of_ble_eq_true rfl) (Nat.le_of_ble_eq_true rfl)
set_option maxHeartbeats 4000000 in
set_option maxRecDepth 100000 in
theorem s_X4_commonDays_sksets (l : Launch) (G : Gx) (g q : Nat → Nat) (I0 : Nat → Int32) (J0 : Nat → Int64) (R0 : Nat → Nat → Int32) (L0 : Nat → Nat → Int64) (hvI : InvI Wd_lo Wd_hi I0) (hvR : InvR Wd_rl R0) (hq3 : q 3 = (g 11)) (p2 : Int32) (hp2 : ((0 : Int) ≤ p2.toInt ∧ p2.toInt ≤ (5 : Int))) : CtI (S := Unit) l yX4_commonDays cX4_commonDays 5 (some .int) (rmD 1 0 0) G [.ref (g 68), .ref (g 80), .int p2] (Wd G g q I0 J0 R0 L0) (fun r _ => True) (fun _ => (Wd G g q I0 J0 R0 L0)) := by
  refine ctI_of (own := RX4) (by decide +kernel) rfl (Nat.le_of_ble_eq_true rfl) ?_
  intro p e s m below meth c A ls F hr hlk hnm hK hP hD hA hS hl
  have hx := F.1
  have hb := F.2.1
  have hown := F.2.2.2.1
  have hl : lv_has ls 5 [(0, .ref (g 68)), (1, .ref (g 80)), (2, .int p2)] := hl
  obtain ⟨Q, hQ⟩ : ∃ Q : State → Prop, Q = MQ below (va_Qi (S := Unit) (fun r _ => True) (BX G A (fun _ => (Wd G g q I0 J0 R0 L0))) A) [.ref (g 68), .ref (g 80), .int p2].toArray s 0 0 A := ⟨_, rfl⟩
  rw [show (MQ below (va_Qi (S := Unit) (fun r _ => True) (BX G A (fun _ => (Wd G g q I0 J0 R0 L0))) A) [.ref (g 68), .ref (g 80), .int p2].toArray s (rmD 1 0 0).cells (rmD 1 0 0).slots A) = Q from hQ.symm]
  have lab_6 : ∀ (k_6 : Nat) (a3_6 : Int32) (a4_6 : Int32) (H : Heap) (locs : List Loc) (ls : Array Slot), ((12 - a4_6.toInt) < (k_6 : Int)) → ((0 : Int) ≤ a4_6.toInt ∧ a4_6.toInt ≤ (12 : Int)) → va_P G.1 vwCl (Wd G g q I0 J0 R0 L0) H → va_D A (Wd G g q I0 J0 R0 L0) → va_S A s.heap H locs → lv_has ls 5 [(0, .ref (g 68)), (1, .ref (g 80)), (2, .int p2), (3, .int a3_6), (4, .int a4_6)] → W p l e (rmD 1 0 0) s m [.ref (g 68), .ref (g 80), .int p2].toArray below meth c H locs 0 0 Q (F0 m 6 ls []) := by
    intro k_6
    induction k_6 with
    | zero =>
      intro a3_6 a4_6 H locs ls hm y0_6 hP hD hS hl
      exact absurd hm (by omega)
    | succ k_6 ih_6 =>
      intro a3_6 a4_6 H locs ls hm y0_6 hP hD hS hl
      have lab_45 : ∀ (a3_45 : Int32) (H : Heap) (locs : List Loc) (ls : Array Slot), ((0 : Int) ≤ a4_6.toInt ∧ a4_6.toInt ≤ (11 : Int)) → va_P G.1 vwCl (Wd G g q I0 J0 R0 L0) H → va_D A (Wd G g q I0 J0 R0 L0) → va_S A s.heap H locs → lv_has ls 5 [(0, .ref (g 68)), (1, .ref (g 80)), (2, .int p2), (3, .int a3_45), (4, .int a4_6)] → W p l e (rmD 1 0 0) s m [.ref (g 68), .ref (g 80), .int p2].toArray below meth c H locs 0 0 Q (F0 m 45 ls []) := by
        intro a3_45 H locs ls y0_45 hP hD hS hl
        obtain ⟨x1, ex1⟩ : ∃ y : Int32, y = a4_6 + 1 := ⟨_, rfl⟩
        have fx1 : x1.toInt = a4_6.toInt + (1 : Int) := by rw [ex1]; exact t_add (by show (-2147483648 : Int) ≤ a4_6.toInt + (1 : Int); omega) (by show a4_6.toInt + (1 : Int) ≤ 2147483647; omega)
        refine lv_iinc (v := x1) (lv' := [(4, .int x1), (0, .ref (g 68)), (1, .ref (g 80)), (2, .int p2), (3, .int a3_45)]) hx hb dX4_commonDays_45 hl (k := 4) rfl (by rw [ex1]; rfl) (by decide) rfl (fun ls hl => ?_)
        refine lv_goto (tgt := 6) hx hb dX4_commonDays_48 (by decide) ?_
        exact ih_6 a3_45 x1 _ _ _ (show (12 - x1.toInt) < (k_6 : Int) from by omega) (show ((0 : Int) ≤ x1.toInt ∧ x1.toInt ≤ (12 : Int)) from by omega) hP hD hS (lv_sub hl [1, 2, 3, 4, 0] rfl)
      refine lv_iload hx hb dX4_commonDays_6 (lv_at hl 4 rfl) ?_
      refine lv_aload_n hx hb dX4_commonDays_8 rfl (lv_at hl 0 rfl) ?_
      refine g_get F hK hP 70 (Wd_at70 G g q I0 J0 R0 L0) clX4 0 (by decide) flX4_28 rfl dX4_commonDays_9 ?_
      refine cst_r hq3 ?_
      refine g_get F hK hP 0 (Wd_at0 G g q I0 J0 R0 L0) clX2 1 (by decide) flX4_39 rfl dX4_commonDays_12 ?_
      refine g_get F hK hP 2 (Wd_at2 G g q I0 J0 R0 L0) clX3 0 (by decide) flX4_45 rfl dX4_commonDays_15 ?_
      have w_I0_6 := rg (hvI 6 (by decide)) (0) (12) rfl rfl
      refine lv_icmp_ge (tgt := 51) hx hb dX4_commonDays_18 (by decide) (fun c2 => ?_) (fun c2 => ?_)
      · have gc2 : (I0 6).toInt ≤ a4_6.toInt := (tle _ _).mp c2
        refine lv_iload_n hx hb dX4_commonDays_51 rfl (lv_at hl 3 rfl) ?_
        rw [hQ]
        exact q_i F hr hlk () hP hD hS trivial dX4_commonDays_52 (Nat.le_of_ble_eq_true rfl) (Nat.le_of_ble_eq_true rfl)
      · have gc2 : ¬ ((I0 6).toInt ≤ a4_6.toInt) := fun q0 => c2 ((tle _ _).mpr q0)
        refine lv_aload_n hx hb dX4_commonDays_21 rfl (lv_at hl 0 rfl) ?_
        refine g_get F hK hP 70 (Wd_at70 G g q I0 J0 R0 L0) clX4 0 (by decide) flX4_28 rfl dX4_commonDays_22 ?_
        refine cst_r hq3 ?_
        refine g_get F hK hP 0 (Wd_at0 G g q I0 J0 R0 L0) clX2 1 (by decide) flX4_39 rfl dX4_commonDays_25 ?_
        refine g_get F hK hP 2 (Wd_at2 G g q I0 J0 R0 L0) clX3 2 (by decide) flX4_118 rfl dX4_commonDays_28 ?_
        refine lv_iload hx hb dX4_commonDays_31 (lv_at hl 4 rfl) ?_
        refine g_iald F hK hP 10 (Wd_at10 G g q I0 J0 R0 L0) (in_of (by omega)) dX4_commonDays_33 rfl ?_
        refine lv_topi (fun x3 ex3 => ?_)
        have gx3 : x3.toInt = (R0 6 (Int32.toNatClampNeg a4_6)).toInt := congrArg Int32.toInt (ex3)
        have fx3 : ((0 : Int) ≤ x3.toInt ∧ x3.toInt ≤ (5 : Int)) := by rw [ex3]; exact hvR 6 (by decide) _ (clamp_lt (n := 12) (in_of (by omega)))
        refine lv_iload_n hx hb dX4_commonDays_34 rfl (lv_at hl 2 rfl) ?_
        refine lv_icmp_ne (tgt := 45) hx hb dX4_commonDays_35 (by decide) (fun c4 => ?_) (fun c4 => ?_)
        · have gc4 : ¬ (x3.toInt = p2.toInt) := fun q0 => c4 (Int32.toInt_inj.mp q0)
          exact lab_45 a3_6 _ _ _ (show ((0 : Int) ≤ a4_6.toInt ∧ a4_6.toInt ≤ (11 : Int)) from by omega) hP hD hS (lv_sub hl [0, 1, 2, 3, 4] rfl)
        · have gc4 : x3.toInt = p2.toInt := congrArg Int32.toInt c4
          refine lv_iload_n hx hb dX4_commonDays_38 rfl (lv_at hl 3 rfl) ?_
          refine lv_aload_n hx hb dX4_commonDays_39 rfl (lv_at hl 1 rfl) ?_
          refine lv_iload hx hb dX4_commonDays_40 (lv_at hl 4 rfl) ?_
          refine g_iald F hK hP 80 (Wd_at80 G g q I0 J0 R0 L0) (in_of (by omega)) dX4_commonDays_42 rfl ?_
          refine lv_topi (fun x5 ex5 => ?_)
          have gx5 : x5.toInt = (R0 64 (Int32.toNatClampNeg a4_6)).toInt := congrArg Int32.toInt (ex5)
          refine lv_iand hx hb dX4_commonDays_43 ?_
          refine lv_topi (fun x6 ex6 => ?_)
          refine lv_istore_n (lv' := [(3, .int x6), (0, .ref (g 68)), (1, .ref (g 80)), (2, .int p2), (4, .int a4_6)]) hx hb dX4_commonDays_44 rfl hl (by decide) rfl (fun ls hl => ?_)
          exact lab_45 x6 _ _ _ (show ((0 : Int) ≤ a4_6.toInt ∧ a4_6.toInt ≤ (11 : Int)) from by omega) hP hD hS (lv_sub hl [1, 2, 3, 0, 4] rfl)
  refine lv_bipush (v := 31) hx hb dX4_commonDays_0 (by decide) ?_
  refine lv_istore_n (lv' := [(3, .int 31), (0, .ref (g 68)), (1, .ref (g 80)), (2, .int p2)]) hx hb dX4_commonDays_2 rfl hl (by decide) rfl (fun ls hl => ?_)
  refine lv_iconst (v := 0) hx hb dX4_commonDays_3 (by decide) ?_
  refine lv_istore (lv' := [(4, .int 0), (3, .int 31), (0, .ref (g 68)), (1, .ref (g 80)), (2, .int p2)]) hx hb dX4_commonDays_4 hl (by decide) rfl (fun ls hl => ?_)
  exact lab_6 13 31 0 _ _ _ (show (12 - 0) < ((13 : Nat) : Int) from by omega) (by decide) hP hD hS (lv_sub hl [2, 3, 4, 1, 0] rfl)
set_option maxHeartbeats 4000000 in
set_option maxRecDepth 100000 in
theorem s_X9_isFitting (l : Launch) (G : Gx) (g q : Nat → Nat) (I0 : Nat → Int32) (J0 : Nat → Int64) (R0 : Nat → Nat → Int32) (L0 : Nat → Nat → Int64) (hvI : InvI Wd_lo Wd_hi I0) (hvR : InvR Wd_rl R0) (hq3 : q 3 = (g 11)) (p1 : Int32) (p2 : Int32) (hp1 : ((0 : Int) ≤ p1.toInt ∧ p1.toInt ≤ (11 : Int))) : CtI (S := Unit) l yX9_isFitting cX9_isFitting 6 (some .boolean) (rmD 2 0 0) G [.ref (g 69), .int p1, .int p2] (Wd G g q I0 J0 R0 L0) (fun r _ => ((0 : Int) ≤ r.toInt ∧ r.toInt ≤ (1 : Int))) (fun _ => (Wd G g q I0 J0 R0 L0)) := by
  refine ctI_of (own := RX9) (by decide +kernel) rfl (Nat.le_of_ble_eq_true rfl) ?_
  intro p e s m below meth c A ls F hr hlk hnm hK hP hD hA hS hl
  have hx := F.1
  have hb := F.2.1
  have hown := F.2.2.2.1
  have hl : lv_has ls 6 [(0, .ref (g 69)), (1, .int p1), (2, .int p2)] := hl
  obtain ⟨Q, hQ⟩ : ∃ Q : State → Prop, Q = MQ below (va_Qi (S := Unit) (fun r _ => ((0 : Int) ≤ r.toInt ∧ r.toInt ≤ (1 : Int))) (BX G A (fun _ => (Wd G g q I0 J0 R0 L0))) A) [.ref (g 69), .int p1, .int p2].toArray s 0 0 A := ⟨_, rfl⟩
  rw [show (MQ below (va_Qi (S := Unit) (fun r _ => ((0 : Int) ≤ r.toInt ∧ r.toInt ≤ (1 : Int))) (BX G A (fun _ => (Wd G g q I0 J0 R0 L0))) A) [.ref (g 69), .int p1, .int p2].toArray s (rmD 2 0 0).cells (rmD 2 0 0).slots A) = Q from hQ.symm]
  have lab_124 : ∀  (H : Heap) (locs : List Loc) (ls : Array Slot), va_P G.1 vwCl (Wd G g q I0 J0 R0 L0) H → va_D A (Wd G g q I0 J0 R0 L0) → va_S A s.heap H locs → lv_has ls 6 [] → W p l e (rmD 2 0 0) s m [.ref (g 69), .int p1, .int p2].toArray below meth c H locs 0 0 Q (F0 m 124 ls []) := by
    intro H locs ls hP hD hS hl
    refine lv_iconst (v := 1) hx hb dX9_isFitting_124 (by decide) ?_
    refine lv_goto (tgt := 129) hx hb dX9_isFitting_125 (by decide) ?_
    rw [hQ]
    exact q_z F hr hlk () hP hD hS (show ((0 : Int) ≤ 1 ∧ 1 ≤ (1 : Int)) from by omega) dX9_isFitting_129 (Nat.le_of_ble_eq_true rfl) (Nat.le_of_ble_eq_true rfl) (nar01 (by decide))
  have lab_101 : ∀ (a4_101 : Int32) (b0_101 : Int32) (H : Heap) (locs : List Loc) (ls : Array Slot), ((0 : Int) ≤ a4_101.toInt ∧ a4_101.toInt ≤ (5 : Int)) → ((0 : Int) ≤ b0_101.toInt ∧ b0_101.toInt ≤ (1 : Int)) → va_P G.1 vwCl (Wd G g q I0 J0 R0 L0) H → va_D A (Wd G g q I0 J0 R0 L0) → va_S A s.heap H locs → lv_has ls 6 [(0, .ref (g 69)), (4, .int a4_101)] → W p l e (rmD 2 0 0) s m [.ref (g 69), .int p1, .int p2].toArray below meth c H locs 0 0 Q (F0 m 101 ls [.int b0_101]) := by
    intro a4_101 b0_101 H locs ls y0_101 y1_101 hP hD hS hl
    refine lv_istore (lv' := [(5, .int b0_101), (0, .ref (g 69)), (4, .int a4_101)]) hx hb dX9_isFitting_101 hl (by decide) rfl (fun ls hl => ?_)
    refine lv_iload hx hb dX9_isFitting_103 (lv_at hl 0 rfl) ?_
    refine lv_if_eq (tgt := 124) hx hb dX9_isFitting_105 (by decide) (fun c1 => ?_) (fun c1 => ?_)
    · have gc1 : b0_101.toInt = 0 := congrArg Int32.toInt c1
      exact lab_124  _ _ _  hP hD hS (lv_sub hl [] rfl)
    · have gc1 : ¬ (b0_101.toInt = 0) := fun q0 => c1 (Int32.toInt_inj.mp q0)
      refine lv_aload_n hx hb dX9_isFitting_108 rfl (lv_at hl 1 rfl) ?_
      refine g_get F hK hP 71 (Wd_at71 G g q I0 J0 R0 L0) clX9 0 (by decide) flX9_25 rfl dX9_isFitting_109 ?_
      refine lv_aload_n hx hb dX9_isFitting_112 rfl (lv_at hl 1 rfl) ?_
      refine g_get F hK hP 71 (Wd_at71 G g q I0 J0 R0 L0) clX9 2 (by decide) flX9_15 rfl dX9_isFitting_113 ?_
      refine lv_iload hx hb dX9_isFitting_116 (lv_at hl 2 rfl) ?_
      refine wvi (As := [.ref (g 80), .int a4_101]) (rest := []) (b := (g 68)) (d := 1) F hK hP hD hS hA (s_X4_commonDays_sksets l G g q I0 J0 R0 L0 hvI hvR hq3 a4_101 (show ((0 : Int) ≤ a4_101.toInt ∧ a4_101.toInt ≤ (5 : Int)) from by omega)) kmV_X4_commonDays mlX9_80 clX4 rfl 70 (Wd_at70 G g q I0 J0 R0 L0) ⟨(Nat.le_of_ble_eq_true rfl), (Nat.le_of_ble_eq_true rfl)⟩ hl.1 rfl (Nat.le_of_ble_eq_true rfl) dX9_isFitting_118 (fun r2 u3 H locs hwr2 hP hD hS => ?_)
      refine lv_if_eq (tgt := 128) hx hb dX9_isFitting_121 (by decide) (fun c4 => ?_) (fun c4 => ?_)
      · have gc4 : r2.toInt = 0 := congrArg Int32.toInt c4
        refine lv_iconst (v := 0) hx hb dX9_isFitting_128 (by decide) ?_
        rw [hQ]
        exact q_z F hr hlk () hP hD hS (show ((0 : Int) ≤ 0 ∧ 0 ≤ (1 : Int)) from by omega) dX9_isFitting_129 (Nat.le_of_ble_eq_true rfl) (Nat.le_of_ble_eq_true rfl) (nar01 (by decide))
      · have gc4 : ¬ (r2.toInt = 0) := fun q0 => c4 (Int32.toInt_inj.mp q0)
        exact lab_124  _ _ _  hP hD hS (lv_sub hl [] rfl)
  have lab_100 : ∀ (a4_100 : Int32) (H : Heap) (locs : List Loc) (ls : Array Slot), ((0 : Int) ≤ a4_100.toInt ∧ a4_100.toInt ≤ (5 : Int)) → va_P G.1 vwCl (Wd G g q I0 J0 R0 L0) H → va_D A (Wd G g q I0 J0 R0 L0) → va_S A s.heap H locs → lv_has ls 6 [(0, .ref (g 69)), (4, .int a4_100)] → W p l e (rmD 2 0 0) s m [.ref (g 69), .int p1, .int p2].toArray below meth c H locs 0 0 Q (F0 m 100 ls []) := by
    intro a4_100 H locs ls y0_100 hP hD hS hl
    refine lv_iconst (v := 0) hx hb dX9_isFitting_100 (by decide) ?_
    exact lab_101 a4_100 0 _ _ _ (show ((0 : Int) ≤ a4_100.toInt ∧ a4_100.toInt ≤ (5 : Int)) from by omega) (by decide) hP hD hS (lv_sub hl [0, 1] rfl)
  have lab_64 : ∀  (H : Heap) (locs : List Loc) (ls : Array Slot), va_P G.1 vwCl (Wd G g q I0 J0 R0 L0) H → va_D A (Wd G g q I0 J0 R0 L0) → va_S A s.heap H locs → lv_has ls 6 [(0, .ref (g 69)), (1, .int p1), (3, .ref (g 11))] → W p l e (rmD 2 0 0) s m [.ref (g 69), .int p1, .int p2].toArray below meth c H locs 0 0 Q (F0 m 64 ls []) := by
    intro H locs ls hP hD hS hl
    refine lv_aload_n hx hb dX9_isFitting_64 rfl (lv_at hl 2 rfl) ?_
    refine g_get F hK hP 0 (Wd_at0 G g q I0 J0 R0 L0) clX2 1 (by decide) flX9_35 rfl dX9_isFitting_65 ?_
    refine g_get F hK hP 2 (Wd_at2 G g q I0 J0 R0 L0) clX3 2 (by decide) flX9_70 rfl dX9_isFitting_68 ?_
    refine lv_iload_n hx hb dX9_isFitting_71 rfl (lv_at hl 1 rfl) ?_
    refine g_iald F hK hP 10 (Wd_at10 G g q I0 J0 R0 L0) (in_of (by omega)) dX9_isFitting_72 rfl ?_
    refine lv_topi (fun x5 ex5 => ?_)
    have gx5 : x5.toInt = (R0 6 (Int32.toNatClampNeg p1)).toInt := congrArg Int32.toInt (ex5)
    have fx5 : ((0 : Int) ≤ x5.toInt ∧ x5.toInt ≤ (5 : Int)) := by rw [ex5]; exact hvR 6 (by decide) _ (clamp_lt (n := 12) (in_of (by omega)))
    refine lv_istore (lv' := [(4, .int x5), (0, .ref (g 69)), (1, .int p1), (3, .ref (g 11))]) hx hb dX9_isFitting_73 hl (by decide) rfl (fun ls hl => ?_)
    refine lv_aload_n hx hb dX9_isFitting_75 rfl (lv_at hl 3 rfl) ?_
    refine g_get F hK hP 0 (Wd_at0 G g q I0 J0 R0 L0) clX2 5 (by decide) flX9_73 rfl dX9_isFitting_76 ?_
    refine lv_iload hx hb dX9_isFitting_79 (lv_at hl 0 rfl) ?_
    refine g_zald F hK hP 26 (Wd_at26 G g q I0 J0 R0 L0) (in_of (by omega)) dX9_isFitting_81 rfl ?_
    refine lv_topi (fun x6 ex6 => ?_)
    have gx6 : x6.toInt = (R0 22 (Int32.toNatClampNeg x5)).toInt := congrArg Int32.toInt (ex6)
    have fx6 : ((0 : Int) ≤ x6.toInt ∧ x6.toInt ≤ (1 : Int)) := by rw [ex6]; exact hvR 22 (by decide) _ (clamp_lt (n := 6) (in_of (by omega)))
    refine lv_if_eq (tgt := 100) hx hb dX9_isFitting_82 (by decide) (fun c7 => ?_) (fun c7 => ?_)
    · have gc7 : x6.toInt = 0 := congrArg Int32.toInt c7
      exact lab_100 x5 _ _ _ (show ((0 : Int) ≤ x5.toInt ∧ x5.toInt ≤ (5 : Int)) from by omega) hP hD hS (lv_sub hl [1, 0] rfl)
    · have gc7 : ¬ (x6.toInt = 0) := fun q0 => c7 (Int32.toInt_inj.mp q0)
      refine lv_aload_n hx hb dX9_isFitting_85 rfl (lv_at hl 3 rfl) ?_
      refine g_get F hK hP 0 (Wd_at0 G g q I0 J0 R0 L0) clX2 6 (by decide) flX9_77 rfl dX9_isFitting_86 ?_
      refine lv_iload hx hb dX9_isFitting_89 (lv_at hl 0 rfl) ?_
      refine g_iald F hK hP 27 (Wd_at27 G g q I0 J0 R0 L0) (in_of (by omega)) dX9_isFitting_91 rfl ?_
      refine lv_topi (fun x8 ex8 => ?_)
      have gx8 : x8.toInt = (R0 23 (Int32.toNatClampNeg x5)).toInt := congrArg Int32.toInt (ex8)
      refine lv_iload_n hx hb dX9_isFitting_92 rfl (lv_at hl 2 rfl) ?_
      refine lv_icmp_ne (tgt := 100) hx hb dX9_isFitting_93 (by decide) (fun c9 => ?_) (fun c9 => ?_)
      · have gc9 : ¬ (x8.toInt = p1.toInt) := fun q0 => c9 (Int32.toInt_inj.mp q0)
        exact lab_100 x5 _ _ _ (show ((0 : Int) ≤ x5.toInt ∧ x5.toInt ≤ (5 : Int)) from by omega) hP hD hS (lv_sub hl [1, 0] rfl)
      · have gc9 : x8.toInt = p1.toInt := congrArg Int32.toInt c9
        refine lv_iconst (v := 1) hx hb dX9_isFitting_96 (by decide) ?_
        refine lv_goto (tgt := 101) hx hb dX9_isFitting_97 (by decide) ?_
        exact lab_101 x5 1 _ _ _ (show ((0 : Int) ≤ x5.toInt ∧ x5.toInt ≤ (5 : Int)) from by omega) (by decide) hP hD hS (lv_sub hl [1, 0] rfl)
  have lab_24 : ∀ (k_24 : Nat) (a4_24 : Int32) (H : Heap) (locs : List Loc) (ls : Array Slot), ((5 - a4_24.toInt) < (k_24 : Int)) → ((0 : Int) ≤ a4_24.toInt ∧ a4_24.toInt ≤ (5 : Int)) → va_P G.1 vwCl (Wd G g q I0 J0 R0 L0) H → va_D A (Wd G g q I0 J0 R0 L0) → va_S A s.heap H locs → lv_has ls 6 [(0, .ref (g 69)), (1, .int p1), (2, .int p2), (3, .ref (g 11)), (4, .int a4_24)] → W p l e (rmD 2 0 0) s m [.ref (g 69), .int p1, .int p2].toArray below meth c H locs 0 0 Q (F0 m 24 ls []) := by
    intro k_24
    induction k_24 with
    | zero =>
      intro a4_24 H locs ls hm y0_24 hP hD hS hl
      exact absurd hm (by omega)
    | succ k_24 ih_24 =>
      intro a4_24 H locs ls hm y0_24 hP hD hS hl
      have lab_58 : ∀  (H : Heap) (locs : List Loc) (ls : Array Slot), ((0 : Int) ≤ a4_24.toInt ∧ a4_24.toInt ≤ (4 : Int)) → va_P G.1 vwCl (Wd G g q I0 J0 R0 L0) H → va_D A (Wd G g q I0 J0 R0 L0) → va_S A s.heap H locs → lv_has ls 6 [(0, .ref (g 69)), (1, .int p1), (2, .int p2), (3, .ref (g 11)), (4, .int a4_24)] → W p l e (rmD 2 0 0) s m [.ref (g 69), .int p1, .int p2].toArray below meth c H locs 0 0 Q (F0 m 58 ls []) := by
        intro H locs ls y0_58 hP hD hS hl
        obtain ⟨x10, ex10⟩ : ∃ y : Int32, y = a4_24 + 1 := ⟨_, rfl⟩
        have fx10 : x10.toInt = a4_24.toInt + (1 : Int) := by rw [ex10]; exact t_add (by show (-2147483648 : Int) ≤ a4_24.toInt + (1 : Int); omega) (by show a4_24.toInt + (1 : Int) ≤ 2147483647; omega)
        refine lv_iinc (v := x10) (lv' := [(4, .int x10), (0, .ref (g 69)), (1, .int p1), (2, .int p2), (3, .ref (g 11))]) hx hb dX9_isFitting_58 hl (k := 4) rfl (by rw [ex10]; rfl) (by decide) rfl (fun ls hl => ?_)
        refine lv_goto (tgt := 24) hx hb dX9_isFitting_61 (by decide) ?_
        exact ih_24 x10 _ _ _ (show (5 - x10.toInt) < (k_24 : Int) from by omega) (show ((0 : Int) ≤ x10.toInt ∧ x10.toInt ≤ (5 : Int)) from by omega) hP hD hS (lv_sub hl [1, 2, 3, 4, 0] rfl)
      refine lv_iload hx hb dX9_isFitting_24 (lv_at hl 4 rfl) ?_
      refine lv_iconst (v := 5) hx hb dX9_isFitting_26 (by decide) ?_
      refine lv_icmp_ge (tgt := 64) hx hb dX9_isFitting_27 (by decide) (fun c11 => ?_) (fun c11 => ?_)
      · have gc11 : 5 ≤ a4_24.toInt := (tle _ _).mp c11
        exact lab_64  _ _ _  hP hD hS (lv_sub hl [0, 1, 3] rfl)
      · have gc11 : ¬ (5 ≤ a4_24.toInt) := fun q0 => c11 ((tle _ _).mpr q0)
        refine lv_aload_n hx hb dX9_isFitting_30 rfl (lv_at hl 0 rfl) ?_
        refine g_get F hK hP 71 (Wd_at71 G g q I0 J0 R0 L0) clX9 2 (by decide) flX9_15 rfl dX9_isFitting_31 ?_
        refine lv_iload_n hx hb dX9_isFitting_34 rfl (lv_at hl 1 rfl) ?_
        refine g_iald F hK hP 80 (Wd_at80 G g q I0 J0 R0 L0) (in_of (by omega)) dX9_isFitting_35 rfl ?_
        refine lv_topi (fun x12 ex12 => ?_)
        have gx12 : x12.toInt = (R0 64 (Int32.toNatClampNeg p1)).toInt := congrArg Int32.toInt (ex12)
        refine lv_iload hx hb dX9_isFitting_36 (lv_at hl 4 rfl) ?_
        refine lv_ishr hx hb dX9_isFitting_38 ?_
        refine lv_topi (fun x13 ex13 => ?_)
        refine lv_iconst (v := 1) hx hb dX9_isFitting_39 (by decide) ?_
        refine lv_iand hx hb dX9_isFitting_40 ?_
        refine lv_topi (fun x14 ex14 => ?_)
        have fx14 : (0 : Int) ≤ x14.toInt ∧ x14.toInt ≤ (1 : Int) := by rw [ex14]; exact t_and (b := 1) (by decide)
        refine lv_iconst (v := 1) hx hb dX9_isFitting_41 (by decide) ?_
        refine lv_icmp_ne (tgt := 58) hx hb dX9_isFitting_42 (by decide) (fun c15 => ?_) (fun c15 => ?_)
        · have gc15 : ¬ (x14.toInt = 1) := fun q0 => c15 (Int32.toInt_inj.mp q0)
          exact lab_58  _ _ _ (show ((0 : Int) ≤ a4_24.toInt ∧ a4_24.toInt ≤ (4 : Int)) from by omega) hP hD hS (lv_sub hl [0, 1, 2, 3, 4] rfl)
        · have gc15 : x14.toInt = 1 := congrArg Int32.toInt c15
          refine lv_aload_n hx hb dX9_isFitting_45 rfl (lv_at hl 0 rfl) ?_
          refine g_get F hK hP 71 (Wd_at71 G g q I0 J0 R0 L0) clX9 4 (by decide) flX9_22 rfl dX9_isFitting_46 ?_
          refine lv_iload hx hb dX9_isFitting_49 (lv_at hl 4 rfl) ?_
          refine g_iald F hK hP 82 (Wd_at82 G g q I0 J0 R0 L0) (in_of (by omega)) dX9_isFitting_51 rfl ?_
          refine lv_topi (fun x16 ex16 => ?_)
          have gx16 : x16.toInt = (R0 66 (Int32.toNatClampNeg a4_24)).toInt := congrArg Int32.toInt (ex16)
          refine lv_iload_n hx hb dX9_isFitting_52 rfl (lv_at hl 2 rfl) ?_
          refine lv_icmp_lt (tgt := 58) hx hb dX9_isFitting_53 (by decide) (fun c17 => ?_) (fun c17 => ?_)
          · have gc17 : x16.toInt < p2.toInt := (tlt _ _).mp c17
            exact lab_58  _ _ _ (show ((0 : Int) ≤ a4_24.toInt ∧ a4_24.toInt ≤ (4 : Int)) from by omega) hP hD hS (lv_sub hl [0, 1, 2, 3, 4] rfl)
          · have gc17 : ¬ (x16.toInt < p2.toInt) := fun q0 => c17 ((tlt _ _).mpr q0)
            refine lv_iconst (v := 0) hx hb dX9_isFitting_56 (by decide) ?_
            rw [hQ]
            exact q_z F hr hlk () hP hD hS (show ((0 : Int) ≤ 0 ∧ 0 ≤ (1 : Int)) from by omega) dX9_isFitting_57 (Nat.le_of_ble_eq_true rfl) (Nat.le_of_ble_eq_true rfl) (nar01 (by decide))
  refine lv_aload_n hx hb dX9_isFitting_0 rfl (lv_at hl 0 rfl) ?_
  refine g_get F hK hP 71 (Wd_at71 G g q I0 J0 R0 L0) clX9 0 (by decide) flX9_25 rfl dX9_isFitting_1 ?_
  refine g_get F hK hP 70 (Wd_at70 G g q I0 J0 R0 L0) clX4 0 (by decide) flX9_29 rfl dX9_isFitting_4 ?_
  refine cst_r hq3 ?_
  refine lv_astore_n (lv' := [(3, .ref (g 11)), (0, .ref (g 69)), (1, .int p1), (2, .int p2)]) hx hb dX9_isFitting_7 rfl hl (by decide) rfl (fun ls hl => ?_)
  refine lv_aload_n hx hb dX9_isFitting_8 rfl (lv_at hl 0 rfl) ?_
  refine g_get F hK hP 0 (Wd_at0 G g q I0 J0 R0 L0) clX2 1 (by decide) flX9_35 rfl dX9_isFitting_9 ?_
  refine g_get F hK hP 2 (Wd_at2 G g q I0 J0 R0 L0) clX3 6 (by decide) flX9_67 rfl dX9_isFitting_12 ?_
  refine lv_iload_n hx hb dX9_isFitting_15 rfl (lv_at hl 2 rfl) ?_
  refine g_iald F hK hP 14 (Wd_at14 G g q I0 J0 R0 L0) (in_of (by omega)) dX9_isFitting_16 rfl ?_
  refine lv_topi (fun x18 ex18 => ?_)
  have gx18 : x18.toInt = (R0 10 (Int32.toNatClampNeg p1)).toInt := congrArg Int32.toInt (ex18)
  have fx18 : ((-1 : Int) ≤ x18.toInt ∧ x18.toInt ≤ (4 : Int)) := by rw [ex18]; exact hvR 10 (by decide) _ (clamp_lt (n := 12) (in_of (by omega)))
  refine lv_iconst (v := (-1)) hx hb dX9_isFitting_17 (by decide) ?_
  refine lv_icmp_ne (tgt := 64) hx hb dX9_isFitting_18 (by decide) (fun c19 => ?_) (fun c19 => ?_)
  · have gc19 : ¬ (x18.toInt = (-1)) := fun q0 => c19 (Int32.toInt_inj.mp q0)
    exact lab_64  _ _ _  hP hD hS (lv_sub hl [1, 2, 0] rfl)
  · have gc19 : x18.toInt = (-1) := congrArg Int32.toInt c19
    refine lv_iconst (v := 0) hx hb dX9_isFitting_21 (by decide) ?_
    refine lv_istore (lv' := [(4, .int 0), (3, .ref (g 11)), (0, .ref (g 69)), (1, .int p1), (2, .int p2)]) hx hb dX9_isFitting_22 hl (by decide) rfl (fun ls hl => ?_)
    exact lab_24 6 0 _ _ _ (show (5 - 0) < ((6 : Nat) : Int) from by omega) (by decide) hP hD hS (lv_sub hl [2, 3, 4, 1, 0] rfl)
set_option maxHeartbeats 4000000 in
set_option maxRecDepth 100000 in
theorem s_X8_fitNow (l : Launch) (G : Gx) (g q : Nat → Nat) (I0 : Nat → Int32) (J0 : Nat → Int64) (R0 : Nat → Nat → Int32) (L0 : Nat → Nat → Int64) (hvI : InvI Wd_lo Wd_hi I0) (hvR : InvR Wd_rl R0) (hq3 : q 3 = (g 11))   : CtI (S := Unit) l yX8_fitNow cX8_fitNow 5 (some .int) (rmD 1 0 0) G [.ref (g 70)] (Wd G g q I0 J0 R0 L0) (fun r _ => True) (fun _ => (Wd G g q I0 J0 R0 L0)) := by
  refine ctI_of (own := RX8) (by decide +kernel) rfl (Nat.le_of_ble_eq_true rfl) ?_
  intro p e s m below meth c A ls F hr hlk hnm hK hP hD hA hS hl
  have hx := F.1
  have hb := F.2.1
  have hown := F.2.2.2.1
  have hl : lv_has ls 5 [(0, .ref (g 70))] := hl
  obtain ⟨Q, hQ⟩ : ∃ Q : State → Prop, Q = MQ below (va_Qi (S := Unit) (fun r _ => True) (BX G A (fun _ => (Wd G g q I0 J0 R0 L0))) A) [.ref (g 70)].toArray s 0 0 A := ⟨_, rfl⟩
  rw [show (MQ below (va_Qi (S := Unit) (fun r _ => True) (BX G A (fun _ => (Wd G g q I0 J0 R0 L0))) A) [.ref (g 70)].toArray s (rmD 1 0 0).cells (rmD 1 0 0).slots A) = Q from hQ.symm]
  have lab_72 : ∀ (k_72 : Nat) (a2_72 : Int32) (a3_72 : Int32) (H : Heap) (locs : List Loc) (ls : Array Slot), ((12 - a3_72.toInt) < (k_72 : Int)) → ((0 : Int) ≤ a3_72.toInt ∧ a3_72.toInt ≤ (12 : Int)) → va_P G.1 vwCl (Wd G g q I0 J0 R0 L0) H → va_D A (Wd G g q I0 J0 R0 L0) → va_S A s.heap H locs → lv_has ls 5 [(0, .ref (g 70)), (1, .ref (g 11)), (2, .int a2_72), (3, .int a3_72)] → W p l e (rmD 1 0 0) s m [.ref (g 70)].toArray below meth c H locs 0 0 Q (F0 m 72 ls []) := by
    intro k_72
    induction k_72 with
    | zero =>
      intro a2_72 a3_72 H locs ls hm y0_72 hP hD hS hl
      exact absurd hm (by omega)
    | succ k_72 ih_72 =>
      intro a2_72 a3_72 H locs ls hm y0_72 hP hD hS hl
      have lab_110 : ∀ (a2_110 : Int32) (H : Heap) (locs : List Loc) (ls : Array Slot), ((0 : Int) ≤ a3_72.toInt ∧ a3_72.toInt ≤ (11 : Int)) → va_P G.1 vwCl (Wd G g q I0 J0 R0 L0) H → va_D A (Wd G g q I0 J0 R0 L0) → va_S A s.heap H locs → lv_has ls 5 [(0, .ref (g 70)), (1, .ref (g 11)), (2, .int a2_110), (3, .int a3_72)] → W p l e (rmD 1 0 0) s m [.ref (g 70)].toArray below meth c H locs 0 0 Q (F0 m 110 ls []) := by
        intro a2_110 H locs ls y0_110 hP hD hS hl
        obtain ⟨x1, ex1⟩ : ∃ y : Int32, y = a3_72 + 1 := ⟨_, rfl⟩
        have fx1 : x1.toInt = a3_72.toInt + (1 : Int) := by rw [ex1]; exact t_add (by show (-2147483648 : Int) ≤ a3_72.toInt + (1 : Int); omega) (by show a3_72.toInt + (1 : Int) ≤ 2147483647; omega)
        refine lv_iinc (v := x1) (lv' := [(3, .int x1), (0, .ref (g 70)), (1, .ref (g 11)), (2, .int a2_110)]) hx hb dX8_fitNow_110 hl (k := 3) rfl (by rw [ex1]; rfl) (by decide) rfl (fun ls hl => ?_)
        refine lv_goto (tgt := 72) hx hb dX8_fitNow_113 (by decide) ?_
        exact ih_72 a2_110 x1 _ _ _ (show (12 - x1.toInt) < (k_72 : Int) from by omega) (show ((0 : Int) ≤ x1.toInt ∧ x1.toInt ≤ (12 : Int)) from by omega) hP hD hS (lv_sub hl [1, 2, 3, 0] rfl)
      refine lv_iload_n hx hb dX8_fitNow_72 rfl (lv_at hl 3 rfl) ?_
      refine lv_aload_n hx hb dX8_fitNow_73 rfl (lv_at hl 1 rfl) ?_
      refine g_get F hK hP 0 (Wd_at0 G g q I0 J0 R0 L0) clX2 1 (by decide) flX8_46 rfl dX8_fitNow_74 ?_
      refine g_get F hK hP 2 (Wd_at2 G g q I0 J0 R0 L0) clX3 0 (by decide) flX8_50 rfl dX8_fitNow_77 ?_
      have w_I0_6 := rg (hvI 6 (by decide)) (0) (12) rfl rfl
      refine lv_icmp_ge (tgt := 116) hx hb dX8_fitNow_80 (by decide) (fun c2 => ?_) (fun c2 => ?_)
      · have gc2 : (I0 6).toInt ≤ a3_72.toInt := (tle _ _).mp c2
        refine lv_iload_n hx hb dX8_fitNow_116 rfl (lv_at hl 2 rfl) ?_
        rw [hQ]
        exact q_i F hr hlk () hP hD hS trivial dX8_fitNow_117 (Nat.le_of_ble_eq_true rfl) (Nat.le_of_ble_eq_true rfl)
      · have gc2 : ¬ ((I0 6).toInt ≤ a3_72.toInt) := fun q0 => c2 ((tle _ _).mpr q0)
        refine lv_aload_n hx hb dX8_fitNow_83 rfl (lv_at hl 0 rfl) ?_
        refine g_get F hK hP 72 (Wd_at72 G g q I0 J0 R0 L0) clX8 1 (by decide) flX8_9 rfl dX8_fitNow_84 ?_
        refine lv_iload_n hx hb dX8_fitNow_87 rfl (lv_at hl 3 rfl) ?_
        refine g_iald F hK hP 83 (Wd_at83 G g q I0 J0 R0 L0) (in_of (by omega)) dX8_fitNow_88 rfl ?_
        refine lv_topi (fun x3 ex3 => ?_)
        have gx3 : x3.toInt = (R0 67 (Int32.toNatClampNeg a3_72)).toInt := congrArg Int32.toInt (ex3)
        have fx3 : ((-1 : Int) ≤ x3.toInt ∧ x3.toInt ≤ (4 : Int)) := by rw [ex3]; exact hvR 67 (by decide) _ (clamp_lt (n := 12) (in_of (by omega)))
        refine lv_iconst (v := (-1)) hx hb dX8_fitNow_89 (by decide) ?_
        refine lv_icmp_eq (tgt := 110) hx hb dX8_fitNow_90 (by decide) (fun c4 => ?_) (fun c4 => ?_)
        · have gc4 : x3.toInt = (-1) := congrArg Int32.toInt c4
          exact lab_110 a2_72 _ _ _ (show ((0 : Int) ≤ a3_72.toInt ∧ a3_72.toInt ≤ (11 : Int)) from by omega) hP hD hS (lv_sub hl [0, 1, 2, 3] rfl)
        · have gc4 : ¬ (x3.toInt = (-1)) := fun q0 => c4 (Int32.toInt_inj.mp q0)
          refine lv_iload_n hx hb dX8_fitNow_93 rfl (lv_at hl 2 rfl) ?_
          refine lv_aload_n hx hb dX8_fitNow_94 rfl (lv_at hl 1 rfl) ?_
          refine g_get F hK hP 0 (Wd_at0 G g q I0 J0 R0 L0) clX2 0 (by decide) flX8_28 rfl dX8_fitNow_95 ?_
          refine g_get F hK hP 1 (Wd_at1 G g q I0 J0 R0 L0) clX1 5 (by decide) flX8_68 rfl dX8_fitNow_98 ?_
          refine lv_aload_n hx hb dX8_fitNow_101 rfl (lv_at hl 0 rfl) ?_
          refine g_get F hK hP 72 (Wd_at72 G g q I0 J0 R0 L0) clX8 1 (by decide) flX8_9 rfl dX8_fitNow_102 ?_
          refine lv_iload_n hx hb dX8_fitNow_105 rfl (lv_at hl 3 rfl) ?_
          refine g_iald F hK hP 83 (Wd_at83 G g q I0 J0 R0 L0) (in_of (by omega)) dX8_fitNow_106 rfl ?_
          refine lv_topi (fun x5 ex5 => ?_)
          have gx5 : x5.toInt = (R0 67 (Int32.toNatClampNeg a3_72)).toInt := congrArg Int32.toInt (ex5)
          have fx5 : ((-1 : Int) ≤ x5.toInt ∧ x5.toInt ≤ (4 : Int)) := by rw [ex5]; exact hvR 67 (by decide) _ (clamp_lt (n := 12) (in_of (by omega)))
          refine g_iald F hK hP 6 (Wd_at6 G g q I0 J0 R0 L0) (in_of (by omega)) dX8_fitNow_107 rfl ?_
          refine lv_topi (fun x6 ex6 => ?_)
          have gx6 : x6.toInt = (R0 2 (Int32.toNatClampNeg x5)).toInt := congrArg Int32.toInt (ex6)
          refine lv_isub hx hb dX8_fitNow_108 ?_
          refine lv_topi (fun x7 ex7 => ?_)
          refine lv_istore_n (lv' := [(2, .int x7), (0, .ref (g 70)), (1, .ref (g 11)), (3, .int a3_72)]) hx hb dX8_fitNow_109 rfl hl (by decide) rfl (fun ls hl => ?_)
          exact lab_110 x7 _ _ _ (show ((0 : Int) ≤ a3_72.toInt ∧ a3_72.toInt ≤ (11 : Int)) from by omega) hP hD hS (lv_sub hl [1, 2, 0, 3] rfl)
  have lab_12 : ∀ (k_12 : Nat) (a2_12 : Int32) (a3_12 : Int32) (H : Heap) (locs : List Loc) (ls : Array Slot), ((30 - a3_12.toInt) < (k_12 : Int)) → ((0 : Int) ≤ a3_12.toInt ∧ a3_12.toInt ≤ (30 : Int)) → va_P G.1 vwCl (Wd G g q I0 J0 R0 L0) H → va_D A (Wd G g q I0 J0 R0 L0) → va_S A s.heap H locs → lv_has ls 5 [(0, .ref (g 70)), (1, .ref (g 11)), (2, .int a2_12), (3, .int a3_12)] → W p l e (rmD 1 0 0) s m [.ref (g 70)].toArray below meth c H locs 0 0 Q (F0 m 12 ls []) := by
    intro k_12
    induction k_12 with
    | zero =>
      intro a2_12 a3_12 H locs ls hm y0_12 hP hD hS hl
      exact absurd hm (by omega)
    | succ k_12 ih_12 =>
      intro a2_12 a3_12 H locs ls hm y0_12 hP hD hS hl
      have lab_64 : ∀ (a2_64 : Int32) (H : Heap) (locs : List Loc) (ls : Array Slot), ((0 : Int) ≤ a3_12.toInt ∧ a3_12.toInt ≤ (29 : Int)) → va_P G.1 vwCl (Wd G g q I0 J0 R0 L0) H → va_D A (Wd G g q I0 J0 R0 L0) → va_S A s.heap H locs → lv_has ls 5 [(0, .ref (g 70)), (1, .ref (g 11)), (2, .int a2_64), (3, .int a3_12)] → W p l e (rmD 1 0 0) s m [.ref (g 70)].toArray below meth c H locs 0 0 Q (F0 m 64 ls []) := by
        intro a2_64 H locs ls y0_64 hP hD hS hl
        obtain ⟨x8, ex8⟩ : ∃ y : Int32, y = a3_12 + 1 := ⟨_, rfl⟩
        have fx8 : x8.toInt = a3_12.toInt + (1 : Int) := by rw [ex8]; exact t_add (by show (-2147483648 : Int) ≤ a3_12.toInt + (1 : Int); omega) (by show a3_12.toInt + (1 : Int) ≤ 2147483647; omega)
        refine lv_iinc (v := x8) (lv' := [(3, .int x8), (0, .ref (g 70)), (1, .ref (g 11)), (2, .int a2_64)]) hx hb dX8_fitNow_64 hl (k := 3) rfl (by rw [ex8]; rfl) (by decide) rfl (fun ls hl => ?_)
        refine lv_goto (tgt := 12) hx hb dX8_fitNow_67 (by decide) ?_
        exact ih_12 a2_64 x8 _ _ _ (show (30 - x8.toInt) < (k_12 : Int) from by omega) (show ((0 : Int) ≤ x8.toInt ∧ x8.toInt ≤ (30 : Int)) from by omega) hP hD hS (lv_sub hl [1, 2, 3, 0] rfl)
      refine lv_iload_n hx hb dX8_fitNow_12 rfl (lv_at hl 3 rfl) ?_
      refine lv_aload_n hx hb dX8_fitNow_13 rfl (lv_at hl 1 rfl) ?_
      refine g_get F hK hP 0 (Wd_at0 G g q I0 J0 R0 L0) clX2 7 (by decide) flX8_71 rfl dX8_fitNow_14 ?_
      have w_I0_1 := rg (hvI 1 (by decide)) (0) (30) rfl rfl
      refine lv_icmp_ge (tgt := 70) hx hb dX8_fitNow_17 (by decide) (fun c9 => ?_) (fun c9 => ?_)
      · have gc9 : (I0 1).toInt ≤ a3_12.toInt := (tle _ _).mp c9
        refine lv_iconst (v := 0) hx hb dX8_fitNow_70 (by decide) ?_
        refine lv_istore_n (lv' := [(3, .int 0), (0, .ref (g 70)), (1, .ref (g 11)), (2, .int a2_12)]) hx hb dX8_fitNow_71 rfl hl (by decide) rfl (fun ls hl => ?_)
        exact lab_72 13 a2_12 0 _ _ _ (show (12 - 0) < ((13 : Nat) : Int) from by omega) (by decide) hP hD hS (lv_sub hl [1, 2, 3, 0] rfl)
      · have gc9 : ¬ ((I0 1).toInt ≤ a3_12.toInt) := fun q0 => c9 ((tle _ _).mpr q0)
        refine lv_aload_n hx hb dX8_fitNow_20 rfl (lv_at hl 0 rfl) ?_
        refine g_get F hK hP 72 (Wd_at72 G g q I0 J0 R0 L0) clX8 1 (by decide) flX8_9 rfl dX8_fitNow_21 ?_
        refine lv_aload_n hx hb dX8_fitNow_24 rfl (lv_at hl 1 rfl) ?_
        refine g_get F hK hP 0 (Wd_at0 G g q I0 J0 R0 L0) clX2 8 (by decide) flX8_74 rfl dX8_fitNow_25 ?_
        refine lv_iload_n hx hb dX8_fitNow_28 rfl (lv_at hl 3 rfl) ?_
        refine g_iald F hK hP 28 (Wd_at28 G g q I0 J0 R0 L0) (in_of (by omega)) dX8_fitNow_29 rfl ?_
        refine lv_topi (fun x10 ex10 => ?_)
        have gx10 : x10.toInt = (R0 24 (Int32.toNatClampNeg a3_12)).toInt := congrArg Int32.toInt (ex10)
        have fx10 : ((0 : Int) ≤ x10.toInt ∧ x10.toInt ≤ (11 : Int)) := by rw [ex10]; exact hvR 24 (by decide) _ (clamp_lt (n := 30) (in_of (by omega)))
        refine g_iald F hK hP 83 (Wd_at83 G g q I0 J0 R0 L0) (in_of (by omega)) dX8_fitNow_30 rfl ?_
        refine lv_topi (fun x11 ex11 => ?_)
        have gx11 : x11.toInt = (R0 67 (Int32.toNatClampNeg x10)).toInt := congrArg Int32.toInt (ex11)
        have fx11 : ((-1 : Int) ≤ x11.toInt ∧ x11.toInt ≤ (4 : Int)) := by rw [ex11]; exact hvR 67 (by decide) _ (clamp_lt (n := 12) (in_of (by omega)))
        refine lv_istore (lv' := [(4, .int x11), (0, .ref (g 70)), (1, .ref (g 11)), (2, .int a2_12), (3, .int a3_12)]) hx hb dX8_fitNow_31 hl (by decide) rfl (fun ls hl => ?_)
        refine lv_iload hx hb dX8_fitNow_33 (lv_at hl 0 rfl) ?_
        refine lv_iconst (v := (-1)) hx hb dX8_fitNow_35 (by decide) ?_
        refine lv_icmp_eq (tgt := 64) hx hb dX8_fitNow_36 (by decide) (fun c12 => ?_) (fun c12 => ?_)
        · have gc12 : x11.toInt = (-1) := congrArg Int32.toInt c12
          exact lab_64 a2_12 _ _ _ (show ((0 : Int) ≤ a3_12.toInt ∧ a3_12.toInt ≤ (29 : Int)) from by omega) hP hD hS (lv_sub hl [1, 2, 3, 4] rfl)
        · have gc12 : ¬ (x11.toInt = (-1)) := fun q0 => c12 (Int32.toInt_inj.mp q0)
          refine lv_iload hx hb dX8_fitNow_39 (lv_at hl 0 rfl) ?_
          refine lv_aload_n hx hb dX8_fitNow_41 rfl (lv_at hl 1 rfl) ?_
          refine g_get F hK hP 72 (Wd_at72 G g q I0 J0 R0 L0) clX8 1 (by decide) flX8_9 rfl dX8_fitNow_42 ?_
          refine lv_aload_n hx hb dX8_fitNow_45 rfl (lv_at hl 2 rfl) ?_
          refine g_get F hK hP 0 (Wd_at0 G g q I0 J0 R0 L0) clX2 9 (by decide) flX8_77 rfl dX8_fitNow_46 ?_
          refine lv_iload_n hx hb dX8_fitNow_49 rfl (lv_at hl 4 rfl) ?_
          refine g_iald F hK hP 29 (Wd_at29 G g q I0 J0 R0 L0) (in_of (by omega)) dX8_fitNow_50 rfl ?_
          refine lv_topi (fun x13 ex13 => ?_)
          have gx13 : x13.toInt = (R0 25 (Int32.toNatClampNeg a3_12)).toInt := congrArg Int32.toInt (ex13)
          have fx13 : ((0 : Int) ≤ x13.toInt ∧ x13.toInt ≤ (11 : Int)) := by rw [ex13]; exact hvR 25 (by decide) _ (clamp_lt (n := 30) (in_of (by omega)))
          refine g_iald F hK hP 83 (Wd_at83 G g q I0 J0 R0 L0) (in_of (by omega)) dX8_fitNow_51 rfl ?_
          refine lv_topi (fun x14 ex14 => ?_)
          have gx14 : x14.toInt = (R0 67 (Int32.toNatClampNeg x13)).toInt := congrArg Int32.toInt (ex14)
          have fx14 : ((-1 : Int) ≤ x14.toInt ∧ x14.toInt ≤ (4 : Int)) := by rw [ex14]; exact hvR 67 (by decide) _ (clamp_lt (n := 12) (in_of (by omega)))
          refine lv_icmp_ne (tgt := 64) hx hb dX8_fitNow_52 (by decide) (fun c15 => ?_) (fun c15 => ?_)
          · have gc15 : ¬ (x11.toInt = x14.toInt) := fun q0 => c15 (Int32.toInt_inj.mp q0)
            exact lab_64 a2_12 _ _ _ (show ((0 : Int) ≤ a3_12.toInt ∧ a3_12.toInt ≤ (29 : Int)) from by omega) hP hD hS (lv_sub hl [1, 2, 3, 4] rfl)
          · have gc15 : x11.toInt = x14.toInt := congrArg Int32.toInt c15
            refine lv_iload_n hx hb dX8_fitNow_55 rfl (lv_at hl 3 rfl) ?_
            refine lv_aload_n hx hb dX8_fitNow_56 rfl (lv_at hl 2 rfl) ?_
            refine g_get F hK hP 0 (Wd_at0 G g q I0 J0 R0 L0) clX2 10 (by decide) flX8_80 rfl dX8_fitNow_57 ?_
            refine lv_iload_n hx hb dX8_fitNow_60 rfl (lv_at hl 4 rfl) ?_
            refine g_iald F hK hP 30 (Wd_at30 G g q I0 J0 R0 L0) (in_of (by omega)) dX8_fitNow_61 rfl ?_
            refine lv_topi (fun x16 ex16 => ?_)
            have gx16 : x16.toInt = (R0 26 (Int32.toNatClampNeg a3_12)).toInt := congrArg Int32.toInt (ex16)
            refine lv_iadd hx hb dX8_fitNow_62 ?_
            refine lv_topi (fun x17 ex17 => ?_)
            refine lv_istore_n (lv' := [(2, .int x17), (4, .int x11), (0, .ref (g 70)), (1, .ref (g 11)), (3, .int a3_12)]) hx hb dX8_fitNow_63 rfl hl (by decide) rfl (fun ls hl => ?_)
            exact lab_64 x17 _ _ _ (show ((0 : Int) ≤ a3_12.toInt ∧ a3_12.toInt ≤ (29 : Int)) from by omega) hP hD hS (lv_sub hl [2, 3, 0, 4] rfl)
  refine lv_aload_n hx hb dX8_fitNow_0 rfl (lv_at hl 0 rfl) ?_
  refine g_get F hK hP 72 (Wd_at72 G g q I0 J0 R0 L0) clX8 0 (by decide) flX8_18 rfl dX8_fitNow_1 ?_
  refine g_get F hK hP 70 (Wd_at70 G g q I0 J0 R0 L0) clX4 0 (by decide) flX8_22 rfl dX8_fitNow_4 ?_
  refine cst_r hq3 ?_
  refine lv_astore_n (lv' := [(1, .ref (g 11)), (0, .ref (g 70))]) hx hb dX8_fitNow_7 rfl hl (by decide) rfl (fun ls hl => ?_)
  refine lv_iconst (v := 0) hx hb dX8_fitNow_8 (by decide) ?_
  refine lv_istore_n (lv' := [(2, .int 0), (1, .ref (g 11)), (0, .ref (g 70))]) hx hb dX8_fitNow_9 rfl hl (by decide) rfl (fun ls hl => ?_)
  refine lv_iconst (v := 0) hx hb dX8_fitNow_10 (by decide) ?_
  refine lv_istore_n (lv' := [(3, .int 0), (2, .int 0), (1, .ref (g 11)), (0, .ref (g 70))]) hx hb dX8_fitNow_11 rfl hl (by decide) rfl (fun ls hl => ?_)
  exact lab_12 31 0 0 _ _ _ (show (30 - 0) < ((31 : Nat) : Int) from by omega) (by decide) hP hD hS (lv_sub hl [3, 2, 1, 0] rfl)
set_option maxHeartbeats 4000000 in
set_option maxRecDepth 100000 in
theorem s_X8_isMovable (l : Launch) (G : Gx) (g q : Nat → Nat) (I0 : Nat → Int32) (J0 : Nat → Int64) (R0 : Nat → Nat → Int32) (L0 : Nat → Nat → Int64) (hvI : InvI Wd_lo Wd_hi I0) (hvR : InvR Wd_rl R0) (hq3 : q 3 = (g 11)) (p1 : Int32) (hp1 : ((0 : Int) ≤ p1.toInt ∧ p1.toInt ≤ (11 : Int))) : CtI (S := Unit) l yX8_isMovable cX8_isMovable 2 (some .boolean) (rmD 1 0 0) G [.ref (g 70), .int p1] (Wd G g q I0 J0 R0 L0) (fun r _ => ((0 : Int) ≤ r.toInt ∧ r.toInt ≤ (1 : Int))) (fun _ => (Wd G g q I0 J0 R0 L0)) := by
  refine ctI_of (own := RX8) (by decide +kernel) rfl (Nat.le_of_ble_eq_true rfl) ?_
  intro p e s m below meth c A ls F hr hlk hnm hK hP hD hA hS hl
  have hx := F.1
  have hb := F.2.1
  have hown := F.2.2.2.1
  have hl : lv_has ls 2 [(0, .ref (g 70)), (1, .int p1)] := hl
  obtain ⟨Q, hQ⟩ : ∃ Q : State → Prop, Q = MQ below (va_Qi (S := Unit) (fun r _ => ((0 : Int) ≤ r.toInt ∧ r.toInt ≤ (1 : Int))) (BX G A (fun _ => (Wd G g q I0 J0 R0 L0))) A) [.ref (g 70), .int p1].toArray s 0 0 A := ⟨_, rfl⟩
  rw [show (MQ below (va_Qi (S := Unit) (fun r _ => ((0 : Int) ≤ r.toInt ∧ r.toInt ≤ (1 : Int))) (BX G A (fun _ => (Wd G g q I0 J0 R0 L0))) A) [.ref (g 70), .int p1].toArray s (rmD 1 0 0).cells (rmD 1 0 0).slots A) = Q from hQ.symm]
  refine lv_aload_n hx hb dX8_isMovable_0 rfl (lv_at hl 0 rfl) ?_
  refine g_get F hK hP 72 (Wd_at72 G g q I0 J0 R0 L0) clX8 1 (by decide) flX8_9 rfl dX8_isMovable_1 ?_
  refine lv_iload_n hx hb dX8_isMovable_4 rfl (lv_at hl 1 rfl) ?_
  refine g_iald F hK hP 83 (Wd_at83 G g q I0 J0 R0 L0) (in_of (by omega)) dX8_isMovable_5 rfl ?_
  refine lv_topi (fun x1 ex1 => ?_)
  have gx1 : x1.toInt = (R0 67 (Int32.toNatClampNeg p1)).toInt := congrArg Int32.toInt (ex1)
  have fx1 : ((-1 : Int) ≤ x1.toInt ∧ x1.toInt ≤ (4 : Int)) := by rw [ex1]; exact hvR 67 (by decide) _ (clamp_lt (n := 12) (in_of (by omega)))
  refine lv_iconst (v := (-1)) hx hb dX8_isMovable_6 (by decide) ?_
  refine lv_icmp_eq (tgt := 33) hx hb dX8_isMovable_7 (by decide) (fun c2 => ?_) (fun c2 => ?_)
  · have gc2 : x1.toInt = (-1) := congrArg Int32.toInt c2
    refine lv_iconst (v := 0) hx hb dX8_isMovable_33 (by decide) ?_
    rw [hQ]
    exact q_z F hr hlk () hP hD hS (show ((0 : Int) ≤ 0 ∧ 0 ≤ (1 : Int)) from by omega) dX8_isMovable_34 (Nat.le_of_ble_eq_true rfl) (Nat.le_of_ble_eq_true rfl) (nar01 (by decide))
  · have gc2 : ¬ (x1.toInt = (-1)) := fun q0 => c2 (Int32.toInt_inj.mp q0)
    refine lv_aload_n hx hb dX8_isMovable_10 rfl (lv_at hl 0 rfl) ?_
    refine g_get F hK hP 72 (Wd_at72 G g q I0 J0 R0 L0) clX8 0 (by decide) flX8_18 rfl dX8_isMovable_11 ?_
    refine g_get F hK hP 70 (Wd_at70 G g q I0 J0 R0 L0) clX4 0 (by decide) flX8_22 rfl dX8_isMovable_14 ?_
    refine cst_r hq3 ?_
    refine g_get F hK hP 0 (Wd_at0 G g q I0 J0 R0 L0) clX2 1 (by decide) flX8_46 rfl dX8_isMovable_17 ?_
    refine g_get F hK hP 2 (Wd_at2 G g q I0 J0 R0 L0) clX3 6 (by decide) flX8_57 rfl dX8_isMovable_20 ?_
    refine lv_iload_n hx hb dX8_isMovable_23 rfl (lv_at hl 1 rfl) ?_
    refine g_iald F hK hP 14 (Wd_at14 G g q I0 J0 R0 L0) (in_of (by omega)) dX8_isMovable_24 rfl ?_
    refine lv_topi (fun x3 ex3 => ?_)
    have gx3 : x3.toInt = (R0 10 (Int32.toNatClampNeg p1)).toInt := congrArg Int32.toInt (ex3)
    have fx3 : ((-1 : Int) ≤ x3.toInt ∧ x3.toInt ≤ (4 : Int)) := by rw [ex3]; exact hvR 10 (by decide) _ (clamp_lt (n := 12) (in_of (by omega)))
    refine lv_iconst (v := (-1)) hx hb dX8_isMovable_25 (by decide) ?_
    refine lv_icmp_ne (tgt := 33) hx hb dX8_isMovable_26 (by decide) (fun c4 => ?_) (fun c4 => ?_)
    · have gc4 : ¬ (x3.toInt = (-1)) := fun q0 => c4 (Int32.toInt_inj.mp q0)
      refine lv_iconst (v := 0) hx hb dX8_isMovable_33 (by decide) ?_
      rw [hQ]
      exact q_z F hr hlk () hP hD hS (show ((0 : Int) ≤ 0 ∧ 0 ≤ (1 : Int)) from by omega) dX8_isMovable_34 (Nat.le_of_ble_eq_true rfl) (Nat.le_of_ble_eq_true rfl) (nar01 (by decide))
    · have gc4 : x3.toInt = (-1) := congrArg Int32.toInt c4
      refine lv_iconst (v := 1) hx hb dX8_isMovable_29 (by decide) ?_
      refine lv_goto (tgt := 34) hx hb dX8_isMovable_30 (by decide) ?_
      rw [hQ]
      exact q_z F hr hlk () hP hD hS (show ((0 : Int) ≤ 1 ∧ 1 ≤ (1 : Int)) from by omega) dX8_isMovable_34 (Nat.le_of_ble_eq_true rfl) (Nat.le_of_ble_eq_true rfl) (nar01 (by decide))
set_option maxHeartbeats 4000000 in
set_option maxRecDepth 100000 in
theorem s_X8_tiesThere (l : Launch) (G : Gx) (g q : Nat → Nat) (I0 : Nat → Int32) (J0 : Nat → Int64) (R0 : Nat → Nat → Int32) (L0 : Nat → Nat → Int64) (hvI : InvI Wd_lo Wd_hi I0) (hvR : InvR Wd_rl R0) (hq3 : q 3 = (g 11)) (p1 : Int32) (p2 : Int32) (hp1 : ((0 : Int) ≤ p1.toInt ∧ p1.toInt ≤ (11 : Int))) (hp2 : ((0 : Int) ≤ p2.toInt ∧ p2.toInt ≤ (4 : Int))) : CtI (S := Unit) l yX8_tiesThere cX8_tiesThere 9 (some .int) (rmD 1 0 0) G [.ref (g 70), .int p1, .int p2] (Wd G g q I0 J0 R0 L0) (fun r _ => True) (fun _ => (Wd G g q I0 J0 R0 L0)) := by
  refine ctI_of (own := RX8) (by decide +kernel) rfl (Nat.le_of_ble_eq_true rfl) ?_
  intro p e s m below meth c A ls F hr hlk hnm hK hP hD hA hS hl
  have hx := F.1
  have hb := F.2.1
  have hown := F.2.2.2.1
  have hl : lv_has ls 9 [(0, .ref (g 70)), (1, .int p1), (2, .int p2)] := hl
  obtain ⟨Q, hQ⟩ : ∃ Q : State → Prop, Q = MQ below (va_Qi (S := Unit) (fun r _ => True) (BX G A (fun _ => (Wd G g q I0 J0 R0 L0))) A) [.ref (g 70), .int p1, .int p2].toArray s 0 0 A := ⟨_, rfl⟩
  rw [show (MQ below (va_Qi (S := Unit) (fun r _ => True) (BX G A (fun _ => (Wd G g q I0 J0 R0 L0))) A) [.ref (g 70), .int p1, .int p2].toArray s (rmD 1 0 0).cells (rmD 1 0 0).slots A) = Q from hQ.symm]
  have lab_14 : ∀ (k_14 : Nat) (a4_14 : Int32) (a5_14 : Int32) (H : Heap) (locs : List Loc) (ls : Array Slot), ((30 - a5_14.toInt) < (k_14 : Int)) → ((0 : Int) ≤ a5_14.toInt ∧ a5_14.toInt ≤ (30 : Int)) → va_P G.1 vwCl (Wd G g q I0 J0 R0 L0) H → va_D A (Wd G g q I0 J0 R0 L0) → va_S A s.heap H locs → lv_has ls 9 [(0, .ref (g 70)), (1, .int p1), (2, .int p2), (3, .ref (g 11)), (4, .int a4_14), (5, .int a5_14)] → W p l e (rmD 1 0 0) s m [.ref (g 70), .int p1, .int p2].toArray below meth c H locs 0 0 Q (F0 m 14 ls []) := by
    intro k_14
    induction k_14 with
    | zero =>
      intro a4_14 a5_14 H locs ls hm y0_14 hP hD hS hl
      exact absurd hm (by omega)
    | succ k_14 ih_14 =>
      intro a4_14 a5_14 H locs ls hm y0_14 hP hD hS hl
      have lab_100 : ∀ (b0_100 : Int32) (b1_100 : Int32) (H : Heap) (locs : List Loc) (ls : Array Slot), ((0 : Int) ≤ a5_14.toInt ∧ a5_14.toInt ≤ (29 : Int)) → va_P G.1 vwCl (Wd G g q I0 J0 R0 L0) H → va_D A (Wd G g q I0 J0 R0 L0) → va_S A s.heap H locs → lv_has ls 9 [(0, .ref (g 70)), (1, .int p1), (2, .int p2), (3, .ref (g 11)), (5, .int a5_14)] → W p l e (rmD 1 0 0) s m [.ref (g 70), .int p1, .int p2].toArray below meth c H locs 0 0 Q (F0 m 100 ls [.int b0_100, .int b1_100]) := by
        intro b0_100 b1_100 H locs ls y0_100 hP hD hS hl
        refine lv_iadd hx hb dX8_tiesThere_100 ?_
        refine lv_topi (fun x1 ex1 => ?_)
        refine lv_istore (lv' := [(4, .int x1), (0, .ref (g 70)), (1, .int p1), (2, .int p2), (3, .ref (g 11)), (5, .int a5_14)]) hx hb dX8_tiesThere_101 hl (by decide) rfl (fun ls hl => ?_)
        obtain ⟨x2, ex2⟩ : ∃ y : Int32, y = a5_14 + 1 := ⟨_, rfl⟩
        have fx2 : x2.toInt = a5_14.toInt + (1 : Int) := by rw [ex2]; exact t_add (by show (-2147483648 : Int) ≤ a5_14.toInt + (1 : Int); omega) (by show a5_14.toInt + (1 : Int) ≤ 2147483647; omega)
        refine lv_iinc (v := x2) (lv' := [(5, .int x2), (4, .int x1), (0, .ref (g 70)), (1, .int p1), (2, .int p2), (3, .ref (g 11))]) hx hb dX8_tiesThere_103 hl (k := 5) rfl (by rw [ex2]; rfl) (by decide) rfl (fun ls hl => ?_)
        refine lv_goto (tgt := 14) hx hb dX8_tiesThere_106 (by decide) ?_
        exact ih_14 x1 x2 _ _ _ (show (30 - x2.toInt) < (k_14 : Int) from by omega) (show ((0 : Int) ≤ x2.toInt ∧ x2.toInt ≤ (30 : Int)) from by omega) hP hD hS (lv_sub hl [2, 3, 4, 5, 1, 0] rfl)
      have lab_80 : ∀ (b0_80 : Int32) (H : Heap) (locs : List Loc) (ls : Array Slot), ((0 : Int) ≤ a5_14.toInt ∧ a5_14.toInt ≤ (29 : Int)) → ((0 : Int) ≤ b0_80.toInt ∧ b0_80.toInt ≤ (1 : Int)) → va_P G.1 vwCl (Wd G g q I0 J0 R0 L0) H → va_D A (Wd G g q I0 J0 R0 L0) → va_S A s.heap H locs → lv_has ls 9 [(0, .ref (g 70)), (1, .int p1), (2, .int p2), (3, .ref (g 11)), (4, .int a4_14), (5, .int a5_14)] → W p l e (rmD 1 0 0) s m [.ref (g 70), .int p1, .int p2].toArray below meth c H locs 0 0 Q (F0 m 80 ls [.int b0_80]) := by
        intro b0_80 H locs ls y0_80 y1_80 hP hD hS hl
        refine lv_istore (lv' := [(8, .int b0_80), (0, .ref (g 70)), (1, .int p1), (2, .int p2), (3, .ref (g 11)), (4, .int a4_14), (5, .int a5_14)]) hx hb dX8_tiesThere_80 hl (by decide) rfl (fun ls hl => ?_)
        refine lv_iload hx hb dX8_tiesThere_82 (lv_at hl 5 rfl) ?_
        refine lv_iload hx hb dX8_tiesThere_84 (lv_at hl 0 rfl) ?_
        refine lv_if_eq (tgt := 99) hx hb dX8_tiesThere_86 (by decide) (fun c3 => ?_) (fun c3 => ?_)
        · have gc3 : b0_80.toInt = 0 := congrArg Int32.toInt c3
          refine lv_iconst (v := 0) hx hb dX8_tiesThere_99 (by decide) ?_
          exact lab_100 0 a4_14 _ _ _ (show ((0 : Int) ≤ a5_14.toInt ∧ a5_14.toInt ≤ (29 : Int)) from by omega) hP hD hS (lv_sub hl [1, 2, 3, 4, 6] rfl)
        · have gc3 : ¬ (b0_80.toInt = 0) := fun q0 => c3 (Int32.toInt_inj.mp q0)
          refine lv_aload_n hx hb dX8_tiesThere_89 rfl (lv_at hl 4 rfl) ?_
          refine g_get F hK hP 0 (Wd_at0 G g q I0 J0 R0 L0) clX2 10 (by decide) flX8_80 rfl dX8_tiesThere_90 ?_
          refine lv_iload hx hb dX8_tiesThere_93 (lv_at hl 6 rfl) ?_
          refine g_iald F hK hP 30 (Wd_at30 G g q I0 J0 R0 L0) (in_of (by omega)) dX8_tiesThere_95 rfl ?_
          refine lv_topi (fun x4 ex4 => ?_)
          have gx4 : x4.toInt = (R0 26 (Int32.toNatClampNeg a5_14)).toInt := congrArg Int32.toInt (ex4)
          refine lv_goto (tgt := 100) hx hb dX8_tiesThere_96 (by decide) ?_
          exact lab_100 x4 a4_14 _ _ _ (show ((0 : Int) ≤ a5_14.toInt ∧ a5_14.toInt ≤ (29 : Int)) from by omega) hP hD hS (lv_sub hl [1, 2, 3, 4, 6] rfl)
      have lab_75 : ∀  (H : Heap) (locs : List Loc) (ls : Array Slot), ((0 : Int) ≤ a5_14.toInt ∧ a5_14.toInt ≤ (29 : Int)) → va_P G.1 vwCl (Wd G g q I0 J0 R0 L0) H → va_D A (Wd G g q I0 J0 R0 L0) → va_S A s.heap H locs → lv_has ls 9 [(0, .ref (g 70)), (1, .int p1), (2, .int p2), (3, .ref (g 11)), (4, .int a4_14), (5, .int a5_14)] → W p l e (rmD 1 0 0) s m [.ref (g 70), .int p1, .int p2].toArray below meth c H locs 0 0 Q (F0 m 75 ls []) := by
        intro H locs ls y0_75 hP hD hS hl
        refine lv_iconst (v := 1) hx hb dX8_tiesThere_75 (by decide) ?_
        refine lv_goto (tgt := 80) hx hb dX8_tiesThere_76 (by decide) ?_
        exact lab_80 1 _ _ _ (show ((0 : Int) ≤ a5_14.toInt ∧ a5_14.toInt ≤ (29 : Int)) from by omega) (by decide) hP hD hS (lv_sub hl [0, 1, 2, 3, 4, 5] rfl)
      have lab_79 : ∀  (H : Heap) (locs : List Loc) (ls : Array Slot), ((0 : Int) ≤ a5_14.toInt ∧ a5_14.toInt ≤ (29 : Int)) → va_P G.1 vwCl (Wd G g q I0 J0 R0 L0) H → va_D A (Wd G g q I0 J0 R0 L0) → va_S A s.heap H locs → lv_has ls 9 [(0, .ref (g 70)), (1, .int p1), (2, .int p2), (3, .ref (g 11)), (4, .int a4_14), (5, .int a5_14)] → W p l e (rmD 1 0 0) s m [.ref (g 70), .int p1, .int p2].toArray below meth c H locs 0 0 Q (F0 m 79 ls []) := by
        intro H locs ls y0_79 hP hD hS hl
        refine lv_iconst (v := 0) hx hb dX8_tiesThere_79 (by decide) ?_
        exact lab_80 0 _ _ _ (show ((0 : Int) ≤ a5_14.toInt ∧ a5_14.toInt ≤ (29 : Int)) from by omega) (by decide) hP hD hS (lv_sub hl [0, 1, 2, 3, 4, 5] rfl)
      have lab_58 : ∀ (a6_58 : Int32) (a7_58 : Int32) (H : Heap) (locs : List Loc) (ls : Array Slot), ((0 : Int) ≤ a5_14.toInt ∧ a5_14.toInt ≤ (29 : Int)) → ((0 : Int) ≤ a6_58.toInt ∧ a6_58.toInt ≤ (11 : Int)) → ((0 : Int) ≤ a7_58.toInt ∧ a7_58.toInt ≤ (11 : Int)) → va_P G.1 vwCl (Wd G g q I0 J0 R0 L0) H → va_D A (Wd G g q I0 J0 R0 L0) → va_S A s.heap H locs → lv_has ls 9 [(0, .ref (g 70)), (1, .int p1), (2, .int p2), (3, .ref (g 11)), (4, .int a4_14), (5, .int a5_14), (6, .int a6_58), (7, .int a7_58)] → W p l e (rmD 1 0 0) s m [.ref (g 70), .int p1, .int p2].toArray below meth c H locs 0 0 Q (F0 m 58 ls []) := by
        intro a6_58 a7_58 H locs ls y0_58 y1_58 y2_58 hP hD hS hl
        refine lv_iload hx hb dX8_tiesThere_58 (lv_at hl 7 rfl) ?_
        refine lv_iload_n hx hb dX8_tiesThere_60 rfl (lv_at hl 1 rfl) ?_
        refine lv_icmp_ne (tgt := 79) hx hb dX8_tiesThere_61 (by decide) (fun c5 => ?_) (fun c5 => ?_)
        · have gc5 : ¬ (a7_58.toInt = p1.toInt) := fun q0 => c5 (Int32.toInt_inj.mp q0)
          exact lab_79  _ _ _ (show ((0 : Int) ≤ a5_14.toInt ∧ a5_14.toInt ≤ (29 : Int)) from by omega) hP hD hS (lv_sub hl [0, 1, 2, 3, 4, 5] rfl)
        · have gc5 : a7_58.toInt = p1.toInt := congrArg Int32.toInt c5
          refine lv_aload_n hx hb dX8_tiesThere_64 rfl (lv_at hl 0 rfl) ?_
          refine g_get F hK hP 72 (Wd_at72 G g q I0 J0 R0 L0) clX8 1 (by decide) flX8_9 rfl dX8_tiesThere_65 ?_
          refine lv_iload hx hb dX8_tiesThere_68 (lv_at hl 6 rfl) ?_
          refine g_iald F hK hP 83 (Wd_at83 G g q I0 J0 R0 L0) (in_of (by omega)) dX8_tiesThere_70 rfl ?_
          refine lv_topi (fun x6 ex6 => ?_)
          have gx6 : x6.toInt = (R0 67 (Int32.toNatClampNeg a6_58)).toInt := congrArg Int32.toInt (ex6)
          have fx6 : ((-1 : Int) ≤ x6.toInt ∧ x6.toInt ≤ (4 : Int)) := by rw [ex6]; exact hvR 67 (by decide) _ (clamp_lt (n := 12) (in_of (by omega)))
          refine lv_iload_n hx hb dX8_tiesThere_71 rfl (lv_at hl 2 rfl) ?_
          refine lv_icmp_ne (tgt := 79) hx hb dX8_tiesThere_72 (by decide) (fun c7 => ?_) (fun c7 => ?_)
          · have gc7 : ¬ (x6.toInt = p2.toInt) := fun q0 => c7 (Int32.toInt_inj.mp q0)
            exact lab_79  _ _ _ (show ((0 : Int) ≤ a5_14.toInt ∧ a5_14.toInt ≤ (29 : Int)) from by omega) hP hD hS (lv_sub hl [0, 1, 2, 3, 4, 5] rfl)
          · have gc7 : x6.toInt = p2.toInt := congrArg Int32.toInt c7
            exact lab_75  _ _ _ (show ((0 : Int) ≤ a5_14.toInt ∧ a5_14.toInt ≤ (29 : Int)) from by omega) hP hD hS (lv_sub hl [0, 1, 2, 3, 4, 5] rfl)
      refine lv_iload hx hb dX8_tiesThere_14 (lv_at hl 5 rfl) ?_
      refine lv_aload_n hx hb dX8_tiesThere_16 rfl (lv_at hl 3 rfl) ?_
      refine g_get F hK hP 0 (Wd_at0 G g q I0 J0 R0 L0) clX2 7 (by decide) flX8_71 rfl dX8_tiesThere_17 ?_
      have w_I0_1 := rg (hvI 1 (by decide)) (0) (30) rfl rfl
      refine lv_icmp_ge (tgt := 109) hx hb dX8_tiesThere_20 (by decide) (fun c8 => ?_) (fun c8 => ?_)
      · have gc8 : (I0 1).toInt ≤ a5_14.toInt := (tle _ _).mp c8
        refine lv_iload hx hb dX8_tiesThere_109 (lv_at hl 4 rfl) ?_
        rw [hQ]
        exact q_i F hr hlk () hP hD hS trivial dX8_tiesThere_111 (Nat.le_of_ble_eq_true rfl) (Nat.le_of_ble_eq_true rfl)
      · have gc8 : ¬ ((I0 1).toInt ≤ a5_14.toInt) := fun q0 => c8 ((tle _ _).mpr q0)
        refine lv_aload_n hx hb dX8_tiesThere_23 rfl (lv_at hl 3 rfl) ?_
        refine g_get F hK hP 0 (Wd_at0 G g q I0 J0 R0 L0) clX2 8 (by decide) flX8_74 rfl dX8_tiesThere_24 ?_
        refine lv_iload hx hb dX8_tiesThere_27 (lv_at hl 5 rfl) ?_
        refine g_iald F hK hP 28 (Wd_at28 G g q I0 J0 R0 L0) (in_of (by omega)) dX8_tiesThere_29 rfl ?_
        refine lv_topi (fun x9 ex9 => ?_)
        have gx9 : x9.toInt = (R0 24 (Int32.toNatClampNeg a5_14)).toInt := congrArg Int32.toInt (ex9)
        have fx9 : ((0 : Int) ≤ x9.toInt ∧ x9.toInt ≤ (11 : Int)) := by rw [ex9]; exact hvR 24 (by decide) _ (clamp_lt (n := 30) (in_of (by omega)))
        refine lv_istore (lv' := [(6, .int x9), (0, .ref (g 70)), (1, .int p1), (2, .int p2), (3, .ref (g 11)), (4, .int a4_14), (5, .int a5_14)]) hx hb dX8_tiesThere_30 hl (by decide) rfl (fun ls hl => ?_)
        refine lv_aload_n hx hb dX8_tiesThere_32 rfl (lv_at hl 4 rfl) ?_
        refine g_get F hK hP 0 (Wd_at0 G g q I0 J0 R0 L0) clX2 9 (by decide) flX8_77 rfl dX8_tiesThere_33 ?_
        refine lv_iload hx hb dX8_tiesThere_36 (lv_at hl 6 rfl) ?_
        refine g_iald F hK hP 29 (Wd_at29 G g q I0 J0 R0 L0) (in_of (by omega)) dX8_tiesThere_38 rfl ?_
        refine lv_topi (fun x10 ex10 => ?_)
        have gx10 : x10.toInt = (R0 25 (Int32.toNatClampNeg a5_14)).toInt := congrArg Int32.toInt (ex10)
        have fx10 : ((0 : Int) ≤ x10.toInt ∧ x10.toInt ≤ (11 : Int)) := by rw [ex10]; exact hvR 25 (by decide) _ (clamp_lt (n := 30) (in_of (by omega)))
        refine lv_istore (lv' := [(7, .int x10), (6, .int x9), (0, .ref (g 70)), (1, .int p1), (2, .int p2), (3, .ref (g 11)), (4, .int a4_14), (5, .int a5_14)]) hx hb dX8_tiesThere_39 hl (by decide) rfl (fun ls hl => ?_)
        refine lv_iload hx hb dX8_tiesThere_41 (lv_at hl 1 rfl) ?_
        refine lv_iload_n hx hb dX8_tiesThere_43 rfl (lv_at hl 3 rfl) ?_
        refine lv_icmp_ne (tgt := 58) hx hb dX8_tiesThere_44 (by decide) (fun c11 => ?_) (fun c11 => ?_)
        · have gc11 : ¬ (x9.toInt = p1.toInt) := fun q0 => c11 (Int32.toInt_inj.mp q0)
          exact lab_58 x9 x10 _ _ _ (show ((0 : Int) ≤ a5_14.toInt ∧ a5_14.toInt ≤ (29 : Int)) from by omega) (show ((0 : Int) ≤ x9.toInt ∧ x9.toInt ≤ (11 : Int)) from by omega) (show ((0 : Int) ≤ x10.toInt ∧ x10.toInt ≤ (11 : Int)) from by omega) hP hD hS (lv_sub hl [2, 3, 4, 5, 6, 7, 1, 0] rfl)
        · have gc11 : x9.toInt = p1.toInt := congrArg Int32.toInt c11
          refine lv_aload_n hx hb dX8_tiesThere_47 rfl (lv_at hl 2 rfl) ?_
          refine g_get F hK hP 72 (Wd_at72 G g q I0 J0 R0 L0) clX8 1 (by decide) flX8_9 rfl dX8_tiesThere_48 ?_
          refine lv_iload hx hb dX8_tiesThere_51 (lv_at hl 0 rfl) ?_
          refine g_iald F hK hP 83 (Wd_at83 G g q I0 J0 R0 L0) (in_of (by omega)) dX8_tiesThere_53 rfl ?_
          refine lv_topi (fun x12 ex12 => ?_)
          have gx12 : x12.toInt = (R0 67 (Int32.toNatClampNeg x10)).toInt := congrArg Int32.toInt (ex12)
          have fx12 : ((-1 : Int) ≤ x12.toInt ∧ x12.toInt ≤ (4 : Int)) := by rw [ex12]; exact hvR 67 (by decide) _ (clamp_lt (n := 12) (in_of (by omega)))
          refine lv_iload_n hx hb dX8_tiesThere_54 rfl (lv_at hl 4 rfl) ?_
          refine lv_icmp_eq (tgt := 75) hx hb dX8_tiesThere_55 (by decide) (fun c13 => ?_) (fun c13 => ?_)
          · have gc13 : x12.toInt = p2.toInt := congrArg Int32.toInt c13
            exact lab_75  _ _ _ (show ((0 : Int) ≤ a5_14.toInt ∧ a5_14.toInt ≤ (29 : Int)) from by omega) hP hD hS (lv_sub hl [2, 3, 4, 5, 6, 7] rfl)
          · have gc13 : ¬ (x12.toInt = p2.toInt) := fun q0 => c13 (Int32.toInt_inj.mp q0)
            exact lab_58 x9 x10 _ _ _ (show ((0 : Int) ≤ a5_14.toInt ∧ a5_14.toInt ≤ (29 : Int)) from by omega) (show ((0 : Int) ≤ x9.toInt ∧ x9.toInt ≤ (11 : Int)) from by omega) (show ((0 : Int) ≤ x10.toInt ∧ x10.toInt ≤ (11 : Int)) from by omega) hP hD hS (lv_sub hl [2, 3, 4, 5, 6, 7, 1, 0] rfl)
  refine lv_aload_n hx hb dX8_tiesThere_0 rfl (lv_at hl 0 rfl) ?_
  refine g_get F hK hP 72 (Wd_at72 G g q I0 J0 R0 L0) clX8 0 (by decide) flX8_18 rfl dX8_tiesThere_1 ?_
  refine g_get F hK hP 70 (Wd_at70 G g q I0 J0 R0 L0) clX4 0 (by decide) flX8_22 rfl dX8_tiesThere_4 ?_
  refine cst_r hq3 ?_
  refine lv_astore_n (lv' := [(3, .ref (g 11)), (0, .ref (g 70)), (1, .int p1), (2, .int p2)]) hx hb dX8_tiesThere_7 rfl hl (by decide) rfl (fun ls hl => ?_)
  refine lv_iconst (v := 0) hx hb dX8_tiesThere_8 (by decide) ?_
  refine lv_istore (lv' := [(4, .int 0), (3, .ref (g 11)), (0, .ref (g 70)), (1, .int p1), (2, .int p2)]) hx hb dX8_tiesThere_9 hl (by decide) rfl (fun ls hl => ?_)
  refine lv_iconst (v := 0) hx hb dX8_tiesThere_11 (by decide) ?_
  refine lv_istore (lv' := [(5, .int 0), (4, .int 0), (3, .ref (g 11)), (0, .ref (g 70)), (1, .int p1), (2, .int p2)]) hx hb dX8_tiesThere_12 hl (by decide) rfl (fun ls hl => ?_)
  exact lab_14 31 0 0 _ _ _ (show (30 - 0) < ((31 : Nat) : Int) from by omega) (by decide) hP hD hS (lv_sub hl [3, 4, 5, 2, 1, 0] rfl)
set_option maxHeartbeats 4000000 in
set_option maxRecDepth 100000 in
theorem s_X11_floor (l : Launch) (G : Gx) (g q : Nat → Nat) (I0 : Nat → Int32) (J0 : Nat → Int64) (R0 : Nat → Nat → Int32) (L0 : Nat → Nat → Int64) (hvI : InvI Wd_lo Wd_hi I0) (hvR : InvR Wd_rl R0) (hq3 : q 3 = (g 11)) (p1 : Int32) (p2 : Int32)  : CtI (S := Unit) l yX11_floor cX11_floor 4 (some .int) (rmD 2 0 0) G [.ref (g 74), .int p1, .int p2] (Wd G g q I0 J0 R0 L0) (fun r _ => True) (fun _ => (Wd G g q I0 J0 R0 L0)) := by
  refine ctI_of (own := RX11) (by decide +kernel) rfl (Nat.le_of_ble_eq_true rfl) ?_
  intro p e s m below meth c A ls F hr hlk hnm hK hP hD hA hS hl
  have hx := F.1
  have hb := F.2.1
  have hown := F.2.2.2.1
  have hl : lv_has ls 4 [(0, .ref (g 74)), (1, .int p1), (2, .int p2)] := hl
  obtain ⟨Q, hQ⟩ : ∃ Q : State → Prop, Q = MQ below (va_Qi (S := Unit) (fun r _ => True) (BX G A (fun _ => (Wd G g q I0 J0 R0 L0))) A) [.ref (g 74), .int p1, .int p2].toArray s 0 0 A := ⟨_, rfl⟩
  rw [show (MQ below (va_Qi (S := Unit) (fun r _ => True) (BX G A (fun _ => (Wd G g q I0 J0 R0 L0))) A) [.ref (g 74), .int p1, .int p2].toArray s (rmD 2 0 0).cells (rmD 2 0 0).slots A) = Q from hQ.symm]
  refine lv_aload_n hx hb dX11_floor_0 rfl (lv_at hl 0 rfl) ?_
  refine g_get F hK hP 66 (Wd_at66 G g q I0 J0 R0 L0) clX11 4 (by decide) flX11_43 rfl dX11_floor_1 ?_
  refine g_get F hK hP 70 (Wd_at70 G g q I0 J0 R0 L0) clX4 0 (by decide) flX11_121 rfl dX11_floor_4 ?_
  refine cst_r hq3 ?_
  refine g_get F hK hP 0 (Wd_at0 G g q I0 J0 R0 L0) clX2 0 (by decide) flX11_129 rfl dX11_floor_7 ?_
  refine lv_astore_n (lv' := [(3, .ref (g 0)), (0, .ref (g 74)), (1, .int p1), (2, .int p2)]) hx hb dX11_floor_10 rfl hl (by decide) rfl (fun ls hl => ?_)
  refine lv_iload_n hx hb dX11_floor_11 rfl (lv_at hl 2 rfl) ?_
  refine lv_aload_n hx hb dX11_floor_12 rfl (lv_at hl 0 rfl) ?_
  refine g_get F hK hP 1 (Wd_at1 G g q I0 J0 R0 L0) clX1 0 (by decide) flX11_133 rfl dX11_floor_13 ?_
  have w_I0_3 := rg (hvI 3 (by decide)) (0) (5) rfl rfl
  refine w0i (As := [.int p1, .int (I0 3)]) (rest := []) (d := 1) F hK hP hD hS hA (s_X11_isBelow l G  p1 ((I0 3)) (show ((0 : Int) ≤ (I0 3).toInt ∧ (I0 3).toInt ≤ (30 : Int)) from by omega)) kmS_X11_isBelow mlX11_169 ⟨(Nat.le_of_ble_eq_true rfl), (Nat.le_of_ble_eq_true rfl)⟩ hl.1 rfl (Nat.le_of_ble_eq_true rfl) dX11_floor_16 (fun r1 u2 H locs hwr1 hP hD hS => ?_)
  obtain ⟨F0r1, F1r1⟩ := hwr1
  replace F0r1 : ((0 : Int) ≤ r1.toInt ∧ r1.toInt ≤ (1 : Int)) := F0r1
  replace F1r1 : (r1.toInt = 1 → (0 ≤ p1.toInt ∧ p1.toInt < (I0 3).toInt)) := F1r1
  refine lv_if_ne (tgt := 24) hx hb dX11_floor_19 (by decide) (fun c3 => ?_) (fun c3 => ?_)
  · have gc3 : ¬ (r1.toInt = 0) := fun q0 => c3 (Int32.toInt_inj.mp q0)
    refine lv_iload_n hx hb dX11_floor_24 rfl (lv_at hl 3 rfl) ?_
    by_cases h4 : p2 = 0
    · have gh4 : p2.toInt = 0 := congrArg Int32.toInt h4
      refine cst_i h4 ?_
      refine lv_tableIn (off := 31) (tgt := 56) hx hb dX11_floor_25 (by decide) (by decide) rfl (by decide) ?_
      refine lv_aload_n hx hb dX11_floor_56 rfl (lv_at hl 0 rfl) ?_
      refine g_get F hK hP 1 (Wd_at1 G g q I0 J0 R0 L0) clX1 4 (by decide) flX11_212 rfl dX11_floor_57 ?_
      refine lv_iload_n hx hb dX11_floor_60 rfl (lv_at hl 2 rfl) ?_
      refine g_iald F hK hP 5 (Wd_at5 G g q I0 J0 R0 L0) (in_of (by omega)) dX11_floor_61 rfl ?_
      refine lv_topi (fun x5 ex5 => ?_)
      have gx5 : x5.toInt = (R0 1 (Int32.toNatClampNeg p1)).toInt := congrArg Int32.toInt (ex5)
      rw [hQ]
      exact q_i F hr hlk () hP hD hS trivial dX11_floor_62 (Nat.le_of_ble_eq_true rfl) (Nat.le_of_ble_eq_true rfl)
    by_cases h6 : p2 = 1
    · have gh6 : p2.toInt = 1 := congrArg Int32.toInt h6
      refine cst_i h6 ?_
      refine lv_tableIn (off := 38) (tgt := 63) hx hb dX11_floor_25 (by decide) (by decide) rfl (by decide) ?_
      refine lv_aload_n hx hb dX11_floor_63 rfl (lv_at hl 0 rfl) ?_
      refine g_get F hK hP 1 (Wd_at1 G g q I0 J0 R0 L0) clX1 5 (by decide) flX11_215 rfl dX11_floor_64 ?_
      refine lv_iload_n hx hb dX11_floor_67 rfl (lv_at hl 2 rfl) ?_
      refine g_iald F hK hP 6 (Wd_at6 G g q I0 J0 R0 L0) (in_of (by omega)) dX11_floor_68 rfl ?_
      refine lv_topi (fun x7 ex7 => ?_)
      have gx7 : x7.toInt = (R0 2 (Int32.toNatClampNeg p1)).toInt := congrArg Int32.toInt (ex7)
      rw [hQ]
      exact q_i F hr hlk () hP hD hS trivial dX11_floor_69 (Nat.le_of_ble_eq_true rfl) (Nat.le_of_ble_eq_true rfl)
    by_cases h8 : p2 = 2
    · have gh8 : p2.toInt = 2 := congrArg Int32.toInt h8
      refine cst_i h8 ?_
      refine lv_tableIn (off := 45) (tgt := 70) hx hb dX11_floor_25 (by decide) (by decide) rfl (by decide) ?_
      refine lv_aload_n hx hb dX11_floor_70 rfl (lv_at hl 0 rfl) ?_
      refine g_get F hK hP 1 (Wd_at1 G g q I0 J0 R0 L0) clX1 6 (by decide) flX11_218 rfl dX11_floor_71 ?_
      refine lv_iload_n hx hb dX11_floor_74 rfl (lv_at hl 2 rfl) ?_
      refine g_iald F hK hP 7 (Wd_at7 G g q I0 J0 R0 L0) (in_of (by omega)) dX11_floor_75 rfl ?_
      refine lv_topi (fun x9 ex9 => ?_)
      have gx9 : x9.toInt = (R0 3 (Int32.toNatClampNeg p1)).toInt := congrArg Int32.toInt (ex9)
      rw [hQ]
      exact q_i F hr hlk () hP hD hS trivial dX11_floor_76 (Nat.le_of_ble_eq_true rfl) (Nat.le_of_ble_eq_true rfl)
    by_cases h10 : p2 = 3
    · have gh10 : p2.toInt = 3 := congrArg Int32.toInt h10
      refine cst_i h10 ?_
      refine lv_tableIn (off := 52) (tgt := 77) hx hb dX11_floor_25 (by decide) (by decide) rfl (by decide) ?_
      refine lv_aload_n hx hb dX11_floor_77 rfl (lv_at hl 0 rfl) ?_
      refine g_get F hK hP 1 (Wd_at1 G g q I0 J0 R0 L0) clX1 7 (by decide) flX11_221 rfl dX11_floor_78 ?_
      refine lv_iload_n hx hb dX11_floor_81 rfl (lv_at hl 2 rfl) ?_
      refine g_iald F hK hP 8 (Wd_at8 G g q I0 J0 R0 L0) (in_of (by omega)) dX11_floor_82 rfl ?_
      refine lv_topi (fun x11 ex11 => ?_)
      have gx11 : x11.toInt = (R0 4 (Int32.toNatClampNeg p1)).toInt := congrArg Int32.toInt (ex11)
      rw [hQ]
      exact q_i F hr hlk () hP hD hS trivial dX11_floor_83 (Nat.le_of_ble_eq_true rfl) (Nat.le_of_ble_eq_true rfl)
    refine lv_tableOut (tgt := 84) hx hb dX11_floor_25 (by have gh4 := lv_neT h4 (a := 0) rfl; have gh6 := lv_neT h6 (a := 1) rfl; have gh8 := lv_neT h8 (a := 2) rfl; have gh10 := lv_neT h10 (a := 3) rfl; omega) (by decide) ?_
    refine lv_iconst (v := (-1)) hx hb dX11_floor_84 (by decide) ?_
    rw [hQ]
    exact q_i F hr hlk () hP hD hS trivial dX11_floor_85 (Nat.le_of_ble_eq_true rfl) (Nat.le_of_ble_eq_true rfl)
  · have gc3 : r1.toInt = 0 := congrArg Int32.toInt c3
    refine lv_iconst (v := (-1)) hx hb dX11_floor_22 (by decide) ?_
    rw [hQ]
    exact q_i F hr hlk () hP hD hS trivial dX11_floor_23 (Nat.le_of_ble_eq_true rfl) (Nat.le_of_ble_eq_true rfl)
set_option maxHeartbeats 4000000 in
set_option maxRecDepth 100000 in
theorem s_X4_setsForOneMore (l : Launch) (G : Gx) (g q : Nat → Nat) (I0 : Nat → Int32) (J0 : Nat → Int64) (R0 : Nat → Nat → Int32) (L0 : Nat → Nat → Int64) (hvI : InvI Wd_lo Wd_hi I0) (hvR : InvR Wd_rl R0) (hq3 : q 3 = (g 11)) (p1 : Int32) (hp1 : ((0 : Int) ≤ p1.toInt ∧ p1.toInt ≤ (5 : Int))) : CtI (S := Unit) l yX4_setsForOneMore cX4_setsForOneMore 5 (some .int) (rmD 2 0 0) G [.ref (g 68), .int p1] (Wd G g q I0 J0 R0 L0) (fun r _ => True) (fun _ => (Wd G g q I0 J0 R0 L0)) := by
  refine ctI_of (own := RX4) (by decide +kernel) rfl (Nat.le_of_ble_eq_true rfl) ?_
  intro p e s m below meth c A ls F hr hlk hnm hK hP hD hA hS hl
  have hx := F.1
  have hb := F.2.1
  have hown := F.2.2.2.1
  have hl : lv_has ls 5 [(0, .ref (g 68)), (1, .int p1)] := hl
  obtain ⟨Q, hQ⟩ : ∃ Q : State → Prop, Q = MQ below (va_Qi (S := Unit) (fun r _ => True) (BX G A (fun _ => (Wd G g q I0 J0 R0 L0))) A) [.ref (g 68), .int p1].toArray s 0 0 A := ⟨_, rfl⟩
  rw [show (MQ below (va_Qi (S := Unit) (fun r _ => True) (BX G A (fun _ => (Wd G g q I0 J0 R0 L0))) A) [.ref (g 68), .int p1].toArray s (rmD 2 0 0).cells (rmD 2 0 0).slots A) = Q from hQ.symm]
  have lab_55 : ∀ (k_55 : Nat) (a2_55 : Int32) (a3_55 : Int32) (a4_55 : Int32) (H : Heap) (locs : List Loc) (ls : Array Slot), ((32 - a4_55.toInt) < (k_55 : Int)) → ((0 : Int) ≤ a4_55.toInt ∧ a4_55.toInt ≤ (32 : Int)) → va_P G.1 vwCl (Wd G g q I0 J0 R0 L0) H → va_D A (Wd G g q I0 J0 R0 L0) → va_S A s.heap H locs → lv_has ls 5 [(1, .int p1), (2, .int a2_55), (3, .int a3_55), (4, .int a4_55)] → W p l e (rmD 2 0 0) s m [.ref (g 68), .int p1].toArray below meth c H locs 0 0 Q (F0 m 55 ls []) := by
    intro k_55
    induction k_55 with
    | zero =>
      intro a2_55 a3_55 a4_55 H locs ls hm y0_55 hP hD hS hl
      exact absurd hm (by omega)
    | succ k_55 ih_55 =>
      intro a2_55 a3_55 a4_55 H locs ls hm y0_55 hP hD hS hl
      have lab_83 : ∀ (a3_83 : Int32) (H : Heap) (locs : List Loc) (ls : Array Slot), ((0 : Int) ≤ a4_55.toInt ∧ a4_55.toInt ≤ (31 : Int)) → va_P G.1 vwCl (Wd G g q I0 J0 R0 L0) H → va_D A (Wd G g q I0 J0 R0 L0) → va_S A s.heap H locs → lv_has ls 5 [(1, .int p1), (2, .int a2_55), (3, .int a3_83), (4, .int a4_55)] → W p l e (rmD 2 0 0) s m [.ref (g 68), .int p1].toArray below meth c H locs 0 0 Q (F0 m 83 ls []) := by
        intro a3_83 H locs ls y0_83 hP hD hS hl
        obtain ⟨x1, ex1⟩ : ∃ y : Int32, y = a4_55 + 1 := ⟨_, rfl⟩
        have fx1 : x1.toInt = a4_55.toInt + (1 : Int) := by rw [ex1]; exact t_add (by show (-2147483648 : Int) ≤ a4_55.toInt + (1 : Int); omega) (by show a4_55.toInt + (1 : Int) ≤ 2147483647; omega)
        refine lv_iinc (v := x1) (lv' := [(4, .int x1), (1, .int p1), (2, .int a2_55), (3, .int a3_83)]) hx hb dX4_setsForOneMore_83 hl (k := 3) rfl (by rw [ex1]; rfl) (by decide) rfl (fun ls hl => ?_)
        refine lv_goto (tgt := 55) hx hb dX4_setsForOneMore_86 (by decide) ?_
        exact ih_55 a2_55 a3_83 x1 _ _ _ (show (32 - x1.toInt) < (k_55 : Int) from by omega) (show ((0 : Int) ≤ x1.toInt ∧ x1.toInt ≤ (32 : Int)) from by omega) hP hD hS (lv_sub hl [1, 2, 3, 0] rfl)
      refine lv_iload hx hb dX4_setsForOneMore_55 (lv_at hl 3 rfl) ?_
      refine lv_bipush (v := 31) hx hb dX4_setsForOneMore_57 (by decide) ?_
      refine lv_icmp_gt (tgt := 89) hx hb dX4_setsForOneMore_59 (by decide) (fun c2 => ?_) (fun c2 => ?_)
      · have gc2 : 31 < a4_55.toInt := (tlt _ _).mp c2
        refine lv_iload_n hx hb dX4_setsForOneMore_89 rfl (lv_at hl 2 rfl) ?_
        rw [hQ]
        exact q_i F hr hlk () hP hD hS trivial dX4_setsForOneMore_90 (Nat.le_of_ble_eq_true rfl) (Nat.le_of_ble_eq_true rfl)
      · have gc2 : ¬ (31 < a4_55.toInt) := fun q0 => c2 ((tlt _ _).mpr q0)
        refine lv_iload hx hb dX4_setsForOneMore_62 (lv_at hl 3 rfl) ?_
        refine w0i (As := [.int a4_55]) (rest := []) (d := 1) F hK hP hD hS hA (s_J6_bitCount_0f7a4 l G  a4_55 ) kmS_J6_bitCount_0f7a4 mlX4_93 ⟨(Nat.le_of_ble_eq_true rfl), (Nat.le_of_ble_eq_true rfl)⟩ hl.1 rfl (Nat.le_of_ble_eq_true rfl) dX4_setsForOneMore_64 (fun r3 u4 H locs hwr3 hP hD hS => ?_)
        have F0r3 := hwr3
        replace F0r3 : ((0 : Int) ≤ r3.toInt ∧ r3.toInt ≤ (63 : Int)) := F0r3
        refine lv_iload_n hx hb dX4_setsForOneMore_67 rfl (lv_at hl 0 rfl) ?_
        refine lv_icmp_ne (tgt := 83) hx hb dX4_setsForOneMore_68 (by decide) (fun c5 => ?_) (fun c5 => ?_)
        · have gc5 : ¬ (r3.toInt = p1.toInt) := fun q0 => c5 (Int32.toInt_inj.mp q0)
          exact lab_83 a3_55 _ _ _ (show ((0 : Int) ≤ a4_55.toInt ∧ a4_55.toInt ≤ (31 : Int)) from by omega) hP hD hS (lv_sub hl [0, 1, 2, 3] rfl)
        · have gc5 : r3.toInt = p1.toInt := congrArg Int32.toInt c5
          refine lv_iload hx hb dX4_setsForOneMore_71 (lv_at hl 3 rfl) ?_
          refine lv_iload_n hx hb dX4_setsForOneMore_73 rfl (lv_at hl 1 rfl) ?_
          refine lv_iconst (v := (-1)) hx hb dX4_setsForOneMore_74 (by decide) ?_
          refine lv_ixor hx hb dX4_setsForOneMore_75 ?_
          refine lv_topi (fun x6 ex6 => ?_)
          refine lv_iand hx hb dX4_setsForOneMore_76 ?_
          refine lv_topi (fun x7 ex7 => ?_)
          refine lv_if_ne (tgt := 83) hx hb dX4_setsForOneMore_77 (by decide) (fun c8 => ?_) (fun c8 => ?_)
          · have gc8 : ¬ (x7.toInt = 0) := fun q0 => c8 (Int32.toInt_inj.mp q0)
            exact lab_83 a3_55 _ _ _ (show ((0 : Int) ≤ a4_55.toInt ∧ a4_55.toInt ≤ (31 : Int)) from by omega) hP hD hS (lv_sub hl [0, 1, 2, 3] rfl)
          · have gc8 : x7.toInt = 0 := congrArg Int32.toInt c8
            obtain ⟨x9, ex9⟩ : ∃ y : Int32, y = a3_55 + 1 := ⟨_, rfl⟩
            refine lv_iinc (v := x9) (lv' := [(3, .int x9), (1, .int p1), (2, .int a2_55), (4, .int a4_55)]) hx hb dX4_setsForOneMore_80 hl (k := 2) rfl (by rw [ex9]; rfl) (by decide) rfl (fun ls hl => ?_)
            exact lab_83 x9 _ _ _ (show ((0 : Int) ≤ a4_55.toInt ∧ a4_55.toInt ≤ (31 : Int)) from by omega) hP hD hS (lv_sub hl [1, 2, 0, 3] rfl)
  have lab_4 : ∀ (k_4 : Nat) (a2_4 : Int32) (a3_4 : Int32) (H : Heap) (locs : List Loc) (ls : Array Slot), ((5 - a3_4.toInt) < (k_4 : Int)) → ((0 : Int) ≤ a3_4.toInt ∧ a3_4.toInt ≤ (5 : Int)) → va_P G.1 vwCl (Wd G g q I0 J0 R0 L0) H → va_D A (Wd G g q I0 J0 R0 L0) → va_S A s.heap H locs → lv_has ls 5 [(0, .ref (g 68)), (1, .int p1), (2, .int a2_4), (3, .int a3_4)] → W p l e (rmD 2 0 0) s m [.ref (g 68), .int p1].toArray below meth c H locs 0 0 Q (F0 m 4 ls []) := by
    intro k_4
    induction k_4 with
    | zero =>
      intro a2_4 a3_4 H locs ls hm y0_4 hP hD hS hl
      exact absurd hm (by omega)
    | succ k_4 ih_4 =>
      intro a2_4 a3_4 H locs ls hm y0_4 hP hD hS hl
      have lab_44 : ∀ (a2_44 : Int32) (H : Heap) (locs : List Loc) (ls : Array Slot), ((0 : Int) ≤ a3_4.toInt ∧ a3_4.toInt ≤ (4 : Int)) → va_P G.1 vwCl (Wd G g q I0 J0 R0 L0) H → va_D A (Wd G g q I0 J0 R0 L0) → va_S A s.heap H locs → lv_has ls 5 [(0, .ref (g 68)), (1, .int p1), (2, .int a2_44), (3, .int a3_4)] → W p l e (rmD 2 0 0) s m [.ref (g 68), .int p1].toArray below meth c H locs 0 0 Q (F0 m 44 ls []) := by
        intro a2_44 H locs ls y0_44 hP hD hS hl
        obtain ⟨x10, ex10⟩ : ∃ y : Int32, y = a3_4 + 1 := ⟨_, rfl⟩
        have fx10 : x10.toInt = a3_4.toInt + (1 : Int) := by rw [ex10]; exact t_add (by show (-2147483648 : Int) ≤ a3_4.toInt + (1 : Int); omega) (by show a3_4.toInt + (1 : Int) ≤ 2147483647; omega)
        refine lv_iinc (v := x10) (lv' := [(3, .int x10), (0, .ref (g 68)), (1, .int p1), (2, .int a2_44)]) hx hb dX4_setsForOneMore_44 hl (k := 3) rfl (by rw [ex10]; rfl) (by decide) rfl (fun ls hl => ?_)
        refine lv_goto (tgt := 4) hx hb dX4_setsForOneMore_47 (by decide) ?_
        exact ih_4 a2_44 x10 _ _ _ (show (5 - x10.toInt) < (k_4 : Int) from by omega) (show ((0 : Int) ≤ x10.toInt ∧ x10.toInt ≤ (5 : Int)) from by omega) hP hD hS (lv_sub hl [1, 2, 3, 0] rfl)
      refine lv_iload_n hx hb dX4_setsForOneMore_4 rfl (lv_at hl 3 rfl) ?_
      refine lv_iconst (v := 5) hx hb dX4_setsForOneMore_5 (by decide) ?_
      refine lv_icmp_ge (tgt := 50) hx hb dX4_setsForOneMore_6 (by decide) (fun c11 => ?_) (fun c11 => ?_)
      · have gc11 : 5 ≤ a3_4.toInt := (tle _ _).mp c11
        refine lv_iconst (v := 0) hx hb dX4_setsForOneMore_50 (by decide) ?_
        refine lv_istore_n (lv' := [(3, .int 0), (0, .ref (g 68)), (1, .int p1), (2, .int a2_4)]) hx hb dX4_setsForOneMore_51 rfl hl (by decide) rfl (fun ls hl => ?_)
        refine lv_iconst (v := 0) hx hb dX4_setsForOneMore_52 (by decide) ?_
        refine lv_istore (lv' := [(4, .int 0), (3, .int 0), (0, .ref (g 68)), (1, .int p1), (2, .int a2_4)]) hx hb dX4_setsForOneMore_53 hl (by decide) rfl (fun ls hl => ?_)
        exact lab_55 33 a2_4 0 0 _ _ _ (show (32 - 0) < ((33 : Nat) : Int) from by omega) (by decide) hP hD hS (lv_sub hl [3, 4, 1, 0] rfl)
      · have gc11 : ¬ (5 ≤ a3_4.toInt) := fun q0 => c11 ((tle _ _).mpr q0)
        refine lv_aload_n hx hb dX4_setsForOneMore_9 rfl (lv_at hl 0 rfl) ?_
        refine lv_iload_n hx hb dX4_setsForOneMore_10 rfl (lv_at hl 3 rfl) ?_
        refine wvi (As := [.int a3_4]) (rest := []) (b := (g 68)) (d := 1) F hK hP hD hS hA (s_X4_inWithoutOwn l G g q I0 J0 R0 L0 hvI hvR hq3 a3_4 (show ((0 : Int) ≤ a3_4.toInt ∧ a3_4.toInt ≤ (4 : Int)) from by omega)) kmV_X4_inWithoutOwn mlX4_53 clX4 rfl 70 (Wd_at70 G g q I0 J0 R0 L0) ⟨(Nat.le_of_ble_eq_true rfl), (Nat.le_of_ble_eq_true rfl)⟩ hl.1 rfl (Nat.le_of_ble_eq_true rfl) dX4_setsForOneMore_11 (fun r12 u13 H locs hwr12 hP hD hS => ?_)
        refine lv_aload_n hx hb dX4_setsForOneMore_14 rfl (lv_at hl 0 rfl) ?_
        refine g_get F hK hP 70 (Wd_at70 G g q I0 J0 R0 L0) clX4 0 (by decide) flX4_28 rfl dX4_setsForOneMore_15 ?_
        refine cst_r hq3 ?_
        refine g_get F hK hP 0 (Wd_at0 G g q I0 J0 R0 L0) clX2 0 (by decide) flX4_57 rfl dX4_setsForOneMore_18 ?_
        refine g_get F hK hP 1 (Wd_at1 G g q I0 J0 R0 L0) clX1 1 (by decide) flX4_61 rfl dX4_setsForOneMore_21 ?_
        refine lv_aload_n hx hb dX4_setsForOneMore_24 rfl (lv_at hl 0 rfl) ?_
        refine g_get F hK hP 70 (Wd_at70 G g q I0 J0 R0 L0) clX4 0 (by decide) flX4_28 rfl dX4_setsForOneMore_25 ?_
        refine cst_r hq3 ?_
        refine g_get F hK hP 0 (Wd_at0 G g q I0 J0 R0 L0) clX2 0 (by decide) flX4_57 rfl dX4_setsForOneMore_28 ?_
        refine g_get F hK hP 1 (Wd_at1 G g q I0 J0 R0 L0) clX1 2 (by decide) flX4_66 rfl dX4_setsForOneMore_31 ?_
        refine lv_isub hx hb dX4_setsForOneMore_34 ?_
        refine lv_topi (fun x14 ex14 => ?_)
        refine lv_icmp_ge (tgt := 44) hx hb dX4_setsForOneMore_35 (by decide) (fun c15 => ?_) (fun c15 => ?_)
        · have gc15 : x14.toInt ≤ r12.toInt := (tle _ _).mp c15
          exact lab_44 a2_4 _ _ _ (show ((0 : Int) ≤ a3_4.toInt ∧ a3_4.toInt ≤ (4 : Int)) from by omega) hP hD hS (lv_sub hl [0, 1, 2, 3] rfl)
        · have gc15 : ¬ (x14.toInt ≤ r12.toInt) := fun q0 => c15 ((tle _ _).mpr q0)
          refine lv_iload_n hx hb dX4_setsForOneMore_38 rfl (lv_at hl 2 rfl) ?_
          refine lv_iconst (v := 1) hx hb dX4_setsForOneMore_39 (by decide) ?_
          refine lv_iload_n hx hb dX4_setsForOneMore_40 rfl (lv_at hl 3 rfl) ?_
          refine lv_ishl hx hb dX4_setsForOneMore_41 ?_
          refine lv_topi (fun x16 ex16 => ?_)
          refine lv_ior hx hb dX4_setsForOneMore_42 ?_
          refine lv_topi (fun x17 ex17 => ?_)
          refine lv_istore_n (lv' := [(2, .int x17), (0, .ref (g 68)), (1, .int p1), (3, .int a3_4)]) hx hb dX4_setsForOneMore_43 rfl hl (by decide) rfl (fun ls hl => ?_)
          exact lab_44 x17 _ _ _ (show ((0 : Int) ≤ a3_4.toInt ∧ a3_4.toInt ≤ (4 : Int)) from by omega) hP hD hS (lv_sub hl [1, 2, 0, 3] rfl)
  refine lv_iconst (v := 0) hx hb dX4_setsForOneMore_0 (by decide) ?_
  refine lv_istore_n (lv' := [(2, .int 0), (0, .ref (g 68)), (1, .int p1)]) hx hb dX4_setsForOneMore_1 rfl hl (by decide) rfl (fun ls hl => ?_)
  refine lv_iconst (v := 0) hx hb dX4_setsForOneMore_2 (by decide) ?_
  refine lv_istore_n (lv' := [(3, .int 0), (2, .int 0), (0, .ref (g 68)), (1, .int p1)]) hx hb dX4_setsForOneMore_3 rfl hl (by decide) rfl (fun ls hl => ?_)
  exact lab_4 6 0 0 _ _ _ (show (5 - 0) < ((6 : Nat) : Int) from by omega) (by decide) hP hD hS (lv_sub hl [2, 3, 1, 0] rfl)
set_option maxHeartbeats 4000000 in
set_option maxRecDepth 100000 in
theorem s_X11_grow (l : Launch) (G : Gx) (g q : Nat → Nat) (I0 : Nat → Int32) (J0 : Nat → Int64) (R0 : Nat → Nat → Int32) (L0 : Nat → Nat → Int64) (hvI : InvI Wd_lo Wd_hi I0) (hvR : InvR Wd_rl R0) (hq3 : q 3 = (g 11)) (p1 : Int32)  : CtI (S := Unit) l yX11_grow cX11_grow 2 (some .int) (rmD 3 0 0) G [.ref (g 74), .int p1] (Wd G g q I0 J0 R0 L0) (fun r _ => True) (fun _ => (Wd G g q I0 J0 R0 L0)) := by
  refine ctI_of (own := RX11) (by decide +kernel) rfl (Nat.le_of_ble_eq_true rfl) ?_
  intro p e s m below meth c A ls F hr hlk hnm hK hP hD hA hS hl
  have hx := F.1
  have hb := F.2.1
  have hown := F.2.2.2.1
  have hl : lv_has ls 2 [(0, .ref (g 74)), (1, .int p1)] := hl
  obtain ⟨Q, hQ⟩ : ∃ Q : State → Prop, Q = MQ below (va_Qi (S := Unit) (fun r _ => True) (BX G A (fun _ => (Wd G g q I0 J0 R0 L0))) A) [.ref (g 74), .int p1].toArray s 0 0 A := ⟨_, rfl⟩
  rw [show (MQ below (va_Qi (S := Unit) (fun r _ => True) (BX G A (fun _ => (Wd G g q I0 J0 R0 L0))) A) [.ref (g 74), .int p1].toArray s (rmD 3 0 0).cells (rmD 3 0 0).slots A) = Q from hQ.symm]
  refine lv_iload_n hx hb dX11_grow_0 rfl (lv_at hl 1 rfl) ?_
  refine lv_if_lt (tgt := 20) hx hb dX11_grow_1 (by decide) (fun c1 => ?_) (fun c1 => ?_)
  · have gc1 : p1.toInt < 0 := (tlt _ _).mp c1
    refine lv_iconst (v := (-1)) hx hb dX11_grow_20 (by decide) ?_
    rw [hQ]
    exact q_i F hr hlk () hP hD hS trivial dX11_grow_21 (Nat.le_of_ble_eq_true rfl) (Nat.le_of_ble_eq_true rfl)
  · have gc1 : ¬ (p1.toInt < 0) := fun q0 => c1 ((tlt _ _).mpr q0)
    refine lv_iload_n hx hb dX11_grow_4 rfl (lv_at hl 1 rfl) ?_
    refine lv_iconst (v := 5) hx hb dX11_grow_5 (by decide) ?_
    refine lv_icmp_gt (tgt := 20) hx hb dX11_grow_6 (by decide) (fun c2 => ?_) (fun c2 => ?_)
    · have gc2 : 5 < p1.toInt := (tlt _ _).mp c2
      refine lv_iconst (v := (-1)) hx hb dX11_grow_20 (by decide) ?_
      rw [hQ]
      exact q_i F hr hlk () hP hD hS trivial dX11_grow_21 (Nat.le_of_ble_eq_true rfl) (Nat.le_of_ble_eq_true rfl)
    · have gc2 : ¬ (5 < p1.toInt) := fun q0 => c2 ((tlt _ _).mpr q0)
      refine lv_aload_n hx hb dX11_grow_9 rfl (lv_at hl 0 rfl) ?_
      refine g_get F hK hP 66 (Wd_at66 G g q I0 J0 R0 L0) clX11 4 (by decide) flX11_43 rfl dX11_grow_10 ?_
      refine lv_iload_n hx hb dX11_grow_13 rfl (lv_at hl 1 rfl) ?_
      refine wvi (As := [.int p1]) (rest := []) (b := (g 68)) (d := 2) F hK hP hD hS hA (s_X4_setsForOneMore l G g q I0 J0 R0 L0 hvI hvR hq3 p1 (show ((0 : Int) ≤ p1.toInt ∧ p1.toInt ≤ (5 : Int)) from by omega)) kmV_X4_setsForOneMore mlX11_367 clX4 rfl 70 (Wd_at70 G g q I0 J0 R0 L0) ⟨(Nat.le_of_ble_eq_true rfl), (Nat.le_of_ble_eq_true rfl)⟩ hl.1 rfl (Nat.le_of_ble_eq_true rfl) dX11_grow_14 (fun r3 u4 H locs hwr3 hP hD hS => ?_)
      refine lv_goto (tgt := 21) hx hb dX11_grow_17 (by decide) ?_
      rw [hQ]
      exact q_i F hr hlk () hP hD hS trivial dX11_grow_21 (Nat.le_of_ble_eq_true rfl) (Nat.le_of_ble_eq_true rfl)
set_option maxHeartbeats 4000000 in
set_option maxRecDepth 100000 in
theorem s_X2_meetingTeams (l : Launch) (G : Gx) (g q : Nat → Nat) (I0 : Nat → Int32) (J0 : Nat → Int64) (R0 : Nat → Nat → Int32) (L0 : Nat → Nat → Int64) (hvI : InvI Wd_lo Wd_hi I0) (hvR : InvR Wd_rl R0)    : CtI (S := Unit) l yX2_meetingTeams cX2_meetingTeams 3 (some .int) (rmD 1 0 0) G [.ref (g 11)] (Wd G g q I0 J0 R0 L0) (fun r _ => True) (fun _ => (Wd G g q I0 J0 R0 L0)) := by
  refine ctI_of (own := RX2) (by decide +kernel) rfl (Nat.le_of_ble_eq_true rfl) ?_
  intro p e s m below meth c A ls F hr hlk hnm hK hP hD hA hS hl
  have hx := F.1
  have hb := F.2.1
  have hown := F.2.2.2.1
  have hl : lv_has ls 3 [(0, .ref (g 11))] := hl
  obtain ⟨Q, hQ⟩ : ∃ Q : State → Prop, Q = MQ below (va_Qi (S := Unit) (fun r _ => True) (BX G A (fun _ => (Wd G g q I0 J0 R0 L0))) A) [.ref (g 11)].toArray s 0 0 A := ⟨_, rfl⟩
  rw [show (MQ below (va_Qi (S := Unit) (fun r _ => True) (BX G A (fun _ => (Wd G g q I0 J0 R0 L0))) A) [.ref (g 11)].toArray s (rmD 1 0 0).cells (rmD 1 0 0).slots A) = Q from hQ.symm]
  have lab_4 : ∀ (k_4 : Nat) (a1_4 : Int32) (a2_4 : Int32) (H : Heap) (locs : List Loc) (ls : Array Slot), ((6 - a2_4.toInt) < (k_4 : Int)) → ((0 : Int) ≤ a2_4.toInt ∧ a2_4.toInt ≤ (6 : Int)) → va_P G.1 vwCl (Wd G g q I0 J0 R0 L0) H → va_D A (Wd G g q I0 J0 R0 L0) → va_S A s.heap H locs → lv_has ls 3 [(0, .ref (g 11)), (1, .int a1_4), (2, .int a2_4)] → W p l e (rmD 1 0 0) s m [.ref (g 11)].toArray below meth c H locs 0 0 Q (F0 m 4 ls []) := by
    intro k_4
    induction k_4 with
    | zero =>
      intro a1_4 a2_4 H locs ls hm y0_4 hP hD hS hl
      exact absurd hm (by omega)
    | succ k_4 ih_4 =>
      intro a1_4 a2_4 H locs ls hm y0_4 hP hD hS hl
      have lab_24 : ∀ (a1_24 : Int32) (H : Heap) (locs : List Loc) (ls : Array Slot), ((0 : Int) ≤ a2_4.toInt ∧ a2_4.toInt ≤ (5 : Int)) → va_P G.1 vwCl (Wd G g q I0 J0 R0 L0) H → va_D A (Wd G g q I0 J0 R0 L0) → va_S A s.heap H locs → lv_has ls 3 [(0, .ref (g 11)), (1, .int a1_24), (2, .int a2_4)] → W p l e (rmD 1 0 0) s m [.ref (g 11)].toArray below meth c H locs 0 0 Q (F0 m 24 ls []) := by
        intro a1_24 H locs ls y0_24 hP hD hS hl
        obtain ⟨x1, ex1⟩ : ∃ y : Int32, y = a2_4 + 1 := ⟨_, rfl⟩
        have fx1 : x1.toInt = a2_4.toInt + (1 : Int) := by rw [ex1]; exact t_add (by show (-2147483648 : Int) ≤ a2_4.toInt + (1 : Int); omega) (by show a2_4.toInt + (1 : Int) ≤ 2147483647; omega)
        refine lv_iinc (v := x1) (lv' := [(2, .int x1), (0, .ref (g 11)), (1, .int a1_24)]) hx hb dX2_meetingTeams_24 hl (k := 2) rfl (by rw [ex1]; rfl) (by decide) rfl (fun ls hl => ?_)
        refine lv_goto (tgt := 4) hx hb dX2_meetingTeams_27 (by decide) ?_
        exact ih_4 a1_24 x1 _ _ _ (show (6 - x1.toInt) < (k_4 : Int) from by omega) (show ((0 : Int) ≤ x1.toInt ∧ x1.toInt ≤ (6 : Int)) from by omega) hP hD hS (lv_sub hl [1, 2, 0] rfl)
      refine lv_iload_n hx hb dX2_meetingTeams_4 rfl (lv_at hl 2 rfl) ?_
      refine lv_aload_n hx hb dX2_meetingTeams_5 rfl (lv_at hl 0 rfl) ?_
      refine g_get F hK hP 0 (Wd_at0 G g q I0 J0 R0 L0) clX2 3 (by decide) flX2_32 rfl dX2_meetingTeams_6 ?_
      have w_I0_0 := rg (hvI 0 (by decide)) (0) (6) rfl rfl
      refine lv_icmp_ge (tgt := 30) hx hb dX2_meetingTeams_9 (by decide) (fun c2 => ?_) (fun c2 => ?_)
      · have gc2 : (I0 0).toInt ≤ a2_4.toInt := (tle _ _).mp c2
        refine lv_iload_n hx hb dX2_meetingTeams_30 rfl (lv_at hl 1 rfl) ?_
        rw [hQ]
        exact q_i F hr hlk () hP hD hS trivial dX2_meetingTeams_31 (Nat.le_of_ble_eq_true rfl) (Nat.le_of_ble_eq_true rfl)
      · have gc2 : ¬ ((I0 0).toInt ≤ a2_4.toInt) := fun q0 => c2 ((tle _ _).mpr q0)
        refine lv_aload_n hx hb dX2_meetingTeams_12 rfl (lv_at hl 0 rfl) ?_
        refine g_get F hK hP 0 (Wd_at0 G g q I0 J0 R0 L0) clX2 5 (by decide) flX2_40 rfl dX2_meetingTeams_13 ?_
        refine lv_iload_n hx hb dX2_meetingTeams_16 rfl (lv_at hl 2 rfl) ?_
        refine g_zald F hK hP 26 (Wd_at26 G g q I0 J0 R0 L0) (in_of (by omega)) dX2_meetingTeams_17 rfl ?_
        refine lv_topi (fun x3 ex3 => ?_)
        have gx3 : x3.toInt = (R0 22 (Int32.toNatClampNeg a2_4)).toInt := congrArg Int32.toInt (ex3)
        have fx3 : ((0 : Int) ≤ x3.toInt ∧ x3.toInt ≤ (1 : Int)) := by rw [ex3]; exact hvR 22 (by decide) _ (clamp_lt (n := 6) (in_of (by omega)))
        refine lv_if_eq (tgt := 24) hx hb dX2_meetingTeams_18 (by decide) (fun c4 => ?_) (fun c4 => ?_)
        · have gc4 : x3.toInt = 0 := congrArg Int32.toInt c4
          exact lab_24 a1_4 _ _ _ (show ((0 : Int) ≤ a2_4.toInt ∧ a2_4.toInt ≤ (5 : Int)) from by omega) hP hD hS (lv_sub hl [0, 1, 2] rfl)
        · have gc4 : ¬ (x3.toInt = 0) := fun q0 => c4 (Int32.toInt_inj.mp q0)
          obtain ⟨x5, ex5⟩ : ∃ y : Int32, y = a1_4 + 1 := ⟨_, rfl⟩
          refine lv_iinc (v := x5) (lv' := [(1, .int x5), (0, .ref (g 11)), (2, .int a2_4)]) hx hb dX2_meetingTeams_21 hl (k := 1) rfl (by rw [ex5]; rfl) (by decide) rfl (fun ls hl => ?_)
          exact lab_24 x5 _ _ _ (show ((0 : Int) ≤ a2_4.toInt ∧ a2_4.toInt ≤ (5 : Int)) from by omega) hP hD hS (lv_sub hl [1, 0, 2] rfl)
  refine lv_iconst (v := 0) hx hb dX2_meetingTeams_0 (by decide) ?_
  refine lv_istore_n (lv' := [(1, .int 0), (0, .ref (g 11))]) hx hb dX2_meetingTeams_1 rfl hl (by decide) rfl (fun ls hl => ?_)
  refine lv_iconst (v := 0) hx hb dX2_meetingTeams_2 (by decide) ?_
  refine lv_istore_n (lv' := [(2, .int 0), (1, .int 0), (0, .ref (g 11))]) hx hb dX2_meetingTeams_3 rfl hl (by decide) rfl (fun ls hl => ?_)
  exact lab_4 7 0 0 _ _ _ (show (6 - 0) < ((7 : Nat) : Int) from by omega) (by decide) hP hD hS (lv_sub hl [2, 1, 0] rfl)
set_option maxHeartbeats 4000000 in
set_option maxRecDepth 100000 in
theorem s_X11_has (l : Launch) (G : Gx) (g q : Nat → Nat) (I0 : Nat → Int32) (J0 : Nat → Int64) (R0 : Nat → Nat → Int32) (L0 : Nat → Nat → Int64) (hvI : InvI Wd_lo Wd_hi I0) (hvR : InvR Wd_rl R0) (hq3 : q 3 = (g 11)) (p1 : Int32)  : CtI (S := Unit) l yX11_has cX11_has 3 (some .int) (rmD 2 0 0) G [.ref (g 74), .int p1] (Wd G g q I0 J0 R0 L0) (fun r _ => True) (fun _ => (Wd G g q I0 J0 R0 L0)) := by
  refine ctI_of (own := RX11) (by decide +kernel) rfl (Nat.le_of_ble_eq_true rfl) ?_
  intro p e s m below meth c A ls F hr hlk hnm hK hP hD hA hS hl
  have hx := F.1
  have hb := F.2.1
  have hown := F.2.2.2.1
  have hl : lv_has ls 3 [(0, .ref (g 74)), (1, .int p1)] := hl
  obtain ⟨Q, hQ⟩ : ∃ Q : State → Prop, Q = MQ below (va_Qi (S := Unit) (fun r _ => True) (BX G A (fun _ => (Wd G g q I0 J0 R0 L0))) A) [.ref (g 74), .int p1].toArray s 0 0 A := ⟨_, rfl⟩
  rw [show (MQ below (va_Qi (S := Unit) (fun r _ => True) (BX G A (fun _ => (Wd G g q I0 J0 R0 L0))) A) [.ref (g 74), .int p1].toArray s (rmD 2 0 0).cells (rmD 2 0 0).slots A) = Q from hQ.symm]
  refine lv_aload_n hx hb dX11_has_0 rfl (lv_at hl 0 rfl) ?_
  refine g_get F hK hP 66 (Wd_at66 G g q I0 J0 R0 L0) clX11 4 (by decide) flX11_43 rfl dX11_has_1 ?_
  refine g_get F hK hP 70 (Wd_at70 G g q I0 J0 R0 L0) clX4 0 (by decide) flX11_121 rfl dX11_has_4 ?_
  refine cst_r hq3 ?_
  refine lv_astore_n (lv' := [(2, .ref (g 11)), (0, .ref (g 74)), (1, .int p1)]) hx hb dX11_has_7 rfl hl (by decide) rfl (fun ls hl => ?_)
  refine lv_iload_n hx hb dX11_has_8 rfl (lv_at hl 2 rfl) ?_
  by_cases h1 : p1 = 0
  · have gh1 : p1.toInt = 0 := congrArg Int32.toInt h1
    refine cst_i h1 ?_
    refine lv_tableIn (off := 51) (tgt := 60) hx hb dX11_has_9 (by decide) (by decide) rfl (by decide) ?_
    refine lv_aload_n hx hb dX11_has_60 rfl (lv_at hl 0 rfl) ?_
    refine g_get F hK hP 0 (Wd_at0 G g q I0 J0 R0 L0) clX2 0 (by decide) flX11_129 rfl dX11_has_61 ?_
    refine g_get F hK hP 1 (Wd_at1 G g q I0 J0 R0 L0) clX1 0 (by decide) flX11_133 rfl dX11_has_64 ?_
    have w_I0_3 := rg (hvI 3 (by decide)) (0) (5) rfl rfl
    rw [hQ]
    exact q_i F hr hlk () hP hD hS trivial dX11_has_67 (Nat.le_of_ble_eq_true rfl) (Nat.le_of_ble_eq_true rfl)
  by_cases h2 : p1 = 1
  · have gh2 : p1.toInt = 1 := congrArg Int32.toInt h2
    refine cst_i h2 ?_
    refine lv_tableIn (off := 59) (tgt := 68) hx hb dX11_has_9 (by decide) (by decide) rfl (by decide) ?_
    refine lv_aload_n hx hb dX11_has_68 rfl (lv_at hl 0 rfl) ?_
    refine g_get F hK hP 0 (Wd_at0 G g q I0 J0 R0 L0) clX2 3 (by decide) flX11_136 rfl dX11_has_69 ?_
    have w_I0_0 := rg (hvI 0 (by decide)) (0) (6) rfl rfl
    rw [hQ]
    exact q_i F hr hlk () hP hD hS trivial dX11_has_72 (Nat.le_of_ble_eq_true rfl) (Nat.le_of_ble_eq_true rfl)
  by_cases h3 : p1 = 2
  · have gh3 : p1.toInt = 2 := congrArg Int32.toInt h3
    refine cst_i h3 ?_
    refine lv_tableIn (off := 64) (tgt := 73) hx hb dX11_has_9 (by decide) (by decide) rfl (by decide) ?_
    refine lv_aload_n hx hb dX11_has_73 rfl (lv_at hl 0 rfl) ?_
    refine g_get F hK hP 0 (Wd_at0 G g q I0 J0 R0 L0) clX2 1 (by decide) flX11_139 rfl dX11_has_74 ?_
    refine g_get F hK hP 2 (Wd_at2 G g q I0 J0 R0 L0) clX3 0 (by decide) flX11_143 rfl dX11_has_77 ?_
    have w_I0_6 := rg (hvI 6 (by decide)) (0) (12) rfl rfl
    rw [hQ]
    exact q_i F hr hlk () hP hD hS trivial dX11_has_80 (Nat.le_of_ble_eq_true rfl) (Nat.le_of_ble_eq_true rfl)
  by_cases h4 : p1 = 3
  · have gh4 : p1.toInt = 3 := congrArg Int32.toInt h4
    refine cst_i h4 ?_
    refine lv_tableIn (off := 72) (tgt := 81) hx hb dX11_has_9 (by decide) (by decide) rfl (by decide) ?_
    refine lv_aload_n hx hb dX11_has_81 rfl (lv_at hl 0 rfl) ?_
    refine g_get F hK hP 0 (Wd_at0 G g q I0 J0 R0 L0) clX2 7 (by decide) flX11_146 rfl dX11_has_82 ?_
    have w_I0_1 := rg (hvI 1 (by decide)) (0) (30) rfl rfl
    rw [hQ]
    exact q_i F hr hlk () hP hD hS trivial dX11_has_85 (Nat.le_of_ble_eq_true rfl) (Nat.le_of_ble_eq_true rfl)
  by_cases h5 : p1 = 4
  · have gh5 : p1.toInt = 4 := congrArg Int32.toInt h5
    refine cst_i h5 ?_
    refine lv_tableIn (off := 77) (tgt := 86) hx hb dX11_has_9 (by decide) (by decide) rfl (by decide) ?_
    refine lv_aload_n hx hb dX11_has_86 rfl (lv_at hl 0 rfl) ?_
    refine g_get F hK hP 0 (Wd_at0 G g q I0 J0 R0 L0) clX2 0 (by decide) flX11_129 rfl dX11_has_87 ?_
    refine g_get F hK hP 1 (Wd_at1 G g q I0 J0 R0 L0) clX1 1 (by decide) flX11_149 rfl dX11_has_90 ?_
    rw [hQ]
    exact q_i F hr hlk () hP hD hS trivial dX11_has_93 (Nat.le_of_ble_eq_true rfl) (Nat.le_of_ble_eq_true rfl)
  by_cases h6 : p1 = 5
  · have gh6 : p1.toInt = 5 := congrArg Int32.toInt h6
    refine cst_i h6 ?_
    refine lv_tableIn (off := 85) (tgt := 94) hx hb dX11_has_9 (by decide) (by decide) rfl (by decide) ?_
    refine lv_aload_n hx hb dX11_has_94 rfl (lv_at hl 0 rfl) ?_
    refine g_get F hK hP 0 (Wd_at0 G g q I0 J0 R0 L0) clX2 0 (by decide) flX11_129 rfl dX11_has_95 ?_
    refine g_get F hK hP 1 (Wd_at1 G g q I0 J0 R0 L0) clX1 2 (by decide) flX11_152 rfl dX11_has_98 ?_
    rw [hQ]
    exact q_i F hr hlk () hP hD hS trivial dX11_has_101 (Nat.le_of_ble_eq_true rfl) (Nat.le_of_ble_eq_true rfl)
  by_cases h7 : p1 = 6
  · have gh7 : p1.toInt = 6 := congrArg Int32.toInt h7
    refine cst_i h7 ?_
    refine lv_tableIn (off := 93) (tgt := 102) hx hb dX11_has_9 (by decide) (by decide) rfl (by decide) ?_
    refine lv_aload_n hx hb dX11_has_102 rfl (lv_at hl 0 rfl) ?_
    refine g_get F hK hP 0 (Wd_at0 G g q I0 J0 R0 L0) clX2 2 (by decide) flX11_155 rfl dX11_has_103 ?_
    refine g_get F hK hP 3 (Wd_at3 G g q I0 J0 R0 L0) clX7 0 (by decide) flX11_159 rfl dX11_has_106 ?_
    have w_I0_7 := rg (hvI 7 (by decide)) (0) (12) rfl rfl
    rw [hQ]
    exact q_i F hr hlk () hP hD hS trivial dX11_has_109 (Nat.le_of_ble_eq_true rfl) (Nat.le_of_ble_eq_true rfl)
  by_cases h8 : p1 = 7
  · have gh8 : p1.toInt = 7 := congrArg Int32.toInt h8
    refine cst_i h8 ?_
    refine lv_tableIn (off := 101) (tgt := 110) hx hb dX11_has_9 (by decide) (by decide) rfl (by decide) ?_
    refine lv_aload_n hx hb dX11_has_110 rfl (lv_at hl 0 rfl) ?_
    refine g_get F hK hP 0 (Wd_at0 G g q I0 J0 R0 L0) clX2 13 (by decide) flX11_162 rfl dX11_has_111 ?_
    rw [hQ]
    exact q_i F hr hlk () hP hD hS trivial dX11_has_114 (Nat.le_of_ble_eq_true rfl) (Nat.le_of_ble_eq_true rfl)
  by_cases h9 : p1 = 8
  · have gh9 : p1.toInt = 8 := congrArg Int32.toInt h9
    refine cst_i h9 ?_
    refine lv_tableIn (off := 106) (tgt := 115) hx hb dX11_has_9 (by decide) (by decide) rfl (by decide) ?_
    refine lv_aload_n hx hb dX11_has_115 rfl (lv_at hl 0 rfl) ?_
    refine wvi (As := []) (rest := []) (b := (g 11)) (d := 1) F hK hP hD hS hA (s_X2_meetingTeams l G g q I0 J0 R0 L0 hvI hvR   ) kmV_X2_meetingTeams mlX11_165 clX2 rfl 0 (Wd_at0 G g q I0 J0 R0 L0) ⟨(Nat.le_of_ble_eq_true rfl), (Nat.le_of_ble_eq_true rfl)⟩ hl.1 rfl (Nat.le_of_ble_eq_true rfl) dX11_has_116 (fun r10 u11 H locs hwr10 hP hD hS => ?_)
    rw [hQ]
    exact q_i F hr hlk () hP hD hS trivial dX11_has_119 (Nat.le_of_ble_eq_true rfl) (Nat.le_of_ble_eq_true rfl)
  refine lv_tableOut (tgt := 120) hx hb dX11_has_9 (by have gh1 := lv_neT h1 (a := 0) rfl; have gh2 := lv_neT h2 (a := 1) rfl; have gh3 := lv_neT h3 (a := 2) rfl; have gh4 := lv_neT h4 (a := 3) rfl; have gh5 := lv_neT h5 (a := 4) rfl; have gh6 := lv_neT h6 (a := 5) rfl; have gh7 := lv_neT h7 (a := 6) rfl; have gh8 := lv_neT h8 (a := 7) rfl; have gh9 := lv_neT h9 (a := 8) rfl; omega) (by decide) ?_
  refine lv_iconst (v := (-1)) hx hb dX11_has_120 (by decide) ?_
  rw [hQ]
  exact q_i F hr hlk () hP hD hS trivial dX11_has_121 (Nat.le_of_ble_eq_true rfl) (Nat.le_of_ble_eq_true rfl)
set_option maxHeartbeats 4000000 in
set_option maxRecDepth 100000 in
theorem s_X3_isSuited (l : Launch) (G : Gx) (g q : Nat → Nat) (I0 : Nat → Int32) (J0 : Nat → Int64) (R0 : Nat → Nat → Int32) (L0 : Nat → Nat → Int64) (hvI : InvI Wd_lo Wd_hi I0) (hvR : InvR Wd_rl R0)  (p1 : Int32) (p2 : Int32) (hp1 : ((0 : Int) ≤ p1.toInt ∧ p1.toInt ≤ (11 : Int))) (hp2 : ((0 : Int) ≤ p2.toInt ∧ p2.toInt ≤ (31 : Int))) : CtI (S := Unit) l yX3_isSuited cX3_isSuited 3 (some .boolean) (rmD 2 0 0) G [.ref (g 34), .int p1, .int p2] (Wd G g q I0 J0 R0 L0) (fun r _ => ((0 : Int) ≤ r.toInt ∧ r.toInt ≤ (1 : Int))) (fun _ => (Wd G g q I0 J0 R0 L0)) := by
  refine ctI_of (own := RX3) (by decide +kernel) rfl (Nat.le_of_ble_eq_true rfl) ?_
  intro p e s m below meth c A ls F hr hlk hnm hK hP hD hA hS hl
  have hx := F.1
  have hb := F.2.1
  have hown := F.2.2.2.1
  have hl : lv_has ls 3 [(0, .ref (g 34)), (1, .int p1), (2, .int p2)] := hl
  obtain ⟨Q, hQ⟩ : ∃ Q : State → Prop, Q = MQ below (va_Qi (S := Unit) (fun r _ => ((0 : Int) ≤ r.toInt ∧ r.toInt ≤ (1 : Int))) (BX G A (fun _ => (Wd G g q I0 J0 R0 L0))) A) [.ref (g 34), .int p1, .int p2].toArray s 0 0 A := ⟨_, rfl⟩
  rw [show (MQ below (va_Qi (S := Unit) (fun r _ => ((0 : Int) ≤ r.toInt ∧ r.toInt ≤ (1 : Int))) (BX G A (fun _ => (Wd G g q I0 J0 R0 L0))) A) [.ref (g 34), .int p1, .int p2].toArray s (rmD 2 0 0).cells (rmD 2 0 0).slots A) = Q from hQ.symm]
  refine lv_iload_n hx hb dX3_isSuited_0 rfl (lv_at hl 2 rfl) ?_
  refine lv_aload_n hx hb dX3_isSuited_1 rfl (lv_at hl 0 rfl) ?_
  refine g_get F hK hP 35 (Wd_at35 G g q I0 J0 R0 L0) clX3 4 (by decide) flX3_25 rfl dX3_isSuited_2 ?_
  refine lv_iload_n hx hb dX3_isSuited_5 rfl (lv_at hl 1 rfl) ?_
  refine g_iald F hK hP 45 (Wd_at45 G g q I0 J0 R0 L0) (in_of (by omega)) dX3_isSuited_6 rfl ?_
  refine lv_topi (fun x1 ex1 => ?_)
  have gx1 : x1.toInt = (R0 37 (Int32.toNatClampNeg p1)).toInt := congrArg Int32.toInt (ex1)
  refine lv_iand hx hb dX3_isSuited_7 ?_
  refine lv_topi (fun x2 ex2 => ?_)
  refine lv_if_ne (tgt := 28) hx hb dX3_isSuited_8 (by decide) (fun c3 => ?_) (fun c3 => ?_)
  · have gc3 : ¬ (x2.toInt = 0) := fun q0 => c3 (Int32.toInt_inj.mp q0)
    refine lv_iconst (v := 0) hx hb dX3_isSuited_28 (by decide) ?_
    rw [hQ]
    exact q_z F hr hlk () hP hD hS (show ((0 : Int) ≤ 0 ∧ 0 ≤ (1 : Int)) from by omega) dX3_isSuited_29 (Nat.le_of_ble_eq_true rfl) (Nat.le_of_ble_eq_true rfl) (nar01 (by decide))
  · have gc3 : x2.toInt = 0 := congrArg Int32.toInt c3
    refine lv_iload_n hx hb dX3_isSuited_11 rfl (lv_at hl 2 rfl) ?_
    refine w0i (As := [.int p2]) (rest := []) (d := 1) F hK hP hD hS hA (s_J6_bitCount_0f7a4 l G  p2 ) kmS_J6_bitCount_0f7a4 mlX3_46 ⟨(Nat.le_of_ble_eq_true rfl), (Nat.le_of_ble_eq_true rfl)⟩ hl.1 rfl (Nat.le_of_ble_eq_true rfl) dX3_isSuited_12 (fun r4 u5 H locs hwr4 hP hD hS => ?_)
    have F0r4 := hwr4
    replace F0r4 : ((0 : Int) ≤ r4.toInt ∧ r4.toInt ≤ (63 : Int)) := F0r4
    refine lv_aload_n hx hb dX3_isSuited_15 rfl (lv_at hl 0 rfl) ?_
    refine g_get F hK hP 35 (Wd_at35 G g q I0 J0 R0 L0) clX3 3 (by decide) flX3_22 rfl dX3_isSuited_16 ?_
    refine lv_iload_n hx hb dX3_isSuited_19 rfl (lv_at hl 1 rfl) ?_
    refine g_iald F hK hP 44 (Wd_at44 G g q I0 J0 R0 L0) (in_of (by omega)) dX3_isSuited_20 rfl ?_
    refine lv_topi (fun x6 ex6 => ?_)
    have gx6 : x6.toInt = (R0 36 (Int32.toNatClampNeg p1)).toInt := congrArg Int32.toInt (ex6)
    refine lv_icmp_ne (tgt := 28) hx hb dX3_isSuited_21 (by decide) (fun c7 => ?_) (fun c7 => ?_)
    · have gc7 : ¬ (r4.toInt = x6.toInt) := fun q0 => c7 (Int32.toInt_inj.mp q0)
      refine lv_iconst (v := 0) hx hb dX3_isSuited_28 (by decide) ?_
      rw [hQ]
      exact q_z F hr hlk () hP hD hS (show ((0 : Int) ≤ 0 ∧ 0 ≤ (1 : Int)) from by omega) dX3_isSuited_29 (Nat.le_of_ble_eq_true rfl) (Nat.le_of_ble_eq_true rfl) (nar01 (by decide))
    · have gc7 : r4.toInt = x6.toInt := congrArg Int32.toInt c7
      refine lv_iconst (v := 1) hx hb dX3_isSuited_24 (by decide) ?_
      refine lv_goto (tgt := 29) hx hb dX3_isSuited_25 (by decide) ?_
      rw [hQ]
      exact q_z F hr hlk () hP hD hS (show ((0 : Int) ≤ 1 ∧ 1 ≤ (1 : Int)) from by omega) dX3_isSuited_29 (Nat.le_of_ble_eq_true rfl) (Nat.le_of_ble_eq_true rfl) (nar01 (by decide))
set_option maxHeartbeats 4000000 in
set_option maxRecDepth 100000 in
theorem s_X5_isOver (l : Launch) (G : Gx) (g q : Nat → Nat) (I0 : Nat → Int32) (J0 : Nat → Int64) (R0 : Nat → Nat → Int32) (L0 : Nat → Nat → Int64) (hvI : InvI Wd_lo Wd_hi I0) (hvR : InvR Wd_rl R0)    : CtI (S := Unit) l yX5_isOver cX5_isOver 1 (some .boolean) (rmD 1 0 0) G [.ref (g 75)] (Wd G g q I0 J0 R0 L0) (fun r _ => ((0 : Int) ≤ r.toInt ∧ r.toInt ≤ (1 : Int))) (fun _ => (Wd G g q I0 J0 R0 L0)) := by
  refine ctI_of (own := RX5) (by decide +kernel) rfl (Nat.le_of_ble_eq_true rfl) ?_
  intro p e s m below meth c A ls F hr hlk hnm hK hP hD hA hS hl
  have hx := F.1
  have hb := F.2.1
  have hown := F.2.2.2.1
  have hl : lv_has ls 1 [(0, .ref (g 75))] := hl
  obtain ⟨Q, hQ⟩ : ∃ Q : State → Prop, Q = MQ below (va_Qi (S := Unit) (fun r _ => ((0 : Int) ≤ r.toInt ∧ r.toInt ≤ (1 : Int))) (BX G A (fun _ => (Wd G g q I0 J0 R0 L0))) A) [.ref (g 75)].toArray s 0 0 A := ⟨_, rfl⟩
  rw [show (MQ below (va_Qi (S := Unit) (fun r _ => ((0 : Int) ≤ r.toInt ∧ r.toInt ≤ (1 : Int))) (BX G A (fun _ => (Wd G g q I0 J0 R0 L0))) A) [.ref (g 75)].toArray s (rmD 1 0 0).cells (rmD 1 0 0).slots A) = Q from hQ.symm]
  refine lv_aload_n hx hb dX5_isOver_0 rfl (lv_at hl 0 rfl) ?_
  refine g_get F hK hP 68 (Wd_at68 G g q I0 J0 R0 L0) clX5 4 (by decide) flX5_21 rfl dX5_isOver_1 ?_
  have w_I0_26 := rg (hvI 26 (by decide)) (0) (3) rfl rfl
  refine lv_if_ne (tgt := 11) hx hb dX5_isOver_4 (by decide) (fun c1 => ?_) (fun c1 => ?_)
  · have gc1 : ¬ ((I0 26).toInt = 0) := fun q0 => c1 (Int32.toInt_inj.mp q0)
    refine lv_iconst (v := 0) hx hb dX5_isOver_11 (by decide) ?_
    rw [hQ]
    exact q_z F hr hlk () hP hD hS (show ((0 : Int) ≤ 0 ∧ 0 ≤ (1 : Int)) from by omega) dX5_isOver_12 (Nat.le_of_ble_eq_true rfl) (Nat.le_of_ble_eq_true rfl) (nar01 (by decide))
  · have gc1 : (I0 26).toInt = 0 := congrArg Int32.toInt c1
    refine lv_iconst (v := 1) hx hb dX5_isOver_7 (by decide) ?_
    refine lv_goto (tgt := 12) hx hb dX5_isOver_8 (by decide) ?_
    rw [hQ]
    exact q_z F hr hlk () hP hD hS (show ((0 : Int) ≤ 1 ∧ 1 ≤ (1 : Int)) from by omega) dX5_isOver_12 (Nat.le_of_ble_eq_true rfl) (Nat.le_of_ble_eq_true rfl) (nar01 (by decide))
set_option maxHeartbeats 4000000 in
set_option maxRecDepth 100000 in
theorem s_X11_isImage (l : Launch) (G : Gx) (g q : Nat → Nat) (I0 : Nat → Int32) (J0 : Nat → Int64) (R0 : Nat → Nat → Int32) (L0 : Nat → Nat → Int64) (hvI : InvI Wd_lo Wd_hi I0) (hvR : InvR Wd_rl R0) (hq3 : q 3 = (g 11))   : CtI (S := Unit) l yX11_isImage cX11_isImage 2 (some .boolean) (rmD 2 0 0) G [.ref (g 74)] (Wd G g q I0 J0 R0 L0) (fun r _ => ((0 : Int) ≤ r.toInt ∧ r.toInt ≤ (1 : Int))) (fun _ => (Wd G g q I0 J0 R0 L0)) := by
  refine ctI_of (own := RX11) (by decide +kernel) rfl (Nat.le_of_ble_eq_true rfl) ?_
  intro p e s m below meth c A ls F hr hlk hnm hK hP hD hA hS hl
  have hx := F.1
  have hb := F.2.1
  have hown := F.2.2.2.1
  have hl : lv_has ls 2 [(0, .ref (g 74))] := hl
  obtain ⟨Q, hQ⟩ : ∃ Q : State → Prop, Q = MQ below (va_Qi (S := Unit) (fun r _ => ((0 : Int) ≤ r.toInt ∧ r.toInt ≤ (1 : Int))) (BX G A (fun _ => (Wd G g q I0 J0 R0 L0))) A) [.ref (g 74)].toArray s 0 0 A := ⟨_, rfl⟩
  rw [show (MQ below (va_Qi (S := Unit) (fun r _ => ((0 : Int) ≤ r.toInt ∧ r.toInt ≤ (1 : Int))) (BX G A (fun _ => (Wd G g q I0 J0 R0 L0))) A) [.ref (g 74)].toArray s (rmD 2 0 0).cells (rmD 2 0 0).slots A) = Q from hQ.symm]
  refine lv_aload_n hx hb dX11_isImage_0 rfl (lv_at hl 0 rfl) ?_
  refine g_get F hK hP 66 (Wd_at66 G g q I0 J0 R0 L0) clX11 4 (by decide) flX11_43 rfl dX11_isImage_1 ?_
  refine g_get F hK hP 70 (Wd_at70 G g q I0 J0 R0 L0) clX4 0 (by decide) flX11_121 rfl dX11_isImage_4 ?_
  refine cst_r hq3 ?_
  refine g_get F hK hP 0 (Wd_at0 G g q I0 J0 R0 L0) clX2 1 (by decide) flX11_139 rfl dX11_isImage_7 ?_
  refine g_get F hK hP 2 (Wd_at2 G g q I0 J0 R0 L0) clX3 0 (by decide) flX11_143 rfl dX11_isImage_10 ?_
  have w_I0_6 := rg (hvI 6 (by decide)) (0) (12) rfl rfl
  refine lv_istore_n (lv' := [(1, .int (I0 6)), (0, .ref (g 74))]) hx hb dX11_isImage_13 rfl hl (by decide) rfl (fun ls hl => ?_)
  refine lv_aload_n hx hb dX11_isImage_14 rfl (lv_at hl 1 rfl) ?_
  refine g_get F hK hP 66 (Wd_at66 G g q I0 J0 R0 L0) clX11 1 (by decide) flX11_13 rfl dX11_isImage_15 ?_
  have w_I0_18 := rg (hvI 18 (by decide)) (0) (1800) rfl rfl
  refine lv_iload_n hx hb dX11_isImage_18 rfl (lv_at hl 0 rfl) ?_
  refine lv_iconst (v := 2) hx hb dX11_isImage_19 (by decide) ?_
  refine lv_iadd hx hb dX11_isImage_20 ?_
  refine lv_topi (fun x1 ex1 => ?_)
  have fx1 : x1.toInt = (I0 6).toInt + 2 := by rw [ex1]; exact t_add (by show (-2147483648 : Int) ≤ (I0 6).toInt + 2; omega) (by show (I0 6).toInt + 2 ≤ 2147483647; omega)
  refine lv_icmp_ne (tgt := 42) hx hb dX11_isImage_21 (by decide) (fun c2 => ?_) (fun c2 => ?_)
  · have gc2 : ¬ ((I0 18).toInt = x1.toInt) := fun q0 => c2 (Int32.toInt_inj.mp q0)
    refine lv_iconst (v := 0) hx hb dX11_isImage_42 (by decide) ?_
    rw [hQ]
    exact q_z F hr hlk () hP hD hS (show ((0 : Int) ≤ 0 ∧ 0 ≤ (1 : Int)) from by omega) dX11_isImage_43 (Nat.le_of_ble_eq_true rfl) (Nat.le_of_ble_eq_true rfl) (nar01 (by decide))
  · have gc2 : (I0 18).toInt = x1.toInt := congrArg Int32.toInt c2
    refine lv_aload_n hx hb dX11_isImage_24 rfl (lv_at hl 1 rfl) ?_
    refine g_get F hK hP 66 (Wd_at66 G g q I0 J0 R0 L0) clX11 0 (by decide) flX11_9 rfl dX11_isImage_25 ?_
    refine lv_iconst (v := 0) hx hb dX11_isImage_28 (by decide) ?_
    refine g_iald F hK hP 74 (Wd_at74 G g q I0 J0 R0 L0) (in_of (by decide)) dX11_isImage_29 rfl ?_
    refine lv_topi (fun x3 ex3 => ?_)
    have gx3 : x3.toInt = (R0 58 (Int32.toNatClampNeg 0)).toInt := congrArg Int32.toInt (ex3)
    have fx3 : ((0 : Int) ≤ x3.toInt ∧ x3.toInt ≤ (255 : Int)) := by rw [ex3]; exact hvR 58 (by decide) _ (clamp_lt (n := 1800) (in_of (by decide)))
    refine lv_iload_n hx hb dX11_isImage_30 rfl (lv_at hl 0 rfl) ?_
    refine lv_icmp_ne (tgt := 42) hx hb dX11_isImage_31 (by decide) (fun c4 => ?_) (fun c4 => ?_)
    · have gc4 : ¬ (x3.toInt = (I0 6).toInt) := fun q0 => c4 (Int32.toInt_inj.mp q0)
      refine lv_iconst (v := 0) hx hb dX11_isImage_42 (by decide) ?_
      rw [hQ]
      exact q_z F hr hlk () hP hD hS (show ((0 : Int) ≤ 0 ∧ 0 ≤ (1 : Int)) from by omega) dX11_isImage_43 (Nat.le_of_ble_eq_true rfl) (Nat.le_of_ble_eq_true rfl) (nar01 (by decide))
    · have gc4 : x3.toInt = (I0 6).toInt := congrArg Int32.toInt c4
      refine lv_aload_n hx hb dX11_isImage_34 rfl (lv_at hl 1 rfl) ?_
      refine lv_iconst (v := 1) hx hb dX11_isImage_35 (by decide) ?_
      refine wvi (As := [.int 1]) (rest := []) (b := (g 74)) (d := 1) F hK hP hD hS hA (s_X11_areSets l G g q I0 J0 R0 L0 hvI hvR hq3 1 (by decide)) kmV_X11_areSets mlX11_224 clX11 rfl 66 (Wd_at66 G g q I0 J0 R0 L0) ⟨(Nat.le_of_ble_eq_true rfl), (Nat.le_of_ble_eq_true rfl)⟩ hl.1 rfl (Nat.le_of_ble_eq_true rfl) dX11_isImage_36 (fun r5 u6 H locs hwr5 hP hD hS => ?_)
      have F0r5 := hwr5
      replace F0r5 : ((0 : Int) ≤ r5.toInt ∧ r5.toInt ≤ (1 : Int)) := F0r5
      refine lv_if_ne (tgt := 44) hx hb dX11_isImage_39 (by decide) (fun c7 => ?_) (fun c7 => ?_)
      · have gc7 : ¬ (r5.toInt = 0) := fun q0 => c7 (Int32.toInt_inj.mp q0)
        refine lv_aload_n hx hb dX11_isImage_44 rfl (lv_at hl 1 rfl) ?_
        refine g_get F hK hP 66 (Wd_at66 G g q I0 J0 R0 L0) clX11 0 (by decide) flX11_9 rfl dX11_isImage_45 ?_
        refine lv_iload_n hx hb dX11_isImage_48 rfl (lv_at hl 0 rfl) ?_
        refine lv_iconst (v := 1) hx hb dX11_isImage_49 (by decide) ?_
        refine lv_iadd hx hb dX11_isImage_50 ?_
        refine lv_topi (fun x8 ex8 => ?_)
        have fx8 : x8.toInt = (I0 6).toInt + 1 := by rw [ex8]; exact t_add (by show (-2147483648 : Int) ≤ (I0 6).toInt + 1; omega) (by show (I0 6).toInt + 1 ≤ 2147483647; omega)
        refine g_iald F hK hP 74 (Wd_at74 G g q I0 J0 R0 L0) (in_of (by omega)) dX11_isImage_51 rfl ?_
        refine lv_topi (fun x9 ex9 => ?_)
        have gx9 : x9.toInt = (R0 58 (Int32.toNatClampNeg x8)).toInt := congrArg Int32.toInt (ex9)
        have fx9 : ((0 : Int) ≤ x9.toInt ∧ x9.toInt ≤ (255 : Int)) := by rw [ex9]; exact hvR 58 (by decide) _ (clamp_lt (n := 1800) (in_of (by omega)))
        refine lv_aload_n hx hb dX11_isImage_52 rfl (lv_at hl 1 rfl) ?_
        refine g_get F hK hP 66 (Wd_at66 G g q I0 J0 R0 L0) clX11 0 (by decide) flX11_9 rfl dX11_isImage_53 ?_
        refine lv_iload_n hx hb dX11_isImage_56 rfl (lv_at hl 0 rfl) ?_
        refine lv_iconst (v := 1) hx hb dX11_isImage_57 (by decide) ?_
        refine lv_iadd hx hb dX11_isImage_58 ?_
        refine lv_topi (fun x10 ex10 => ?_)
        have fx10 : x10.toInt = (I0 6).toInt + 1 := by rw [ex10]; exact t_add (by show (-2147483648 : Int) ≤ (I0 6).toInt + 1; omega) (by show (I0 6).toInt + 1 ≤ 2147483647; omega)
        refine wsi (As := [.ref (g 66), .int x10]) (rest := [.int x9]) (d := 1) F hK hP hD hS hA (s_X11_checkByte_tape l G g q I0 J0 R0 L0 hvI hvR hq3 x10 (show ((1 : Int) ≤ x10.toInt ∧ x10.toInt ≤ (13 : Int)) from by omega)) kmS_X11_checkByte mlX11_373 ⟨(Nat.le_of_ble_eq_true rfl), (Nat.le_of_ble_eq_true rfl)⟩ hl.1 rfl (Nat.le_of_ble_eq_true rfl) dX11_isImage_59 (fun r11 u12 H locs hwr11 hP hD hS => ?_)
        refine lv_icmp_ne (tgt := 69) hx hb dX11_isImage_62 (by decide) (fun c13 => ?_) (fun c13 => ?_)
        · have gc13 : ¬ (x9.toInt = r11.toInt) := fun q0 => c13 (Int32.toInt_inj.mp q0)
          refine lv_iconst (v := 0) hx hb dX11_isImage_69 (by decide) ?_
          rw [hQ]
          exact q_z F hr hlk () hP hD hS (show ((0 : Int) ≤ 0 ∧ 0 ≤ (1 : Int)) from by omega) dX11_isImage_70 (Nat.le_of_ble_eq_true rfl) (Nat.le_of_ble_eq_true rfl) (nar01 (by decide))
        · have gc13 : x9.toInt = r11.toInt := congrArg Int32.toInt c13
          refine lv_iconst (v := 1) hx hb dX11_isImage_65 (by decide) ?_
          refine lv_goto (tgt := 70) hx hb dX11_isImage_66 (by decide) ?_
          rw [hQ]
          exact q_z F hr hlk () hP hD hS (show ((0 : Int) ≤ 1 ∧ 1 ≤ (1 : Int)) from by omega) dX11_isImage_70 (Nat.le_of_ble_eq_true rfl) (Nat.le_of_ble_eq_true rfl) (nar01 (by decide))
      · have gc7 : r5.toInt = 0 := congrArg Int32.toInt c7
        refine lv_iconst (v := 0) hx hb dX11_isImage_42 (by decide) ?_
        rw [hQ]
        exact q_z F hr hlk () hP hD hS (show ((0 : Int) ≤ 0 ∧ 0 ≤ (1 : Int)) from by omega) dX11_isImage_43 (Nat.le_of_ble_eq_true rfl) (Nat.le_of_ble_eq_true rfl) (nar01 (by decide))
set_option maxHeartbeats 4000000 in
set_option maxRecDepth 100000 in
theorem s_X11_letterOf (l : Launch) (G : Gx)  (p0 : Int32) (p1 : Int32)  : CtI (S := Unit) l yX11_letterOf cX11_letterOf 4 (some .int) (rmD 2 0 0) G [.int p0, .int p1] [] (fun r _ => ((-1 : Int) ≤ r.toInt ∧ r.toInt ≤ (127 : Int))) (fun _ => []) := by
  refine ctI_of (own := RX11) (by decide +kernel) rfl (Nat.le_of_ble_eq_true rfl) ?_
  intro p e s m below meth c A ls F hr hlk hnm hK hP hD hA hS hl
  have hx := F.1
  have hb := F.2.1
  have hown := F.2.2.2.1
  have hl : lv_has ls 4 [(0, .int p0), (1, .int p1)] := hl
  obtain ⟨Q, hQ⟩ : ∃ Q : State → Prop, Q = MQ below (va_Qi (S := Unit) (fun r _ => ((-1 : Int) ≤ r.toInt ∧ r.toInt ≤ (127 : Int))) (BX G A (fun _ => [])) A) [.int p0, .int p1].toArray s 0 0 A := ⟨_, rfl⟩
  rw [show (MQ below (va_Qi (S := Unit) (fun r _ => ((-1 : Int) ≤ r.toInt ∧ r.toInt ≤ (127 : Int))) (BX G A (fun _ => [])) A) [.int p0, .int p1].toArray s (rmD 2 0 0).cells (rmD 2 0 0).slots A) = Q from hQ.symm]
  have lab_24 : ∀ (a2_24 : Int32) (H : Heap) (locs : List Loc) (ls : Array Slot), ((0 : Int) ≤ a2_24.toInt ∧ a2_24.toInt ≤ (6 : Int)) → va_P G.1 vwCl [] H → va_D A [] → va_S A s.heap H locs → lv_has ls 4 [(0, .int p0), (1, .int p1), (2, .int a2_24)] → W p l e (rmD 2 0 0) s m [.int p0, .int p1].toArray below meth c H locs 0 0 Q (F0 m 24 ls []) := by
    intro a2_24 H locs ls y0_24 hP hD hS hl
    refine lv_iload_n hx hb dX11_letterOf_24 rfl (lv_at hl 1 rfl) ?_
    refine lv_iload_n hx hb dX11_letterOf_25 rfl (lv_at hl 2 rfl) ?_
    refine w0i (As := [.int p1, .int a2_24]) (rest := []) (d := 1) F hK hP hD hS hA (s_X11_isBelow l G  p1 a2_24 (show ((0 : Int) ≤ a2_24.toInt ∧ a2_24.toInt ≤ (30 : Int)) from by omega)) kmS_X11_isBelow mlX11_169 ⟨(Nat.le_of_ble_eq_true rfl), (Nat.le_of_ble_eq_true rfl)⟩ hl.1 rfl (Nat.le_of_ble_eq_true rfl) dX11_letterOf_26 (fun r1 u2 H locs hwr1 hP hD hS => ?_)
    obtain ⟨F0r1, F1r1⟩ := hwr1
    replace F0r1 : ((0 : Int) ≤ r1.toInt ∧ r1.toInt ≤ (1 : Int)) := F0r1
    replace F1r1 : (r1.toInt = 1 → (0 ≤ p1.toInt ∧ p1.toInt < a2_24.toInt)) := F1r1
    refine lv_if_ne (tgt := 34) hx hb dX11_letterOf_29 (by decide) (fun c3 => ?_) (fun c3 => ?_)
    · have gc3 : ¬ (r1.toInt = 0) := fun q0 => c3 (Int32.toInt_inj.mp q0)
      refine lv_iload_n hx hb dX11_letterOf_34 rfl (lv_at hl 2 rfl) ?_
      refine lv_iconst (v := 1) hx hb dX11_letterOf_35 (by decide) ?_
      refine lv_isub hx hb dX11_letterOf_36 ?_
      refine lv_topi (fun x4 ex4 => ?_)
      have fx4 : x4.toInt = a2_24.toInt - 1 := by rw [ex4]; exact t_sub (by show (-2147483648 : Int) ≤ a2_24.toInt - 1; omega) (by show a2_24.toInt - 1 ≤ 2147483647; omega)
      refine lv_iload_n hx hb dX11_letterOf_37 rfl (lv_at hl 1 rfl) ?_
      refine lv_isub hx hb dX11_letterOf_38 ?_
      refine lv_topi (fun x5 ex5 => ?_)
      have fx5 : x5.toInt = x4.toInt - p1.toInt := by rw [ex5]; exact t_sub (by show (-2147483648 : Int) ≤ x4.toInt - p1.toInt; omega) (by show x4.toInt - p1.toInt ≤ 2147483647; omega)
      refine lv_iconst (v := 5) hx hb dX11_letterOf_39 (by decide) ?_
      refine lv_imul hx hb dX11_letterOf_40 ?_
      refine lv_topi (fun x6 ex6 => ?_)
      have fx6 : x6.toInt = x5.toInt * 5 := by rw [ex6]; exact t_mul (by show (-2147483648 : Int) ≤ x5.toInt * 5; omega) (by show x5.toInt * 5 ≤ 2147483647; omega)
      refine lv_istore_n (lv' := [(3, .int x6), (0, .int p0), (1, .int p1), (2, .int a2_24)]) hx hb dX11_letterOf_41 rfl hl (by decide) rfl (fun ls hl => ?_)
      refine lv_iload_n hx hb dX11_letterOf_42 rfl (lv_at hl 1 rfl) ?_
      refine lv_iload_n hx hb dX11_letterOf_43 rfl (lv_at hl 0 rfl) ?_
      refine lv_ishr hx hb dX11_letterOf_44 ?_
      refine lv_topi (fun x7 ex7 => ?_)
      refine lv_bipush (v := 31) hx hb dX11_letterOf_45 (by decide) ?_
      refine lv_iand hx hb dX11_letterOf_47 ?_
      refine lv_topi (fun x8 ex8 => ?_)
      have fx8 : (0 : Int) ≤ x8.toInt ∧ x8.toInt ≤ (31 : Int) := by rw [ex8]; exact t_and (b := 31) (by decide)
      refine lv_bipush (v := 96) hx hb dX11_letterOf_48 (by decide) ?_
      refine lv_iadd hx hb dX11_letterOf_50 ?_
      refine lv_topi (fun x9 ex9 => ?_)
      have fx9 : x9.toInt = x8.toInt + 96 := by rw [ex9]; exact t_add (by show (-2147483648 : Int) ≤ x8.toInt + 96; omega) (by show x8.toInt + 96 ≤ 2147483647; omega)
      rw [hQ]
      exact q_i F hr hlk () hP hD hS (show ((-1 : Int) ≤ x9.toInt ∧ x9.toInt ≤ (127 : Int)) from by omega) dX11_letterOf_51 (Nat.le_of_ble_eq_true rfl) (Nat.le_of_ble_eq_true rfl)
    · have gc3 : r1.toInt = 0 := congrArg Int32.toInt c3
      refine lv_iconst (v := (-1)) hx hb dX11_letterOf_32 (by decide) ?_
      rw [hQ]
      exact q_i F hr hlk () hP hD hS (show ((-1 : Int) ≤ (-1) ∧ (-1) ≤ (127 : Int)) from by omega) dX11_letterOf_33 (Nat.le_of_ble_eq_true rfl) (Nat.le_of_ble_eq_true rfl)
  have lab_4 : ∀ (k_4 : Nat) (a2_4 : Int32) (a3_4 : Int32) (H : Heap) (locs : List Loc) (ls : Array Slot), ((6 - a2_4.toInt) < (k_4 : Int)) → ((0 : Int) ≤ a2_4.toInt ∧ a2_4.toInt ≤ (6 : Int)) → va_P G.1 vwCl [] H → va_D A [] → va_S A s.heap H locs → lv_has ls 4 [(0, .int p0), (1, .int p1), (2, .int a2_4), (3, .int a3_4)] → W p l e (rmD 2 0 0) s m [.int p0, .int p1].toArray below meth c H locs 0 0 Q (F0 m 4 ls []) := by
    intro k_4
    induction k_4 with
    | zero =>
      intro a2_4 a3_4 H locs ls hm y0_4 hP hD hS hl
      exact absurd hm (by omega)
    | succ k_4 ih_4 =>
      intro a2_4 a3_4 H locs ls hm y0_4 hP hD hS hl
      refine lv_iload_n hx hb dX11_letterOf_4 rfl (lv_at hl 3 rfl) ?_
      refine lv_if_le (tgt := 24) hx hb dX11_letterOf_5 (by decide) (fun c10 => ?_) (fun c10 => ?_)
      · have gc10 : a3_4.toInt ≤ 0 := (tle _ _).mp c10
        exact lab_24 a2_4 _ _ _ (show ((0 : Int) ≤ a2_4.toInt ∧ a2_4.toInt ≤ (6 : Int)) from by omega) hP hD hS (lv_sub hl [0, 1, 2] rfl)
      · have gc10 : ¬ (a3_4.toInt ≤ 0) := fun q0 => c10 ((tle _ _).mpr q0)
        refine lv_iload_n hx hb dX11_letterOf_8 rfl (lv_at hl 2 rfl) ?_
        refine lv_bipush (v := 6) hx hb dX11_letterOf_9 (by decide) ?_
        refine lv_icmp_ge (tgt := 24) hx hb dX11_letterOf_11 (by decide) (fun c11 => ?_) (fun c11 => ?_)
        · have gc11 : 6 ≤ a2_4.toInt := (tle _ _).mp c11
          exact lab_24 a2_4 _ _ _ (show ((0 : Int) ≤ a2_4.toInt ∧ a2_4.toInt ≤ (6 : Int)) from by omega) hP hD hS (lv_sub hl [0, 1, 2] rfl)
        · have gc11 : ¬ (6 ≤ a2_4.toInt) := fun q0 => c11 ((tle _ _).mpr q0)
          obtain ⟨x12, ex12⟩ : ∃ y : Int32, y = a2_4 + 1 := ⟨_, rfl⟩
          have fx12 : x12.toInt = a2_4.toInt + (1 : Int) := by rw [ex12]; exact t_add (by show (-2147483648 : Int) ≤ a2_4.toInt + (1 : Int); omega) (by show a2_4.toInt + (1 : Int) ≤ 2147483647; omega)
          refine lv_iinc (v := x12) (lv' := [(2, .int x12), (0, .int p0), (1, .int p1), (3, .int a3_4)]) hx hb dX11_letterOf_14 hl (k := 2) rfl (by rw [ex12]; rfl) (by decide) rfl (fun ls hl => ?_)
          refine lv_iload_n hx hb dX11_letterOf_17 rfl (lv_at hl 3 rfl) ?_
          refine lv_iconst (v := 5) hx hb dX11_letterOf_18 (by decide) ?_
          refine lv_ishr hx hb dX11_letterOf_19 ?_
          refine lv_topi (fun x13 ex13 => ?_)
          refine lv_istore_n (lv' := [(3, .int x13), (2, .int x12), (0, .int p0), (1, .int p1)]) hx hb dX11_letterOf_20 rfl hl (by decide) rfl (fun ls hl => ?_)
          refine lv_goto (tgt := 4) hx hb dX11_letterOf_21 (by decide) ?_
          exact ih_4 x12 x13 _ _ _ (show (6 - x12.toInt) < (k_4 : Int) from by omega) (show ((0 : Int) ≤ x12.toInt ∧ x12.toInt ≤ (6 : Int)) from by omega) hP hD hS (lv_sub hl [2, 3, 1, 0] rfl)
  refine lv_iconst (v := 0) hx hb dX11_letterOf_0 (by decide) ?_
  refine lv_istore_n (lv' := [(2, .int 0), (0, .int p0), (1, .int p1)]) hx hb dX11_letterOf_1 rfl hl (by decide) rfl (fun ls hl => ?_)
  refine lv_iload_n hx hb dX11_letterOf_2 rfl (lv_at hl 1 rfl) ?_
  refine lv_istore_n (lv' := [(3, .int p0), (2, .int 0), (0, .int p0), (1, .int p1)]) hx hb dX11_letterOf_3 rfl hl (by decide) rfl (fun ls hl => ?_)
  exact lab_4 7 0 p0 _ _ _ (show (6 - 0) < ((7 : Nat) : Int) from by omega) (by decide) hP hD hS (lv_sub hl [2, 3, 1, 0] rfl)
set_option maxHeartbeats 4000000 in
set_option maxRecDepth 100000 in
theorem s_X11_letter (l : Launch) (G : Gx) (g q : Nat → Nat) (I0 : Nat → Int32) (J0 : Nat → Int64) (R0 : Nat → Nat → Int32) (L0 : Nat → Nat → Int64) (hvI : InvI Wd_lo Wd_hi I0) (hvR : InvR Wd_rl R0) (hq3 : q 3 = (g 11)) (p1 : Int32) (p2 : Int32) (p3 : Int32)  : CtI (S := Unit) l yX11_letter cX11_letter 5 (some .int) (rmD 3 0 0) G [.ref (g 74), .int p1, .int p2, .int p3] (Wd G g q I0 J0 R0 L0) (fun r _ => ((-1 : Int) ≤ r.toInt ∧ r.toInt ≤ (127 : Int))) (fun _ => (Wd G g q I0 J0 R0 L0)) := by
  refine ctI_of (own := RX11) (by decide +kernel) rfl (Nat.le_of_ble_eq_true rfl) ?_
  intro p e s m below meth c A ls F hr hlk hnm hK hP hD hA hS hl
  have hx := F.1
  have hb := F.2.1
  have hown := F.2.2.2.1
  have hl : lv_has ls 5 [(0, .ref (g 74)), (1, .int p1), (2, .int p2), (3, .int p3)] := hl
  obtain ⟨Q, hQ⟩ : ∃ Q : State → Prop, Q = MQ below (va_Qi (S := Unit) (fun r _ => ((-1 : Int) ≤ r.toInt ∧ r.toInt ≤ (127 : Int))) (BX G A (fun _ => (Wd G g q I0 J0 R0 L0))) A) [.ref (g 74), .int p1, .int p2, .int p3].toArray s 0 0 A := ⟨_, rfl⟩
  rw [show (MQ below (va_Qi (S := Unit) (fun r _ => ((-1 : Int) ≤ r.toInt ∧ r.toInt ≤ (127 : Int))) (BX G A (fun _ => (Wd G g q I0 J0 R0 L0))) A) [.ref (g 74), .int p1, .int p2, .int p3].toArray s (rmD 3 0 0).cells (rmD 3 0 0).slots A) = Q from hQ.symm]
  refine lv_aload_n hx hb dX11_letter_0 rfl (lv_at hl 0 rfl) ?_
  refine g_get F hK hP 66 (Wd_at66 G g q I0 J0 R0 L0) clX11 4 (by decide) flX11_43 rfl dX11_letter_1 ?_
  refine g_get F hK hP 70 (Wd_at70 G g q I0 J0 R0 L0) clX4 0 (by decide) flX11_121 rfl dX11_letter_4 ?_
  refine cst_r hq3 ?_
  refine lv_astore (lv' := [(4, .ref (g 11)), (0, .ref (g 74)), (1, .int p1), (2, .int p2), (3, .int p3)]) hx hb dX11_letter_7 hl (by decide) rfl (fun ls hl => ?_)
  refine lv_iload_n hx hb dX11_letter_9 rfl (lv_at hl 2 rfl) ?_
  by_cases h1 : p1 = 0
  · have gh1 : p1.toInt = 0 := congrArg Int32.toInt h1
    refine cst_i h1 ?_
    refine lv_tableIn (off := 26) (tgt := 36) hx hb dX11_letter_10 (by decide) (by decide) rfl (by decide) ?_
    refine lv_iload_n hx hb dX11_letter_36 rfl (lv_at hl 3 rfl) ?_
    refine lv_aload hx hb dX11_letter_37 (lv_at hl 0 rfl) ?_
    refine g_get F hK hP 0 (Wd_at0 G g q I0 J0 R0 L0) clX2 0 (by decide) flX11_129 rfl dX11_letter_39 ?_
    refine g_get F hK hP 1 (Wd_at1 G g q I0 J0 R0 L0) clX1 0 (by decide) flX11_133 rfl dX11_letter_42 ?_
    have w_I0_3 := rg (hvI 3 (by decide)) (0) (5) rfl rfl
    refine w0i (As := [.int p2, .int (I0 3)]) (rest := []) (d := 1) F hK hP hD hS hA (s_X11_isBelow l G  p2 ((I0 3)) (show ((0 : Int) ≤ (I0 3).toInt ∧ (I0 3).toInt ≤ (30 : Int)) from by omega)) kmS_X11_isBelow mlX11_169 ⟨(Nat.le_of_ble_eq_true rfl), (Nat.le_of_ble_eq_true rfl)⟩ hl.1 rfl (Nat.le_of_ble_eq_true rfl) dX11_letter_45 (fun r2 u3 H locs hwr2 hP hD hS => ?_)
    obtain ⟨F0r2, F1r2⟩ := hwr2
    replace F0r2 : ((0 : Int) ≤ r2.toInt ∧ r2.toInt ≤ (1 : Int)) := F0r2
    replace F1r2 : (r2.toInt = 1 → (0 ≤ p2.toInt ∧ p2.toInt < (I0 3).toInt)) := F1r2
    refine lv_if_eq (tgt := 68) hx hb dX11_letter_48 (by decide) (fun c4 => ?_) (fun c4 => ?_)
    · have gc4 : r2.toInt = 0 := congrArg Int32.toInt c4
      refine lv_iconst (v := (-1)) hx hb dX11_letter_68 (by decide) ?_
      rw [hQ]
      exact q_i F hr hlk () hP hD hS (show ((-1 : Int) ≤ (-1) ∧ (-1) ≤ (127 : Int)) from by omega) dX11_letter_69 (Nat.le_of_ble_eq_true rfl) (Nat.le_of_ble_eq_true rfl)
    · have gc4 : ¬ (r2.toInt = 0) := fun q0 => c4 (Int32.toInt_inj.mp q0)
      refine lv_aload hx hb dX11_letter_51 (lv_at hl 0 rfl) ?_
      refine g_get F hK hP 0 (Wd_at0 G g q I0 J0 R0 L0) clX2 0 (by decide) flX11_129 rfl dX11_letter_53 ?_
      refine g_get F hK hP 1 (Wd_at1 G g q I0 J0 R0 L0) clX1 3 (by decide) flX11_173 rfl dX11_letter_56 ?_
      refine lv_iload_n hx hb dX11_letter_59 rfl (lv_at hl 3 rfl) ?_
      refine g_iald F hK hP 4 (Wd_at4 G g q I0 J0 R0 L0) (in_of (by omega)) dX11_letter_60 rfl ?_
      refine lv_topi (fun x5 ex5 => ?_)
      have gx5 : x5.toInt = (R0 0 (Int32.toNatClampNeg p2)).toInt := congrArg Int32.toInt (ex5)
      refine lv_iload_n hx hb dX11_letter_61 rfl (lv_at hl 4 rfl) ?_
      refine w0i (As := [.int x5, .int p3]) (rest := []) (d := 2) F hK hP hD hS hA (s_X11_letterOf l G  x5 p3 ) kmS_X11_letterOf mlX11_176 ⟨(Nat.le_of_ble_eq_true rfl), (Nat.le_of_ble_eq_true rfl)⟩ hl.1 rfl (Nat.le_of_ble_eq_true rfl) dX11_letter_62 (fun r6 u7 H locs hwr6 hP hD hS => ?_)
      have F0r6 := hwr6
      replace F0r6 : ((-1 : Int) ≤ r6.toInt ∧ r6.toInt ≤ (127 : Int)) := F0r6
      refine lv_goto (tgt := 69) hx hb dX11_letter_65 (by decide) ?_
      rw [hQ]
      exact q_i F hr hlk () hP hD hS (show ((-1 : Int) ≤ r6.toInt ∧ r6.toInt ≤ (127 : Int)) from by omega) dX11_letter_69 (Nat.le_of_ble_eq_true rfl) (Nat.le_of_ble_eq_true rfl)
  by_cases h8 : p1 = 1
  · have gh8 : p1.toInt = 1 := congrArg Int32.toInt h8
    refine cst_i h8 ?_
    refine lv_tableIn (off := 60) (tgt := 70) hx hb dX11_letter_10 (by decide) (by decide) rfl (by decide) ?_
    refine lv_iload_n hx hb dX11_letter_70 rfl (lv_at hl 3 rfl) ?_
    refine lv_aload hx hb dX11_letter_71 (lv_at hl 0 rfl) ?_
    refine g_get F hK hP 0 (Wd_at0 G g q I0 J0 R0 L0) clX2 3 (by decide) flX11_136 rfl dX11_letter_73 ?_
    have w_I0_0 := rg (hvI 0 (by decide)) (0) (6) rfl rfl
    refine w0i (As := [.int p2, .int (I0 0)]) (rest := []) (d := 1) F hK hP hD hS hA (s_X11_isBelow l G  p2 ((I0 0)) (show ((0 : Int) ≤ (I0 0).toInt ∧ (I0 0).toInt ≤ (30 : Int)) from by omega)) kmS_X11_isBelow mlX11_169 ⟨(Nat.le_of_ble_eq_true rfl), (Nat.le_of_ble_eq_true rfl)⟩ hl.1 rfl (Nat.le_of_ble_eq_true rfl) dX11_letter_76 (fun r9 u10 H locs hwr9 hP hD hS => ?_)
    obtain ⟨F0r9, F1r9⟩ := hwr9
    replace F0r9 : ((0 : Int) ≤ r9.toInt ∧ r9.toInt ≤ (1 : Int)) := F0r9
    replace F1r9 : (r9.toInt = 1 → (0 ≤ p2.toInt ∧ p2.toInt < (I0 0).toInt)) := F1r9
    refine lv_if_eq (tgt := 96) hx hb dX11_letter_79 (by decide) (fun c11 => ?_) (fun c11 => ?_)
    · have gc11 : r9.toInt = 0 := congrArg Int32.toInt c11
      refine lv_iconst (v := (-1)) hx hb dX11_letter_96 (by decide) ?_
      rw [hQ]
      exact q_i F hr hlk () hP hD hS (show ((-1 : Int) ≤ (-1) ∧ (-1) ≤ (127 : Int)) from by omega) dX11_letter_97 (Nat.le_of_ble_eq_true rfl) (Nat.le_of_ble_eq_true rfl)
    · have gc11 : ¬ (r9.toInt = 0) := fun q0 => c11 (Int32.toInt_inj.mp q0)
      refine lv_aload hx hb dX11_letter_82 (lv_at hl 0 rfl) ?_
      refine g_get F hK hP 0 (Wd_at0 G g q I0 J0 R0 L0) clX2 4 (by decide) flX11_180 rfl dX11_letter_84 ?_
      refine lv_iload_n hx hb dX11_letter_87 rfl (lv_at hl 3 rfl) ?_
      refine g_iald F hK hP 25 (Wd_at25 G g q I0 J0 R0 L0) (in_of (by omega)) dX11_letter_88 rfl ?_
      refine lv_topi (fun x12 ex12 => ?_)
      have gx12 : x12.toInt = (R0 21 (Int32.toNatClampNeg p2)).toInt := congrArg Int32.toInt (ex12)
      refine lv_iload_n hx hb dX11_letter_89 rfl (lv_at hl 4 rfl) ?_
      refine w0i (As := [.int x12, .int p3]) (rest := []) (d := 2) F hK hP hD hS hA (s_X11_letterOf l G  x12 p3 ) kmS_X11_letterOf mlX11_176 ⟨(Nat.le_of_ble_eq_true rfl), (Nat.le_of_ble_eq_true rfl)⟩ hl.1 rfl (Nat.le_of_ble_eq_true rfl) dX11_letter_90 (fun r13 u14 H locs hwr13 hP hD hS => ?_)
      have F0r13 := hwr13
      replace F0r13 : ((-1 : Int) ≤ r13.toInt ∧ r13.toInt ≤ (127 : Int)) := F0r13
      refine lv_goto (tgt := 97) hx hb dX11_letter_93 (by decide) ?_
      rw [hQ]
      exact q_i F hr hlk () hP hD hS (show ((-1 : Int) ≤ r13.toInt ∧ r13.toInt ≤ (127 : Int)) from by omega) dX11_letter_97 (Nat.le_of_ble_eq_true rfl) (Nat.le_of_ble_eq_true rfl)
  by_cases h15 : p1 = 2
  · have gh15 : p1.toInt = 2 := congrArg Int32.toInt h15
    refine cst_i h15 ?_
    refine lv_tableIn (off := 88) (tgt := 98) hx hb dX11_letter_10 (by decide) (by decide) rfl (by decide) ?_
    refine lv_iload_n hx hb dX11_letter_98 rfl (lv_at hl 3 rfl) ?_
    refine lv_aload hx hb dX11_letter_99 (lv_at hl 0 rfl) ?_
    refine g_get F hK hP 0 (Wd_at0 G g q I0 J0 R0 L0) clX2 1 (by decide) flX11_139 rfl dX11_letter_101 ?_
    refine g_get F hK hP 2 (Wd_at2 G g q I0 J0 R0 L0) clX3 0 (by decide) flX11_143 rfl dX11_letter_104 ?_
    have w_I0_6 := rg (hvI 6 (by decide)) (0) (12) rfl rfl
    refine w0i (As := [.int p2, .int (I0 6)]) (rest := []) (d := 1) F hK hP hD hS hA (s_X11_isBelow l G  p2 ((I0 6)) (show ((0 : Int) ≤ (I0 6).toInt ∧ (I0 6).toInt ≤ (30 : Int)) from by omega)) kmS_X11_isBelow mlX11_169 ⟨(Nat.le_of_ble_eq_true rfl), (Nat.le_of_ble_eq_true rfl)⟩ hl.1 rfl (Nat.le_of_ble_eq_true rfl) dX11_letter_107 (fun r16 u17 H locs hwr16 hP hD hS => ?_)
    obtain ⟨F0r16, F1r16⟩ := hwr16
    replace F0r16 : ((0 : Int) ≤ r16.toInt ∧ r16.toInt ≤ (1 : Int)) := F0r16
    replace F1r16 : (r16.toInt = 1 → (0 ≤ p2.toInt ∧ p2.toInt < (I0 6).toInt)) := F1r16
    refine lv_if_eq (tgt := 130) hx hb dX11_letter_110 (by decide) (fun c18 => ?_) (fun c18 => ?_)
    · have gc18 : r16.toInt = 0 := congrArg Int32.toInt c18
      refine lv_iconst (v := (-1)) hx hb dX11_letter_130 (by decide) ?_
      rw [hQ]
      exact q_i F hr hlk () hP hD hS (show ((-1 : Int) ≤ (-1) ∧ (-1) ≤ (127 : Int)) from by omega) dX11_letter_131 (Nat.le_of_ble_eq_true rfl) (Nat.le_of_ble_eq_true rfl)
    · have gc18 : ¬ (r16.toInt = 0) := fun q0 => c18 (Int32.toInt_inj.mp q0)
      refine lv_aload hx hb dX11_letter_113 (lv_at hl 0 rfl) ?_
      refine g_get F hK hP 0 (Wd_at0 G g q I0 J0 R0 L0) clX2 1 (by decide) flX11_139 rfl dX11_letter_115 ?_
      refine g_get F hK hP 2 (Wd_at2 G g q I0 J0 R0 L0) clX3 1 (by decide) flX11_183 rfl dX11_letter_118 ?_
      refine lv_iload_n hx hb dX11_letter_121 rfl (lv_at hl 3 rfl) ?_
      refine g_iald F hK hP 9 (Wd_at9 G g q I0 J0 R0 L0) (in_of (by omega)) dX11_letter_122 rfl ?_
      refine lv_topi (fun x19 ex19 => ?_)
      have gx19 : x19.toInt = (R0 5 (Int32.toNatClampNeg p2)).toInt := congrArg Int32.toInt (ex19)
      refine lv_iload_n hx hb dX11_letter_123 rfl (lv_at hl 4 rfl) ?_
      refine w0i (As := [.int x19, .int p3]) (rest := []) (d := 2) F hK hP hD hS hA (s_X11_letterOf l G  x19 p3 ) kmS_X11_letterOf mlX11_176 ⟨(Nat.le_of_ble_eq_true rfl), (Nat.le_of_ble_eq_true rfl)⟩ hl.1 rfl (Nat.le_of_ble_eq_true rfl) dX11_letter_124 (fun r20 u21 H locs hwr20 hP hD hS => ?_)
      have F0r20 := hwr20
      replace F0r20 : ((-1 : Int) ≤ r20.toInt ∧ r20.toInt ≤ (127 : Int)) := F0r20
      refine lv_goto (tgt := 131) hx hb dX11_letter_127 (by decide) ?_
      rw [hQ]
      exact q_i F hr hlk () hP hD hS (show ((-1 : Int) ≤ r20.toInt ∧ r20.toInt ≤ (127 : Int)) from by omega) dX11_letter_131 (Nat.le_of_ble_eq_true rfl) (Nat.le_of_ble_eq_true rfl)
  refine lv_tableOut (tgt := 132) hx hb dX11_letter_10 (by have gh1 := lv_neT h1 (a := 0) rfl; have gh8 := lv_neT h8 (a := 1) rfl; have gh15 := lv_neT h15 (a := 2) rfl; omega) (by decide) ?_
  refine lv_iconst (v := (-1)) hx hb dX11_letter_132 (by decide) ?_
  rw [hQ]
  exact q_i F hr hlk () hP hD hS (show ((-1 : Int) ≤ (-1) ∧ (-1) ≤ (127 : Int)) from by omega) dX11_letter_133 (Nat.le_of_ble_eq_true rfl) (Nat.le_of_ble_eq_true rfl)
set_option maxHeartbeats 4000000 in
set_option maxRecDepth 100000 in
theorem s_X11_met (l : Launch) (G : Gx) (g q : Nat → Nat) (I0 : Nat → Int32) (J0 : Nat → Int64) (R0 : Nat → Nat → Int32) (L0 : Nat → Nat → Int64) (hvI : InvI Wd_lo Wd_hi I0) (hvR : InvR Wd_rl R0) (hq3 : q 3 = (g 11)) (p1 : Int32)  : CtI (S := Unit) l yX11_met cX11_met 2 (some .int) (rmD 3 0 0) G [.ref (g 74), .int p1] (Wd G g q I0 J0 R0 L0) (fun r _ => ((-1 : Int) ≤ r.toInt ∧ r.toInt ≤ (63 : Int))) (fun _ => (Wd G g q I0 J0 R0 L0)) := by
  refine ctI_of (own := RX11) (by decide +kernel) rfl (Nat.le_of_ble_eq_true rfl) ?_
  intro p e s m below meth c A ls F hr hlk hnm hK hP hD hA hS hl
  have hx := F.1
  have hb := F.2.1
  have hown := F.2.2.2.1
  have hl : lv_has ls 2 [(0, .ref (g 74)), (1, .int p1)] := hl
  obtain ⟨Q, hQ⟩ : ∃ Q : State → Prop, Q = MQ below (va_Qi (S := Unit) (fun r _ => ((-1 : Int) ≤ r.toInt ∧ r.toInt ≤ (63 : Int))) (BX G A (fun _ => (Wd G g q I0 J0 R0 L0))) A) [.ref (g 74), .int p1].toArray s 0 0 A := ⟨_, rfl⟩
  rw [show (MQ below (va_Qi (S := Unit) (fun r _ => ((-1 : Int) ≤ r.toInt ∧ r.toInt ≤ (63 : Int))) (BX G A (fun _ => (Wd G g q I0 J0 R0 L0))) A) [.ref (g 74), .int p1].toArray s (rmD 3 0 0).cells (rmD 3 0 0).slots A) = Q from hQ.symm]
  refine lv_iload_n hx hb dX11_met_0 rfl (lv_at hl 1 rfl) ?_
  refine lv_aload_n hx hb dX11_met_1 rfl (lv_at hl 0 rfl) ?_
  refine g_get F hK hP 66 (Wd_at66 G g q I0 J0 R0 L0) clX11 4 (by decide) flX11_43 rfl dX11_met_2 ?_
  refine g_get F hK hP 70 (Wd_at70 G g q I0 J0 R0 L0) clX4 0 (by decide) flX11_121 rfl dX11_met_5 ?_
  refine cst_r hq3 ?_
  refine g_get F hK hP 0 (Wd_at0 G g q I0 J0 R0 L0) clX2 7 (by decide) flX11_146 rfl dX11_met_8 ?_
  have w_I0_1 := rg (hvI 1 (by decide)) (0) (30) rfl rfl
  refine w0i (As := [.int p1, .int (I0 1)]) (rest := []) (d := 1) F hK hP hD hS hA (s_X11_isBelow l G  p1 ((I0 1)) (show ((0 : Int) ≤ (I0 1).toInt ∧ (I0 1).toInt ≤ (30 : Int)) from by omega)) kmS_X11_isBelow mlX11_169 ⟨(Nat.le_of_ble_eq_true rfl), (Nat.le_of_ble_eq_true rfl)⟩ hl.1 rfl (Nat.le_of_ble_eq_true rfl) dX11_met_11 (fun r1 u2 H locs hwr1 hP hD hS => ?_)
  obtain ⟨F0r1, F1r1⟩ := hwr1
  replace F0r1 : ((0 : Int) ≤ r1.toInt ∧ r1.toInt ≤ (1 : Int)) := F0r1
  replace F1r1 : (r1.toInt = 1 → (0 ≤ p1.toInt ∧ p1.toInt < (I0 1).toInt)) := F1r1
  refine lv_if_eq (tgt := 28) hx hb dX11_met_14 (by decide) (fun c3 => ?_) (fun c3 => ?_)
  · have gc3 : r1.toInt = 0 := congrArg Int32.toInt c3
    refine lv_iconst (v := (-1)) hx hb dX11_met_28 (by decide) ?_
    rw [hQ]
    exact q_i F hr hlk () hP hD hS (show ((-1 : Int) ≤ (-1) ∧ (-1) ≤ (63 : Int)) from by omega) dX11_met_29 (Nat.le_of_ble_eq_true rfl) (Nat.le_of_ble_eq_true rfl)
  · have gc3 : ¬ (r1.toInt = 0) := fun q0 => c3 (Int32.toInt_inj.mp q0)
    refine lv_aload_n hx hb dX11_met_17 rfl (lv_at hl 0 rfl) ?_
    refine g_get F hK hP 66 (Wd_at66 G g q I0 J0 R0 L0) clX11 4 (by decide) flX11_43 rfl dX11_met_18 ?_
    refine lv_iload_n hx hb dX11_met_21 rfl (lv_at hl 1 rfl) ?_
    refine wvi (As := [.int p1]) (rest := []) (b := (g 68)) (d := 2) F hK hP hD hS hA (s_X4_metDays l G g q I0 J0 R0 L0 hvI hvR hq3 p1 (show ((0 : Int) ≤ p1.toInt ∧ p1.toInt ≤ (29 : Int)) from by omega)) kmV_X4_metDays mlX11_242 clX4 rfl 70 (Wd_at70 G g q I0 J0 R0 L0) ⟨(Nat.le_of_ble_eq_true rfl), (Nat.le_of_ble_eq_true rfl)⟩ hl.1 rfl (Nat.le_of_ble_eq_true rfl) dX11_met_22 (fun r4 u5 H locs hwr4 hP hD hS => ?_)
    have F0r4 := hwr4
    replace F0r4 : ((0 : Int) ≤ r4.toInt ∧ r4.toInt ≤ (63 : Int)) := F0r4
    refine lv_goto (tgt := 29) hx hb dX11_met_25 (by decide) ?_
    rw [hQ]
    exact q_i F hr hlk () hP hD hS (show ((-1 : Int) ≤ r4.toInt ∧ r4.toInt ≤ (63 : Int)) from by omega) dX11_met_29 (Nat.le_of_ble_eq_true rfl) (Nat.le_of_ble_eq_true rfl)
set_option maxHeartbeats 4000000 in
set_option maxRecDepth 100000 in
theorem s_X4_turnedSet (l : Launch) (G : Gx) (g q : Nat → Nat) (I0 : Nat → Int32) (J0 : Nat → Int64) (R0 : Nat → Nat → Int32) (L0 : Nat → Nat → Int64) (hvI : InvI Wd_lo Wd_hi I0) (hvR : InvR Wd_rl R0) (hq3 : q 3 = (g 11)) (p1 : Int32) (p2 : Int32) (hp1 : ((0 : Int) ≤ p1.toInt ∧ p1.toInt ≤ (11 : Int))) (hp2 : ((0 : Int) ≤ p2.toInt ∧ p2.toInt ≤ (8 : Int))) : CtI (S := Unit) l yX4_turnedSet cX4_turnedSet 4 (some .int) (rmD 1 0 0) G [.ref (g 68), .int p1, .int p2] (Wd G g q I0 J0 R0 L0) (fun r _ => ((0 : Int) ≤ r.toInt ∧ r.toInt ≤ (31 : Int))) (fun _ => (Wd G g q I0 J0 R0 L0)) := by
  refine ctI_of (own := RX4) (by decide +kernel) rfl (Nat.le_of_ble_eq_true rfl) ?_
  intro p e s m below meth c A ls F hr hlk hnm hK hP hD hA hS hl
  have hx := F.1
  have hb := F.2.1
  have hown := F.2.2.2.1
  have hl : lv_has ls 4 [(0, .ref (g 68)), (1, .int p1), (2, .int p2)] := hl
  obtain ⟨Q, hQ⟩ : ∃ Q : State → Prop, Q = MQ below (va_Qi (S := Unit) (fun r _ => ((0 : Int) ≤ r.toInt ∧ r.toInt ≤ (31 : Int))) (BX G A (fun _ => (Wd G g q I0 J0 R0 L0))) A) [.ref (g 68), .int p1, .int p2].toArray s 0 0 A := ⟨_, rfl⟩
  rw [show (MQ below (va_Qi (S := Unit) (fun r _ => ((0 : Int) ≤ r.toInt ∧ r.toInt ≤ (31 : Int))) (BX G A (fun _ => (Wd G g q I0 J0 R0 L0))) A) [.ref (g 68), .int p1, .int p2].toArray s (rmD 1 0 0).cells (rmD 1 0 0).slots A) = Q from hQ.symm]
  refine lv_iload_n hx hb dX4_turnedSet_0 rfl (lv_at hl 2 rfl) ?_
  refine lv_aload_n hx hb dX4_turnedSet_1 rfl (lv_at hl 0 rfl) ?_
  refine g_get F hK hP 70 (Wd_at70 G g q I0 J0 R0 L0) clX4 0 (by decide) flX4_28 rfl dX4_turnedSet_2 ?_
  refine cst_r hq3 ?_
  refine g_get F hK hP 0 (Wd_at0 G g q I0 J0 R0 L0) clX2 1 (by decide) flX4_39 rfl dX4_turnedSet_5 ?_
  refine g_get F hK hP 2 (Wd_at2 G g q I0 J0 R0 L0) clX3 7 (by decide) flX4_191 rfl dX4_turnedSet_8 ?_
  refine lv_iload_n hx hb dX4_turnedSet_11 rfl (lv_at hl 1 rfl) ?_
  refine g_iald F hK hP 15 (Wd_at15 G g q I0 J0 R0 L0) (in_of (by omega)) dX4_turnedSet_12 rfl ?_
  refine lv_topi (fun x1 ex1 => ?_)
  have gx1 : x1.toInt = (R0 11 (Int32.toNatClampNeg p1)).toInt := congrArg Int32.toInt (ex1)
  refine lv_imul hx hb dX4_turnedSet_13 ?_
  refine lv_topi (fun x2 ex2 => ?_)
  refine lv_iconst (v := 5) hx hb dX4_turnedSet_14 (by decide) ?_
  refine lv_irem hx hb dX4_turnedSet_15 (by decide) ?_
  refine lv_topi (fun x3 ex3 => ?_)
  refine lv_istore_n (lv' := [(3, .int x3), (0, .ref (g 68)), (1, .int p1), (2, .int p2)]) hx hb dX4_turnedSet_16 rfl hl (by decide) rfl (fun ls hl => ?_)
  refine lv_aload_n hx hb dX4_turnedSet_17 rfl (lv_at hl 1 rfl) ?_
  refine g_get F hK hP 70 (Wd_at70 G g q I0 J0 R0 L0) clX4 1 (by decide) flX4_9 rfl dX4_turnedSet_18 ?_
  refine lv_iload_n hx hb dX4_turnedSet_21 rfl (lv_at hl 2 rfl) ?_
  refine g_iald F hK hP 78 (Wd_at78 G g q I0 J0 R0 L0) (in_of (by omega)) dX4_turnedSet_22 rfl ?_
  refine lv_topi (fun x4 ex4 => ?_)
  have gx4 : x4.toInt = (R0 62 (Int32.toNatClampNeg p1)).toInt := congrArg Int32.toInt (ex4)
  refine lv_iload_n hx hb dX4_turnedSet_23 rfl (lv_at hl 0 rfl) ?_
  refine lv_ishl hx hb dX4_turnedSet_24 ?_
  refine lv_topi (fun x5 ex5 => ?_)
  refine lv_aload_n hx hb dX4_turnedSet_25 rfl (lv_at hl 1 rfl) ?_
  refine g_get F hK hP 70 (Wd_at70 G g q I0 J0 R0 L0) clX4 1 (by decide) flX4_9 rfl dX4_turnedSet_26 ?_
  refine lv_iload_n hx hb dX4_turnedSet_29 rfl (lv_at hl 2 rfl) ?_
  refine g_iald F hK hP 78 (Wd_at78 G g q I0 J0 R0 L0) (in_of (by omega)) dX4_turnedSet_30 rfl ?_
  refine lv_topi (fun x6 ex6 => ?_)
  have gx6 : x6.toInt = (R0 62 (Int32.toNatClampNeg p1)).toInt := congrArg Int32.toInt (ex6)
  refine lv_iconst (v := 5) hx hb dX4_turnedSet_31 (by decide) ?_
  refine lv_iload_n hx hb dX4_turnedSet_32 rfl (lv_at hl 0 rfl) ?_
  refine lv_isub hx hb dX4_turnedSet_33 ?_
  refine lv_topi (fun x7 ex7 => ?_)
  refine lv_ishr hx hb dX4_turnedSet_34 ?_
  refine lv_topi (fun x8 ex8 => ?_)
  refine lv_ior hx hb dX4_turnedSet_35 ?_
  refine lv_topi (fun x9 ex9 => ?_)
  refine lv_bipush (v := 31) hx hb dX4_turnedSet_36 (by decide) ?_
  refine lv_iand hx hb dX4_turnedSet_38 ?_
  refine lv_topi (fun x10 ex10 => ?_)
  have fx10 : (0 : Int) ≤ x10.toInt ∧ x10.toInt ≤ (31 : Int) := by rw [ex10]; exact t_and (b := 31) (by decide)
  rw [hQ]
  exact q_i F hr hlk () hP hD hS (show ((0 : Int) ≤ x10.toInt ∧ x10.toInt ≤ (31 : Int)) from by omega) dX4_turnedSet_39 (Nat.le_of_ble_eq_true rfl) (Nat.le_of_ble_eq_true rfl)
set_option maxHeartbeats 4000000 in
set_option maxRecDepth 100000 in
theorem s_X4_unmetWithin (l : Launch) (G : Gx) (g q : Nat → Nat) (I0 : Nat → Int32) (J0 : Nat → Int64) (R0 : Nat → Nat → Int32) (L0 : Nat → Nat → Int64) (hvI : InvI Wd_lo Wd_hi I0) (hvR : InvR Wd_rl R0) (hq3 : q 3 = (g 11)) (p1 : Int32) (hp1 : ((1 : Int) ≤ p1.toInt ∧ p1.toInt ≤ (9 : Int))) : CtI (S := Unit) l yX4_unmetWithin cX4_unmetWithin 6 (some .int) (rmD 2 0 0) G [.ref (g 68), .int p1] (Wd G g q I0 J0 R0 L0) (fun r _ => True) (fun _ => (Wd G g q I0 J0 R0 L0)) := by
  refine ctI_of (own := RX4) (by decide +kernel) rfl (Nat.le_of_ble_eq_true rfl) ?_
  intro p e s m below meth c A ls F hr hlk hnm hK hP hD hA hS hl
  have hx := F.1
  have hb := F.2.1
  have hown := F.2.2.2.1
  have hl : lv_has ls 6 [(0, .ref (g 68)), (1, .int p1)] := hl
  obtain ⟨Q, hQ⟩ : ∃ Q : State → Prop, Q = MQ below (va_Qi (S := Unit) (fun r _ => True) (BX G A (fun _ => (Wd G g q I0 J0 R0 L0))) A) [.ref (g 68), .int p1].toArray s 0 0 A := ⟨_, rfl⟩
  rw [show (MQ below (va_Qi (S := Unit) (fun r _ => True) (BX G A (fun _ => (Wd G g q I0 J0 R0 L0))) A) [.ref (g 68), .int p1].toArray s (rmD 2 0 0).cells (rmD 2 0 0).slots A) = Q from hQ.symm]
  have lab_4 : ∀ (k_4 : Nat) (a2_4 : Int32) (a3_4 : Int32) (H : Heap) (locs : List Loc) (ls : Array Slot), ((30 - a3_4.toInt) < (k_4 : Int)) → ((0 : Int) ≤ a3_4.toInt ∧ a3_4.toInt ≤ (30 : Int)) → va_P G.1 vwCl (Wd G g q I0 J0 R0 L0) H → va_D A (Wd G g q I0 J0 R0 L0) → va_S A s.heap H locs → lv_has ls 6 [(0, .ref (g 68)), (1, .int p1), (2, .int a2_4), (3, .int a3_4)] → W p l e (rmD 2 0 0) s m [.ref (g 68), .int p1].toArray below meth c H locs 0 0 Q (F0 m 4 ls []) := by
    intro k_4
    induction k_4 with
    | zero =>
      intro a2_4 a3_4 H locs ls hm y0_4 hP hD hS hl
      exact absurd hm (by omega)
    | succ k_4 ih_4 =>
      intro a2_4 a3_4 H locs ls hm y0_4 hP hD hS hl
      have lab_87 : ∀ (a2_87 : Int32) (H : Heap) (locs : List Loc) (ls : Array Slot), ((0 : Int) ≤ a3_4.toInt ∧ a3_4.toInt ≤ (29 : Int)) → va_P G.1 vwCl (Wd G g q I0 J0 R0 L0) H → va_D A (Wd G g q I0 J0 R0 L0) → va_S A s.heap H locs → lv_has ls 6 [(0, .ref (g 68)), (1, .int p1), (2, .int a2_87), (3, .int a3_4)] → W p l e (rmD 2 0 0) s m [.ref (g 68), .int p1].toArray below meth c H locs 0 0 Q (F0 m 87 ls []) := by
        intro a2_87 H locs ls y0_87 hP hD hS hl
        obtain ⟨x1, ex1⟩ : ∃ y : Int32, y = a3_4 + 1 := ⟨_, rfl⟩
        have fx1 : x1.toInt = a3_4.toInt + (1 : Int) := by rw [ex1]; exact t_add (by show (-2147483648 : Int) ≤ a3_4.toInt + (1 : Int); omega) (by show a3_4.toInt + (1 : Int) ≤ 2147483647; omega)
        refine lv_iinc (v := x1) (lv' := [(3, .int x1), (0, .ref (g 68)), (1, .int p1), (2, .int a2_87)]) hx hb dX4_unmetWithin_87 hl (k := 3) rfl (by rw [ex1]; rfl) (by decide) rfl (fun ls hl => ?_)
        refine lv_goto (tgt := 4) hx hb dX4_unmetWithin_90 (by decide) ?_
        exact ih_4 a2_87 x1 _ _ _ (show (30 - x1.toInt) < (k_4 : Int) from by omega) (show ((0 : Int) ≤ x1.toInt ∧ x1.toInt ≤ (30 : Int)) from by omega) hP hD hS (lv_sub hl [1, 2, 3, 0] rfl)
      have lab_79 : ∀ (a4_79 : Int32) (H : Heap) (locs : List Loc) (ls : Array Slot), ((0 : Int) ≤ a3_4.toInt ∧ a3_4.toInt ≤ (29 : Int)) → ((0 : Int) ≤ a4_79.toInt ∧ a4_79.toInt ≤ (1 : Int)) → va_P G.1 vwCl (Wd G g q I0 J0 R0 L0) H → va_D A (Wd G g q I0 J0 R0 L0) → va_S A s.heap H locs → lv_has ls 6 [(0, .ref (g 68)), (1, .int p1), (2, .int a2_4), (3, .int a3_4), (4, .int a4_79)] → W p l e (rmD 2 0 0) s m [.ref (g 68), .int p1].toArray below meth c H locs 0 0 Q (F0 m 79 ls []) := by
        intro a4_79 H locs ls y0_79 y1_79 hP hD hS hl
        refine lv_iload hx hb dX4_unmetWithin_79 (lv_at hl 4 rfl) ?_
        refine lv_if_ne (tgt := 87) hx hb dX4_unmetWithin_81 (by decide) (fun c2 => ?_) (fun c2 => ?_)
        · have gc2 : ¬ (a4_79.toInt = 0) := fun q0 => c2 (Int32.toInt_inj.mp q0)
          exact lab_87 a2_4 _ _ _ (show ((0 : Int) ≤ a3_4.toInt ∧ a3_4.toInt ≤ (29 : Int)) from by omega) hP hD hS (lv_sub hl [0, 1, 2, 3] rfl)
        · have gc2 : a4_79.toInt = 0 := congrArg Int32.toInt c2
          obtain ⟨x3, ex3⟩ : ∃ y : Int32, y = a2_4 + 1 := ⟨_, rfl⟩
          refine lv_iinc (v := x3) (lv' := [(2, .int x3), (0, .ref (g 68)), (1, .int p1), (3, .int a3_4), (4, .int a4_79)]) hx hb dX4_unmetWithin_84 hl (k := 2) rfl (by rw [ex3]; rfl) (by decide) rfl (fun ls hl => ?_)
          exact lab_87 x3 _ _ _ (show ((0 : Int) ≤ a3_4.toInt ∧ a3_4.toInt ≤ (29 : Int)) from by omega) hP hD hS (lv_sub hl [1, 2, 0, 3] rfl)
      have lab_21 : ∀ (k_21 : Nat) (a4_21 : Int32) (a5_21 : Int32) (H : Heap) (locs : List Loc) (ls : Array Slot), ((9 - a5_21.toInt) < (k_21 : Int)) → ((0 : Int) ≤ a3_4.toInt ∧ a3_4.toInt ≤ (29 : Int)) → ((0 : Int) ≤ a4_21.toInt ∧ a4_21.toInt ≤ (1 : Int)) → ((0 : Int) ≤ a5_21.toInt ∧ a5_21.toInt ≤ (9 : Int)) → va_P G.1 vwCl (Wd G g q I0 J0 R0 L0) H → va_D A (Wd G g q I0 J0 R0 L0) → va_S A s.heap H locs → lv_has ls 6 [(0, .ref (g 68)), (1, .int p1), (2, .int a2_4), (3, .int a3_4), (4, .int a4_21), (5, .int a5_21)] → W p l e (rmD 2 0 0) s m [.ref (g 68), .int p1].toArray below meth c H locs 0 0 Q (F0 m 21 ls []) := by
        intro k_21
        induction k_21 with
        | zero =>
          intro a4_21 a5_21 H locs ls hm y0_21 y1_21 y2_21 hP hD hS hl
          exact absurd hm (by omega)
        | succ k_21 ih_21 =>
          intro a4_21 a5_21 H locs ls hm y0_21 y1_21 y2_21 hP hD hS hl
          have lab_71 : ∀ (b0_71 : Int32) (H : Heap) (locs : List Loc) (ls : Array Slot), ((0 : Int) ≤ a5_21.toInt ∧ a5_21.toInt ≤ (8 : Int)) → ((0 : Int) ≤ b0_71.toInt ∧ b0_71.toInt ≤ (1 : Int)) → va_P G.1 vwCl (Wd G g q I0 J0 R0 L0) H → va_D A (Wd G g q I0 J0 R0 L0) → va_S A s.heap H locs → lv_has ls 6 [(0, .ref (g 68)), (1, .int p1), (2, .int a2_4), (3, .int a3_4), (5, .int a5_21)] → W p l e (rmD 2 0 0) s m [.ref (g 68), .int p1].toArray below meth c H locs 0 0 Q (F0 m 71 ls [.int b0_71]) := by
            intro b0_71 H locs ls y0_71 y1_71 hP hD hS hl
            refine lv_istore (lv' := [(4, .int b0_71), (0, .ref (g 68)), (1, .int p1), (2, .int a2_4), (3, .int a3_4), (5, .int a5_21)]) hx hb dX4_unmetWithin_71 hl (by decide) rfl (fun ls hl => ?_)
            obtain ⟨x4, ex4⟩ : ∃ y : Int32, y = a5_21 + 1 := ⟨_, rfl⟩
            have fx4 : x4.toInt = a5_21.toInt + (1 : Int) := by rw [ex4]; exact t_add (by show (-2147483648 : Int) ≤ a5_21.toInt + (1 : Int); omega) (by show a5_21.toInt + (1 : Int) ≤ 2147483647; omega)
            refine lv_iinc (v := x4) (lv' := [(5, .int x4), (4, .int b0_71), (0, .ref (g 68)), (1, .int p1), (2, .int a2_4), (3, .int a3_4)]) hx hb dX4_unmetWithin_73 hl (k := 5) rfl (by rw [ex4]; rfl) (by decide) rfl (fun ls hl => ?_)
            refine lv_goto (tgt := 21) hx hb dX4_unmetWithin_76 (by decide) ?_
            exact ih_21 b0_71 x4 _ _ _ (show (9 - x4.toInt) < (k_21 : Int) from by omega) (show ((0 : Int) ≤ a3_4.toInt ∧ a3_4.toInt ≤ (29 : Int)) from by omega) (show ((0 : Int) ≤ b0_71.toInt ∧ b0_71.toInt ≤ (1 : Int)) from by omega) (show ((0 : Int) ≤ x4.toInt ∧ x4.toInt ≤ (9 : Int)) from by omega) hP hD hS (lv_sub hl [2, 3, 4, 5, 1, 0] rfl)
          refine lv_iload hx hb dX4_unmetWithin_21 (lv_at hl 5 rfl) ?_
          refine lv_iload_n hx hb dX4_unmetWithin_23 rfl (lv_at hl 1 rfl) ?_
          refine lv_icmp_ge (tgt := 79) hx hb dX4_unmetWithin_24 (by decide) (fun c5 => ?_) (fun c5 => ?_)
          · have gc5 : p1.toInt ≤ a5_21.toInt := (tle _ _).mp c5
            exact lab_79 a4_21 _ _ _ (show ((0 : Int) ≤ a3_4.toInt ∧ a3_4.toInt ≤ (29 : Int)) from by omega) (show ((0 : Int) ≤ a4_21.toInt ∧ a4_21.toInt ≤ (1 : Int)) from by omega) hP hD hS (lv_sub hl [0, 1, 2, 3, 4] rfl)
          · have gc5 : ¬ (p1.toInt ≤ a5_21.toInt) := fun q0 => c5 ((tle _ _).mpr q0)
            refine lv_iload hx hb dX4_unmetWithin_27 (lv_at hl 4 rfl) ?_
            refine lv_if_ne (tgt := 79) hx hb dX4_unmetWithin_29 (by decide) (fun c6 => ?_) (fun c6 => ?_)
            · have gc6 : ¬ (a4_21.toInt = 0) := fun q0 => c6 (Int32.toInt_inj.mp q0)
              exact lab_79 a4_21 _ _ _ (show ((0 : Int) ≤ a3_4.toInt ∧ a3_4.toInt ≤ (29 : Int)) from by omega) (show ((0 : Int) ≤ a4_21.toInt ∧ a4_21.toInt ≤ (1 : Int)) from by omega) hP hD hS (lv_sub hl [0, 1, 2, 3, 4] rfl)
            · have gc6 : a4_21.toInt = 0 := congrArg Int32.toInt c6
              refine lv_aload_n hx hb dX4_unmetWithin_32 rfl (lv_at hl 0 rfl) ?_
              refine lv_aload_n hx hb dX4_unmetWithin_33 rfl (lv_at hl 0 rfl) ?_
              refine g_get F hK hP 70 (Wd_at70 G g q I0 J0 R0 L0) clX4 0 (by decide) flX4_28 rfl dX4_unmetWithin_34 ?_
              refine cst_r hq3 ?_
              refine g_get F hK hP 0 (Wd_at0 G g q I0 J0 R0 L0) clX2 8 (by decide) flX4_121 rfl dX4_unmetWithin_37 ?_
              refine lv_iload_n hx hb dX4_unmetWithin_40 rfl (lv_at hl 3 rfl) ?_
              refine g_iald F hK hP 28 (Wd_at28 G g q I0 J0 R0 L0) (in_of (by omega)) dX4_unmetWithin_41 rfl ?_
              refine lv_topi (fun x7 ex7 => ?_)
              have gx7 : x7.toInt = (R0 24 (Int32.toNatClampNeg a3_4)).toInt := congrArg Int32.toInt (ex7)
              have fx7 : ((0 : Int) ≤ x7.toInt ∧ x7.toInt ≤ (11 : Int)) := by rw [ex7]; exact hvR 24 (by decide) _ (clamp_lt (n := 30) (in_of (by omega)))
              refine lv_iload hx hb dX4_unmetWithin_42 (lv_at hl 5 rfl) ?_
              refine wvi (As := [.int x7, .int a5_21]) (rest := []) (b := (g 68)) (d := 1) F hK hP hD hS hA (s_X4_turnedSet l G g q I0 J0 R0 L0 hvI hvR hq3 x7 a5_21 (show ((0 : Int) ≤ x7.toInt ∧ x7.toInt ≤ (11 : Int)) from by omega) (show ((0 : Int) ≤ a5_21.toInt ∧ a5_21.toInt ≤ (8 : Int)) from by omega)) kmV_X4_turnedSet mlX4_188 clX4 rfl 70 (Wd_at70 G g q I0 J0 R0 L0) ⟨(Nat.le_of_ble_eq_true rfl), (Nat.le_of_ble_eq_true rfl)⟩ hl.1 rfl (Nat.le_of_ble_eq_true rfl) dX4_unmetWithin_44 (fun r8 u9 H locs hwr8 hP hD hS => ?_)
              have F0r8 := hwr8
              replace F0r8 : ((0 : Int) ≤ r8.toInt ∧ r8.toInt ≤ (31 : Int)) := F0r8
              refine lv_aload_n hx hb dX4_unmetWithin_47 rfl (lv_at hl 0 rfl) ?_
              refine lv_aload_n hx hb dX4_unmetWithin_48 rfl (lv_at hl 0 rfl) ?_
              refine g_get F hK hP 70 (Wd_at70 G g q I0 J0 R0 L0) clX4 0 (by decide) flX4_28 rfl dX4_unmetWithin_49 ?_
              refine cst_r hq3 ?_
              refine g_get F hK hP 0 (Wd_at0 G g q I0 J0 R0 L0) clX2 9 (by decide) flX4_124 rfl dX4_unmetWithin_52 ?_
              refine lv_iload_n hx hb dX4_unmetWithin_55 rfl (lv_at hl 3 rfl) ?_
              refine g_iald F hK hP 29 (Wd_at29 G g q I0 J0 R0 L0) (in_of (by omega)) dX4_unmetWithin_56 rfl ?_
              refine lv_topi (fun x10 ex10 => ?_)
              have gx10 : x10.toInt = (R0 25 (Int32.toNatClampNeg a3_4)).toInt := congrArg Int32.toInt (ex10)
              have fx10 : ((0 : Int) ≤ x10.toInt ∧ x10.toInt ≤ (11 : Int)) := by rw [ex10]; exact hvR 25 (by decide) _ (clamp_lt (n := 30) (in_of (by omega)))
              refine lv_iload hx hb dX4_unmetWithin_57 (lv_at hl 5 rfl) ?_
              refine wvi (As := [.int x10, .int a5_21]) (rest := [.int r8]) (b := (g 68)) (d := 1) F hK hP hD hS hA (s_X4_turnedSet l G g q I0 J0 R0 L0 hvI hvR hq3 x10 a5_21 (show ((0 : Int) ≤ x10.toInt ∧ x10.toInt ≤ (11 : Int)) from by omega) (show ((0 : Int) ≤ a5_21.toInt ∧ a5_21.toInt ≤ (8 : Int)) from by omega)) kmV_X4_turnedSet mlX4_188 clX4 rfl 70 (Wd_at70 G g q I0 J0 R0 L0) ⟨(Nat.le_of_ble_eq_true rfl), (Nat.le_of_ble_eq_true rfl)⟩ hl.1 rfl (Nat.le_of_ble_eq_true rfl) dX4_unmetWithin_59 (fun r11 u12 H locs hwr11 hP hD hS => ?_)
              have F0r11 := hwr11
              replace F0r11 : ((0 : Int) ≤ r11.toInt ∧ r11.toInt ≤ (31 : Int)) := F0r11
              refine lv_iand hx hb dX4_unmetWithin_62 ?_
              refine lv_topi (fun x13 ex13 => ?_)
              refine lv_if_eq (tgt := 70) hx hb dX4_unmetWithin_63 (by decide) (fun c14 => ?_) (fun c14 => ?_)
              · have gc14 : x13.toInt = 0 := congrArg Int32.toInt c14
                refine lv_iconst (v := 0) hx hb dX4_unmetWithin_70 (by decide) ?_
                exact lab_71 0 _ _ _ (show ((0 : Int) ≤ a5_21.toInt ∧ a5_21.toInt ≤ (8 : Int)) from by omega) (by decide) hP hD hS (lv_sub hl [0, 1, 2, 3, 5] rfl)
              · have gc14 : ¬ (x13.toInt = 0) := fun q0 => c14 (Int32.toInt_inj.mp q0)
                refine lv_iconst (v := 1) hx hb dX4_unmetWithin_66 (by decide) ?_
                refine lv_goto (tgt := 71) hx hb dX4_unmetWithin_67 (by decide) ?_
                exact lab_71 1 _ _ _ (show ((0 : Int) ≤ a5_21.toInt ∧ a5_21.toInt ≤ (8 : Int)) from by omega) (by decide) hP hD hS (lv_sub hl [0, 1, 2, 3, 5] rfl)
      refine lv_iload_n hx hb dX4_unmetWithin_4 rfl (lv_at hl 3 rfl) ?_
      refine lv_aload_n hx hb dX4_unmetWithin_5 rfl (lv_at hl 0 rfl) ?_
      refine g_get F hK hP 70 (Wd_at70 G g q I0 J0 R0 L0) clX4 0 (by decide) flX4_28 rfl dX4_unmetWithin_6 ?_
      refine cst_r hq3 ?_
      refine g_get F hK hP 0 (Wd_at0 G g q I0 J0 R0 L0) clX2 7 (by decide) flX4_127 rfl dX4_unmetWithin_9 ?_
      have w_I0_1 := rg (hvI 1 (by decide)) (0) (30) rfl rfl
      refine lv_icmp_ge (tgt := 93) hx hb dX4_unmetWithin_12 (by decide) (fun c15 => ?_) (fun c15 => ?_)
      · have gc15 : (I0 1).toInt ≤ a3_4.toInt := (tle _ _).mp c15
        refine lv_iload_n hx hb dX4_unmetWithin_93 rfl (lv_at hl 2 rfl) ?_
        rw [hQ]
        exact q_i F hr hlk () hP hD hS trivial dX4_unmetWithin_94 (Nat.le_of_ble_eq_true rfl) (Nat.le_of_ble_eq_true rfl)
      · have gc15 : ¬ ((I0 1).toInt ≤ a3_4.toInt) := fun q0 => c15 ((tle _ _).mpr q0)
        refine lv_iconst (v := 0) hx hb dX4_unmetWithin_15 (by decide) ?_
        refine lv_istore (lv' := [(4, .int 0), (0, .ref (g 68)), (1, .int p1), (2, .int a2_4), (3, .int a3_4)]) hx hb dX4_unmetWithin_16 hl (by decide) rfl (fun ls hl => ?_)
        refine lv_iconst (v := 0) hx hb dX4_unmetWithin_18 (by decide) ?_
        refine lv_istore (lv' := [(5, .int 0), (4, .int 0), (0, .ref (g 68)), (1, .int p1), (2, .int a2_4), (3, .int a3_4)]) hx hb dX4_unmetWithin_19 hl (by decide) rfl (fun ls hl => ?_)
        exact lab_21 10 0 0 _ _ _ (show (9 - 0) < ((10 : Nat) : Int) from by omega) (show ((0 : Int) ≤ a3_4.toInt ∧ a3_4.toInt ≤ (29 : Int)) from by omega) (by decide) (by decide) hP hD hS (lv_sub hl [2, 3, 4, 5, 1, 0] rfl)
  refine lv_iconst (v := 0) hx hb dX4_unmetWithin_0 (by decide) ?_
  refine lv_istore_n (lv' := [(2, .int 0), (0, .ref (g 68)), (1, .int p1)]) hx hb dX4_unmetWithin_1 rfl hl (by decide) rfl (fun ls hl => ?_)
  refine lv_iconst (v := 0) hx hb dX4_unmetWithin_2 (by decide) ?_
  refine lv_istore_n (lv' := [(3, .int 0), (2, .int 0), (0, .ref (g 68)), (1, .int p1)]) hx hb dX4_unmetWithin_3 rfl hl (by decide) rfl (fun ls hl => ?_)
  exact lab_4 31 0 0 _ _ _ (show (30 - 0) < ((31 : Nat) : Int) from by omega) (by decide) hP hD hS (lv_sub hl [2, 3, 1, 0] rfl)
set_option maxHeartbeats 4000000 in
set_option maxRecDepth 100000 in
theorem s_X11_never (l : Launch) (G : Gx) (g q : Nat → Nat) (I0 : Nat → Int32) (J0 : Nat → Int64) (R0 : Nat → Nat → Int32) (L0 : Nat → Nat → Int64) (hvI : InvI Wd_lo Wd_hi I0) (hvR : InvR Wd_rl R0) (hq3 : q 3 = (g 11)) (p1 : Int32)  : CtI (S := Unit) l yX11_never cX11_never 2 (some .int) (rmD 3 0 0) G [.ref (g 74), .int p1] (Wd G g q I0 J0 R0 L0) (fun r _ => True) (fun _ => (Wd G g q I0 J0 R0 L0)) := by
  refine ctI_of (own := RX11) (by decide +kernel) rfl (Nat.le_of_ble_eq_true rfl) ?_
  intro p e s m below meth c A ls F hr hlk hnm hK hP hD hA hS hl
  have hx := F.1
  have hb := F.2.1
  have hown := F.2.2.2.1
  have hl : lv_has ls 2 [(0, .ref (g 74)), (1, .int p1)] := hl
  obtain ⟨Q, hQ⟩ : ∃ Q : State → Prop, Q = MQ below (va_Qi (S := Unit) (fun r _ => True) (BX G A (fun _ => (Wd G g q I0 J0 R0 L0))) A) [.ref (g 74), .int p1].toArray s 0 0 A := ⟨_, rfl⟩
  rw [show (MQ below (va_Qi (S := Unit) (fun r _ => True) (BX G A (fun _ => (Wd G g q I0 J0 R0 L0))) A) [.ref (g 74), .int p1].toArray s (rmD 3 0 0).cells (rmD 3 0 0).slots A) = Q from hQ.symm]
  refine lv_iload_n hx hb dX11_never_0 rfl (lv_at hl 1 rfl) ?_
  refine lv_iconst (v := 1) hx hb dX11_never_1 (by decide) ?_
  refine lv_icmp_lt (tgt := 22) hx hb dX11_never_2 (by decide) (fun c1 => ?_) (fun c1 => ?_)
  · have gc1 : p1.toInt < 1 := (tlt _ _).mp c1
    refine lv_iconst (v := (-1)) hx hb dX11_never_22 (by decide) ?_
    rw [hQ]
    exact q_i F hr hlk () hP hD hS trivial dX11_never_23 (Nat.le_of_ble_eq_true rfl) (Nat.le_of_ble_eq_true rfl)
  · have gc1 : ¬ (p1.toInt < 1) := fun q0 => c1 ((tlt _ _).mpr q0)
    refine lv_iload_n hx hb dX11_never_5 rfl (lv_at hl 1 rfl) ?_
    refine lv_bipush (v := 9) hx hb dX11_never_6 (by decide) ?_
    refine lv_icmp_gt (tgt := 22) hx hb dX11_never_8 (by decide) (fun c2 => ?_) (fun c2 => ?_)
    · have gc2 : 9 < p1.toInt := (tlt _ _).mp c2
      refine lv_iconst (v := (-1)) hx hb dX11_never_22 (by decide) ?_
      rw [hQ]
      exact q_i F hr hlk () hP hD hS trivial dX11_never_23 (Nat.le_of_ble_eq_true rfl) (Nat.le_of_ble_eq_true rfl)
    · have gc2 : ¬ (9 < p1.toInt) := fun q0 => c2 ((tlt _ _).mpr q0)
      refine lv_aload_n hx hb dX11_never_11 rfl (lv_at hl 0 rfl) ?_
      refine g_get F hK hP 66 (Wd_at66 G g q I0 J0 R0 L0) clX11 4 (by decide) flX11_43 rfl dX11_never_12 ?_
      refine lv_iload_n hx hb dX11_never_15 rfl (lv_at hl 1 rfl) ?_
      refine wvi (As := [.int p1]) (rest := []) (b := (g 68)) (d := 2) F hK hP hD hS hA (s_X4_unmetWithin l G g q I0 J0 R0 L0 hvI hvR hq3 p1 (show ((1 : Int) ≤ p1.toInt ∧ p1.toInt ≤ (9 : Int)) from by omega)) kmV_X4_unmetWithin mlX11_364 clX4 rfl 70 (Wd_at70 G g q I0 J0 R0 L0) ⟨(Nat.le_of_ble_eq_true rfl), (Nat.le_of_ble_eq_true rfl)⟩ hl.1 rfl (Nat.le_of_ble_eq_true rfl) dX11_never_16 (fun r3 u4 H locs hwr3 hP hD hS => ?_)
      refine lv_goto (tgt := 23) hx hb dX11_never_19 (by decide) ?_
      rw [hQ]
      exact q_i F hr hlk () hP hD hS trivial dX11_never_23 (Nat.le_of_ble_eq_true rfl) (Nat.le_of_ble_eq_true rfl)
set_option maxHeartbeats 4000000 in
set_option maxRecDepth 100000 in
theorem s_X11_octet (l : Launch) (G : Gx) (g q : Nat → Nat) (I0 : Nat → Int32) (J0 : Nat → Int64) (R0 : Nat → Nat → Int32) (L0 : Nat → Nat → Int64) (hvI : InvI Wd_lo Wd_hi I0) (hvR : InvR Wd_rl R0) (hq3 : q 3 = (g 11)) (p1 : Int32)  : CtI (S := Unit) l yX11_octet cX11_octet 2 (some .int) (rmD 2 0 0) G [.ref (g 74), .int p1] (Wd G g q I0 J0 R0 L0) (fun r _ => True) (fun _ => (Wd G g q I0 J0 R0 L0)) := by
  refine ctI_of (own := RX11) (by decide +kernel) rfl (Nat.le_of_ble_eq_true rfl) ?_
  intro p e s m below meth c A ls F hr hlk hnm hK hP hD hA hS hl
  have hx := F.1
  have hb := F.2.1
  have hown := F.2.2.2.1
  have hl : lv_has ls 2 [(0, .ref (g 74)), (1, .int p1)] := hl
  obtain ⟨Q, hQ⟩ : ∃ Q : State → Prop, Q = MQ below (va_Qi (S := Unit) (fun r _ => True) (BX G A (fun _ => (Wd G g q I0 J0 R0 L0))) A) [.ref (g 74), .int p1].toArray s 0 0 A := ⟨_, rfl⟩
  rw [show (MQ below (va_Qi (S := Unit) (fun r _ => True) (BX G A (fun _ => (Wd G g q I0 J0 R0 L0))) A) [.ref (g 74), .int p1].toArray s (rmD 2 0 0).cells (rmD 2 0 0).slots A) = Q from hQ.symm]
  refine lv_iload_n hx hb dX11_octet_0 rfl (lv_at hl 1 rfl) ?_
  refine lv_aload_n hx hb dX11_octet_1 rfl (lv_at hl 0 rfl) ?_
  refine g_get F hK hP 66 (Wd_at66 G g q I0 J0 R0 L0) clX11 12 (by decide) flX11_83 rfl dX11_octet_2 ?_
  have w_I0_21 := rg (hvI 21 (by decide)) (0) (14) rfl rfl
  refine w0i (As := [.int p1, .int (I0 21)]) (rest := []) (d := 1) F hK hP hD hS hA (s_X11_isBelow l G  p1 ((I0 21)) (show ((0 : Int) ≤ (I0 21).toInt ∧ (I0 21).toInt ≤ (30 : Int)) from by omega)) kmS_X11_isBelow mlX11_169 ⟨(Nat.le_of_ble_eq_true rfl), (Nat.le_of_ble_eq_true rfl)⟩ hl.1 rfl (Nat.le_of_ble_eq_true rfl) dX11_octet_5 (fun r1 u2 H locs hwr1 hP hD hS => ?_)
  obtain ⟨F0r1, F1r1⟩ := hwr1
  replace F0r1 : ((0 : Int) ≤ r1.toInt ∧ r1.toInt ≤ (1 : Int)) := F0r1
  replace F1r1 : (r1.toInt = 1 → (0 ≤ p1.toInt ∧ p1.toInt < (I0 21).toInt)) := F1r1
  refine lv_if_eq (tgt := 20) hx hb dX11_octet_8 (by decide) (fun c3 => ?_) (fun c3 => ?_)
  · have gc3 : r1.toInt = 0 := congrArg Int32.toInt c3
    refine lv_iconst (v := (-1)) hx hb dX11_octet_20 (by decide) ?_
    rw [hQ]
    exact q_i F hr hlk () hP hD hS trivial dX11_octet_21 (Nat.le_of_ble_eq_true rfl) (Nat.le_of_ble_eq_true rfl)
  · have gc3 : ¬ (r1.toInt = 0) := fun q0 => c3 (Int32.toInt_inj.mp q0)
    refine lv_aload_n hx hb dX11_octet_11 rfl (lv_at hl 0 rfl) ?_
    refine g_get F hK hP 66 (Wd_at66 G g q I0 J0 R0 L0) clX11 11 (by decide) flX11_80 rfl dX11_octet_12 ?_
    refine lv_iload_n hx hb dX11_octet_15 rfl (lv_at hl 1 rfl) ?_
    refine g_iald F hK hP 75 (Wd_at75 G g q I0 J0 R0 L0) (in_of (by omega)) dX11_octet_16 rfl ?_
    refine lv_topi (fun x4 ex4 => ?_)
    have gx4 : x4.toInt = (R0 59 (Int32.toNatClampNeg p1)).toInt := congrArg Int32.toInt (ex4)
    refine lv_goto (tgt := 21) hx hb dX11_octet_17 (by decide) ?_
    rw [hQ]
    exact q_i F hr hlk () hP hD hS trivial dX11_octet_21 (Nat.le_of_ble_eq_true rfl) (Nat.le_of_ble_eq_true rfl)
set_option maxHeartbeats 4000000 in
set_option maxRecDepth 100000 in
theorem s_X11_person (l : Launch) (G : Gx) (g q : Nat → Nat) (I0 : Nat → Int32) (J0 : Nat → Int64) (R0 : Nat → Nat → Int32) (L0 : Nat → Nat → Int64) (hvI : InvI Wd_lo Wd_hi I0) (hvR : InvR Wd_rl R0) (hq3 : q 3 = (g 11)) (p1 : Int32) (p2 : Int32)  : CtI (S := Unit) l yX11_person cX11_person 4 (some .int) (rmD 3 0 0) G [.ref (g 74), .int p1, .int p2] (Wd G g q I0 J0 R0 L0) (fun r _ => True) (fun _ => (Wd G g q I0 J0 R0 L0)) := by
  refine ctI_of (own := RX11) (by decide +kernel) rfl (Nat.le_of_ble_eq_true rfl) ?_
  intro p e s m below meth c A ls F hr hlk hnm hK hP hD hA hS hl
  have hx := F.1
  have hb := F.2.1
  have hown := F.2.2.2.1
  have hl : lv_has ls 4 [(0, .ref (g 74)), (1, .int p1), (2, .int p2)] := hl
  obtain ⟨Q, hQ⟩ : ∃ Q : State → Prop, Q = MQ below (va_Qi (S := Unit) (fun r _ => True) (BX G A (fun _ => (Wd G g q I0 J0 R0 L0))) A) [.ref (g 74), .int p1, .int p2].toArray s 0 0 A := ⟨_, rfl⟩
  rw [show (MQ below (va_Qi (S := Unit) (fun r _ => True) (BX G A (fun _ => (Wd G g q I0 J0 R0 L0))) A) [.ref (g 74), .int p1, .int p2].toArray s (rmD 3 0 0).cells (rmD 3 0 0).slots A) = Q from hQ.symm]
  refine lv_aload_n hx hb dX11_person_0 rfl (lv_at hl 0 rfl) ?_
  refine g_get F hK hP 66 (Wd_at66 G g q I0 J0 R0 L0) clX11 4 (by decide) flX11_43 rfl dX11_person_1 ?_
  refine g_get F hK hP 70 (Wd_at70 G g q I0 J0 R0 L0) clX4 0 (by decide) flX11_121 rfl dX11_person_4 ?_
  refine cst_r hq3 ?_
  refine g_get F hK hP 0 (Wd_at0 G g q I0 J0 R0 L0) clX2 1 (by decide) flX11_139 rfl dX11_person_7 ?_
  refine lv_astore_n (lv' := [(3, .ref (g 1)), (0, .ref (g 74)), (1, .int p1), (2, .int p2)]) hx hb dX11_person_10 rfl hl (by decide) rfl (fun ls hl => ?_)
  refine lv_aload_n hx hb dX11_person_11 rfl (lv_at hl 1 rfl) ?_
  refine lv_iload_n hx hb dX11_person_12 rfl (lv_at hl 2 rfl) ?_
  refine wvi (As := [.int p1]) (rest := []) (b := (g 74)) (d := 2) F hK hP hD hS hA (s_X11_isPerson l G g q I0 J0 R0 L0 hvI hvR hq3 p1 ) kmV_X11_isPerson mlX11_184 clX11 rfl 66 (Wd_at66 G g q I0 J0 R0 L0) ⟨(Nat.le_of_ble_eq_true rfl), (Nat.le_of_ble_eq_true rfl)⟩ hl.1 rfl (Nat.le_of_ble_eq_true rfl) dX11_person_13 (fun r1 u2 H locs hwr1 hP hD hS => ?_)
  obtain ⟨F0r1, F1r1⟩ := hwr1
  replace F0r1 : ((0 : Int) ≤ r1.toInt ∧ r1.toInt ≤ (1 : Int)) := F0r1
  replace F1r1 : (r1.toInt = 1 → (0 ≤ p1.toInt ∧ p1.toInt ≤ 11)) := F1r1
  refine lv_if_ne (tgt := 21) hx hb dX11_person_16 (by decide) (fun c3 => ?_) (fun c3 => ?_)
  · have gc3 : ¬ (r1.toInt = 0) := fun q0 => c3 (Int32.toInt_inj.mp q0)
    refine lv_iload_n hx hb dX11_person_21 rfl (lv_at hl 3 rfl) ?_
    by_cases h4 : p2 = 0
    · have gh4 : p2.toInt = 0 := congrArg Int32.toInt h4
      refine cst_i h4 ?_
      refine lv_tableIn (off := 46) (tgt := 68) hx hb dX11_person_22 (by decide) (by decide) rfl (by decide) ?_
      refine lv_aload_n hx hb dX11_person_68 rfl (lv_at hl 0 rfl) ?_
      refine g_get F hK hP 2 (Wd_at2 G g q I0 J0 R0 L0) clX3 2 (by decide) flX11_188 rfl dX11_person_69 ?_
      refine lv_iload_n hx hb dX11_person_72 rfl (lv_at hl 2 rfl) ?_
      refine g_iald F hK hP 10 (Wd_at10 G g q I0 J0 R0 L0) (in_of (by omega)) dX11_person_73 rfl ?_
      refine lv_topi (fun x5 ex5 => ?_)
      have gx5 : x5.toInt = (R0 6 (Int32.toNatClampNeg p1)).toInt := congrArg Int32.toInt (ex5)
      have fx5 : ((0 : Int) ≤ x5.toInt ∧ x5.toInt ≤ (5 : Int)) := by rw [ex5]; exact hvR 6 (by decide) _ (clamp_lt (n := 12) (in_of (by omega)))
      rw [hQ]
      exact q_i F hr hlk () hP hD hS trivial dX11_person_74 (Nat.le_of_ble_eq_true rfl) (Nat.le_of_ble_eq_true rfl)
    by_cases h6 : p2 = 1
    · have gh6 : p2.toInt = 1 := congrArg Int32.toInt h6
      refine cst_i h6 ?_
      refine lv_tableIn (off := 53) (tgt := 75) hx hb dX11_person_22 (by decide) (by decide) rfl (by decide) ?_
      refine lv_aload_n hx hb dX11_person_75 rfl (lv_at hl 0 rfl) ?_
      refine g_get F hK hP 2 (Wd_at2 G g q I0 J0 R0 L0) clX3 3 (by decide) flX11_191 rfl dX11_person_76 ?_
      refine lv_iload_n hx hb dX11_person_79 rfl (lv_at hl 2 rfl) ?_
      refine g_iald F hK hP 11 (Wd_at11 G g q I0 J0 R0 L0) (in_of (by omega)) dX11_person_80 rfl ?_
      refine lv_topi (fun x7 ex7 => ?_)
      have gx7 : x7.toInt = (R0 7 (Int32.toNatClampNeg p1)).toInt := congrArg Int32.toInt (ex7)
      rw [hQ]
      exact q_i F hr hlk () hP hD hS trivial dX11_person_81 (Nat.le_of_ble_eq_true rfl) (Nat.le_of_ble_eq_true rfl)
    by_cases h8 : p2 = 2
    · have gh8 : p2.toInt = 2 := congrArg Int32.toInt h8
      refine cst_i h8 ?_
      refine lv_tableIn (off := 60) (tgt := 82) hx hb dX11_person_22 (by decide) (by decide) rfl (by decide) ?_
      refine lv_aload_n hx hb dX11_person_82 rfl (lv_at hl 0 rfl) ?_
      refine g_get F hK hP 2 (Wd_at2 G g q I0 J0 R0 L0) clX3 4 (by decide) flX11_194 rfl dX11_person_83 ?_
      refine lv_iload_n hx hb dX11_person_86 rfl (lv_at hl 2 rfl) ?_
      refine g_iald F hK hP 12 (Wd_at12 G g q I0 J0 R0 L0) (in_of (by omega)) dX11_person_87 rfl ?_
      refine lv_topi (fun x9 ex9 => ?_)
      have gx9 : x9.toInt = (R0 8 (Int32.toNatClampNeg p1)).toInt := congrArg Int32.toInt (ex9)
      rw [hQ]
      exact q_i F hr hlk () hP hD hS trivial dX11_person_88 (Nat.le_of_ble_eq_true rfl) (Nat.le_of_ble_eq_true rfl)
    by_cases h10 : p2 = 3
    · have gh10 : p2.toInt = 3 := congrArg Int32.toInt h10
      refine cst_i h10 ?_
      refine lv_tableIn (off := 67) (tgt := 89) hx hb dX11_person_22 (by decide) (by decide) rfl (by decide) ?_
      refine lv_aload_n hx hb dX11_person_89 rfl (lv_at hl 0 rfl) ?_
      refine g_get F hK hP 2 (Wd_at2 G g q I0 J0 R0 L0) clX3 5 (by decide) flX11_197 rfl dX11_person_90 ?_
      refine lv_iload_n hx hb dX11_person_93 rfl (lv_at hl 2 rfl) ?_
      refine g_iald F hK hP 13 (Wd_at13 G g q I0 J0 R0 L0) (in_of (by omega)) dX11_person_94 rfl ?_
      refine lv_topi (fun x11 ex11 => ?_)
      have gx11 : x11.toInt = (R0 9 (Int32.toNatClampNeg p1)).toInt := congrArg Int32.toInt (ex11)
      rw [hQ]
      exact q_i F hr hlk () hP hD hS trivial dX11_person_95 (Nat.le_of_ble_eq_true rfl) (Nat.le_of_ble_eq_true rfl)
    by_cases h12 : p2 = 4
    · have gh12 : p2.toInt = 4 := congrArg Int32.toInt h12
      refine cst_i h12 ?_
      refine lv_tableIn (off := 74) (tgt := 96) hx hb dX11_person_22 (by decide) (by decide) rfl (by decide) ?_
      refine lv_aload_n hx hb dX11_person_96 rfl (lv_at hl 0 rfl) ?_
      refine g_get F hK hP 2 (Wd_at2 G g q I0 J0 R0 L0) clX3 6 (by decide) flX11_200 rfl dX11_person_97 ?_
      refine lv_iload_n hx hb dX11_person_100 rfl (lv_at hl 2 rfl) ?_
      refine g_iald F hK hP 14 (Wd_at14 G g q I0 J0 R0 L0) (in_of (by omega)) dX11_person_101 rfl ?_
      refine lv_topi (fun x13 ex13 => ?_)
      have gx13 : x13.toInt = (R0 10 (Int32.toNatClampNeg p1)).toInt := congrArg Int32.toInt (ex13)
      have fx13 : ((-1 : Int) ≤ x13.toInt ∧ x13.toInt ≤ (4 : Int)) := by rw [ex13]; exact hvR 10 (by decide) _ (clamp_lt (n := 12) (in_of (by omega)))
      rw [hQ]
      exact q_i F hr hlk () hP hD hS trivial dX11_person_102 (Nat.le_of_ble_eq_true rfl) (Nat.le_of_ble_eq_true rfl)
    by_cases h14 : p2 = 5
    · have gh14 : p2.toInt = 5 := congrArg Int32.toInt h14
      refine cst_i h14 ?_
      refine lv_tableIn (off := 81) (tgt := 103) hx hb dX11_person_22 (by decide) (by decide) rfl (by decide) ?_
      refine lv_aload_n hx hb dX11_person_103 rfl (lv_at hl 0 rfl) ?_
      refine g_get F hK hP 2 (Wd_at2 G g q I0 J0 R0 L0) clX3 7 (by decide) flX11_203 rfl dX11_person_104 ?_
      refine lv_iload_n hx hb dX11_person_107 rfl (lv_at hl 2 rfl) ?_
      refine g_iald F hK hP 15 (Wd_at15 G g q I0 J0 R0 L0) (in_of (by omega)) dX11_person_108 rfl ?_
      refine lv_topi (fun x15 ex15 => ?_)
      have gx15 : x15.toInt = (R0 11 (Int32.toNatClampNeg p1)).toInt := congrArg Int32.toInt (ex15)
      rw [hQ]
      exact q_i F hr hlk () hP hD hS trivial dX11_person_109 (Nat.le_of_ble_eq_true rfl) (Nat.le_of_ble_eq_true rfl)
    by_cases h16 : p2 = 6
    · have gh16 : p2.toInt = 6 := congrArg Int32.toInt h16
      refine cst_i h16 ?_
      refine lv_tableIn (off := 88) (tgt := 110) hx hb dX11_person_22 (by decide) (by decide) rfl (by decide) ?_
      refine lv_aload_n hx hb dX11_person_110 rfl (lv_at hl 1 rfl) ?_
      refine g_get F hK hP 66 (Wd_at66 G g q I0 J0 R0 L0) clX11 4 (by decide) flX11_43 rfl dX11_person_111 ?_
      refine g_get F hK hP 70 (Wd_at70 G g q I0 J0 R0 L0) clX4 1 (by decide) flX11_206 rfl dX11_person_114 ?_
      refine lv_iload_n hx hb dX11_person_117 rfl (lv_at hl 2 rfl) ?_
      refine g_iald F hK hP 78 (Wd_at78 G g q I0 J0 R0 L0) (in_of (by omega)) dX11_person_118 rfl ?_
      refine lv_topi (fun x17 ex17 => ?_)
      have gx17 : x17.toInt = (R0 62 (Int32.toNatClampNeg p1)).toInt := congrArg Int32.toInt (ex17)
      rw [hQ]
      exact q_i F hr hlk () hP hD hS trivial dX11_person_119 (Nat.le_of_ble_eq_true rfl) (Nat.le_of_ble_eq_true rfl)
    by_cases h18 : p2 = 7
    · have gh18 : p2.toInt = 7 := congrArg Int32.toInt h18
      refine cst_i h18 ?_
      refine lv_tableIn (off := 98) (tgt := 120) hx hb dX11_person_22 (by decide) (by decide) rfl (by decide) ?_
      refine lv_aload_n hx hb dX11_person_120 rfl (lv_at hl 0 rfl) ?_
      refine g_get F hK hP 2 (Wd_at2 G g q I0 J0 R0 L0) clX3 10 (by decide) flX11_209 rfl dX11_person_121 ?_
      refine lv_iload_n hx hb dX11_person_124 rfl (lv_at hl 2 rfl) ?_
      refine g_iald F hK hP 18 (Wd_at18 G g q I0 J0 R0 L0) (in_of (by omega)) dX11_person_125 rfl ?_
      refine lv_topi (fun x19 ex19 => ?_)
      have gx19 : x19.toInt = (R0 14 (Int32.toNatClampNeg p1)).toInt := congrArg Int32.toInt (ex19)
      have fx19 : ((0 : Int) ≤ x19.toInt ∧ x19.toInt ≤ (10 : Int)) := by rw [ex19]; exact hvR 14 (by decide) _ (clamp_lt (n := 12) (in_of (by omega)))
      rw [hQ]
      exact q_i F hr hlk () hP hD hS trivial dX11_person_126 (Nat.le_of_ble_eq_true rfl) (Nat.le_of_ble_eq_true rfl)
    refine lv_tableOut (tgt := 127) hx hb dX11_person_22 (by have gh4 := lv_neT h4 (a := 0) rfl; have gh6 := lv_neT h6 (a := 1) rfl; have gh8 := lv_neT h8 (a := 2) rfl; have gh10 := lv_neT h10 (a := 3) rfl; have gh12 := lv_neT h12 (a := 4) rfl; have gh14 := lv_neT h14 (a := 5) rfl; have gh16 := lv_neT h16 (a := 6) rfl; have gh18 := lv_neT h18 (a := 7) rfl; omega) (by decide) ?_
    refine lv_iconst (v := (-1)) hx hb dX11_person_127 (by decide) ?_
    rw [hQ]
    exact q_i F hr hlk () hP hD hS trivial dX11_person_128 (Nat.le_of_ble_eq_true rfl) (Nat.le_of_ble_eq_true rfl)
  · have gc3 : r1.toInt = 0 := congrArg Int32.toInt c3
    refine lv_iconst (v := (-1)) hx hb dX11_person_19 (by decide) ?_
    rw [hQ]
    exact q_i F hr hlk () hP hD hS trivial dX11_person_20 (Nat.le_of_ble_eq_true rfl) (Nat.le_of_ble_eq_true rfl)
set_option maxHeartbeats 4000000 in
set_option maxRecDepth 100000 in
theorem s_X4_greatestUnmet (l : Launch) (G : Gx) (g q : Nat → Nat) (I0 : Nat → Int32) (J0 : Nat → Int64) (R0 : Nat → Nat → Int32) (L0 : Nat → Nat → Int64) (hvI : InvI Wd_lo Wd_hi I0) (hvR : InvR Wd_rl R0) (hq3 : q 3 = (g 11))   : CtI (S := Unit) l yX4_greatestUnmet cX4_greatestUnmet 3 (some .int) (rmD 3 0 0) G [.ref (g 68)] (Wd G g q I0 J0 R0 L0) (fun r _ => ((-1 : Int) ≤ r.toInt ∧ r.toInt ≤ (29 : Int))) (fun _ => (Wd G g q I0 J0 R0 L0)) := by
  refine ctI_of (own := RX4) (by decide +kernel) rfl (Nat.le_of_ble_eq_true rfl) ?_
  intro p e s m below meth c A ls F hr hlk hnm hK hP hD hA hS hl
  have hx := F.1
  have hb := F.2.1
  have hown := F.2.2.2.1
  have hl : lv_has ls 3 [(0, .ref (g 68))] := hl
  obtain ⟨Q, hQ⟩ : ∃ Q : State → Prop, Q = MQ below (va_Qi (S := Unit) (fun r _ => ((-1 : Int) ≤ r.toInt ∧ r.toInt ≤ (29 : Int))) (BX G A (fun _ => (Wd G g q I0 J0 R0 L0))) A) [.ref (g 68)].toArray s 0 0 A := ⟨_, rfl⟩
  rw [show (MQ below (va_Qi (S := Unit) (fun r _ => ((-1 : Int) ≤ r.toInt ∧ r.toInt ≤ (29 : Int))) (BX G A (fun _ => (Wd G g q I0 J0 R0 L0))) A) [.ref (g 68)].toArray s (rmD 3 0 0).cells (rmD 3 0 0).slots A) = Q from hQ.symm]
  have lab_4 : ∀ (k_4 : Nat) (a1_4 : Int32) (a2_4 : Int32) (H : Heap) (locs : List Loc) (ls : Array Slot), ((30 - a2_4.toInt) < (k_4 : Int)) → ((-1 : Int) ≤ a1_4.toInt ∧ a1_4.toInt ≤ (29 : Int)) → ((0 : Int) ≤ a2_4.toInt ∧ a2_4.toInt ≤ (30 : Int)) → va_P G.1 vwCl (Wd G g q I0 J0 R0 L0) H → va_D A (Wd G g q I0 J0 R0 L0) → va_S A s.heap H locs → lv_has ls 3 [(0, .ref (g 68)), (1, .int a1_4), (2, .int a2_4)] → W p l e (rmD 3 0 0) s m [.ref (g 68)].toArray below meth c H locs 0 0 Q (F0 m 4 ls []) := by
    intro k_4
    induction k_4 with
    | zero =>
      intro a1_4 a2_4 H locs ls hm y0_4 y1_4 hP hD hS hl
      exact absurd hm (by omega)
    | succ k_4 ih_4 =>
      intro a1_4 a2_4 H locs ls hm y0_4 y1_4 hP hD hS hl
      have lab_51 : ∀ (a1_51 : Int32) (H : Heap) (locs : List Loc) (ls : Array Slot), ((-1 : Int) ≤ a1_51.toInt ∧ a1_51.toInt ≤ (29 : Int)) → ((0 : Int) ≤ a2_4.toInt ∧ a2_4.toInt ≤ (29 : Int)) → va_P G.1 vwCl (Wd G g q I0 J0 R0 L0) H → va_D A (Wd G g q I0 J0 R0 L0) → va_S A s.heap H locs → lv_has ls 3 [(0, .ref (g 68)), (1, .int a1_51), (2, .int a2_4)] → W p l e (rmD 3 0 0) s m [.ref (g 68)].toArray below meth c H locs 0 0 Q (F0 m 51 ls []) := by
        intro a1_51 H locs ls y0_51 y1_51 hP hD hS hl
        obtain ⟨x1, ex1⟩ : ∃ y : Int32, y = a2_4 + 1 := ⟨_, rfl⟩
        have fx1 : x1.toInt = a2_4.toInt + (1 : Int) := by rw [ex1]; exact t_add (by show (-2147483648 : Int) ≤ a2_4.toInt + (1 : Int); omega) (by show a2_4.toInt + (1 : Int) ≤ 2147483647; omega)
        refine lv_iinc (v := x1) (lv' := [(2, .int x1), (0, .ref (g 68)), (1, .int a1_51)]) hx hb dX4_greatestUnmet_51 hl (k := 2) rfl (by rw [ex1]; rfl) (by decide) rfl (fun ls hl => ?_)
        refine lv_goto (tgt := 4) hx hb dX4_greatestUnmet_54 (by decide) ?_
        exact ih_4 a1_51 x1 _ _ _ (show (30 - x1.toInt) < (k_4 : Int) from by omega) (show ((-1 : Int) ≤ a1_51.toInt ∧ a1_51.toInt ≤ (29 : Int)) from by omega) (show ((0 : Int) ≤ x1.toInt ∧ x1.toInt ≤ (30 : Int)) from by omega) hP hD hS (lv_sub hl [1, 2, 0] rfl)
      have lab_49 : ∀  (H : Heap) (locs : List Loc) (ls : Array Slot), ((0 : Int) ≤ a2_4.toInt ∧ a2_4.toInt ≤ (29 : Int)) → va_P G.1 vwCl (Wd G g q I0 J0 R0 L0) H → va_D A (Wd G g q I0 J0 R0 L0) → va_S A s.heap H locs → lv_has ls 3 [(0, .ref (g 68)), (2, .int a2_4)] → W p l e (rmD 3 0 0) s m [.ref (g 68)].toArray below meth c H locs 0 0 Q (F0 m 49 ls []) := by
        intro H locs ls y0_49 hP hD hS hl
        refine lv_iload_n hx hb dX4_greatestUnmet_49 rfl (lv_at hl 1 rfl) ?_
        refine lv_istore_n (lv' := [(1, .int a2_4), (0, .ref (g 68)), (2, .int a2_4)]) hx hb dX4_greatestUnmet_50 rfl hl (by decide) rfl (fun ls hl => ?_)
        exact lab_51 a2_4 _ _ _ (show ((-1 : Int) ≤ a2_4.toInt ∧ a2_4.toInt ≤ (29 : Int)) from by omega) (show ((0 : Int) ≤ a2_4.toInt ∧ a2_4.toInt ≤ (29 : Int)) from by omega) hP hD hS (lv_sub hl [1, 0, 2] rfl)
      refine lv_iload_n hx hb dX4_greatestUnmet_4 rfl (lv_at hl 2 rfl) ?_
      refine lv_aload_n hx hb dX4_greatestUnmet_5 rfl (lv_at hl 0 rfl) ?_
      refine g_get F hK hP 70 (Wd_at70 G g q I0 J0 R0 L0) clX4 0 (by decide) flX4_28 rfl dX4_greatestUnmet_6 ?_
      refine cst_r hq3 ?_
      refine g_get F hK hP 0 (Wd_at0 G g q I0 J0 R0 L0) clX2 7 (by decide) flX4_127 rfl dX4_greatestUnmet_9 ?_
      have w_I0_1 := rg (hvI 1 (by decide)) (0) (30) rfl rfl
      refine lv_icmp_ge (tgt := 57) hx hb dX4_greatestUnmet_12 (by decide) (fun c2 => ?_) (fun c2 => ?_)
      · have gc2 : (I0 1).toInt ≤ a2_4.toInt := (tle _ _).mp c2
        refine lv_iload_n hx hb dX4_greatestUnmet_57 rfl (lv_at hl 1 rfl) ?_
        rw [hQ]
        exact q_i F hr hlk () hP hD hS (show ((-1 : Int) ≤ a1_4.toInt ∧ a1_4.toInt ≤ (29 : Int)) from by omega) dX4_greatestUnmet_58 (Nat.le_of_ble_eq_true rfl) (Nat.le_of_ble_eq_true rfl)
      · have gc2 : ¬ ((I0 1).toInt ≤ a2_4.toInt) := fun q0 => c2 ((tle _ _).mpr q0)
        refine lv_aload_n hx hb dX4_greatestUnmet_15 rfl (lv_at hl 0 rfl) ?_
        refine lv_iload_n hx hb dX4_greatestUnmet_16 rfl (lv_at hl 2 rfl) ?_
        refine wvi (As := [.int a2_4]) (rest := []) (b := (g 68)) (d := 2) F hK hP hD hS hA (s_X4_metDays l G g q I0 J0 R0 L0 hvI hvR hq3 a2_4 (show ((0 : Int) ≤ a2_4.toInt ∧ a2_4.toInt ≤ (29 : Int)) from by omega)) kmV_X4_metDays mlX4_133 clX4 rfl 70 (Wd_at70 G g q I0 J0 R0 L0) ⟨(Nat.le_of_ble_eq_true rfl), (Nat.le_of_ble_eq_true rfl)⟩ hl.1 rfl (Nat.le_of_ble_eq_true rfl) dX4_greatestUnmet_17 (fun r3 u4 H locs hwr3 hP hD hS => ?_)
        have F0r3 := hwr3
        replace F0r3 : ((0 : Int) ≤ r3.toInt ∧ r3.toInt ≤ (63 : Int)) := F0r3
        refine lv_if_ne (tgt := 51) hx hb dX4_greatestUnmet_20 (by decide) (fun c5 => ?_) (fun c5 => ?_)
        · have gc5 : ¬ (r3.toInt = 0) := fun q0 => c5 (Int32.toInt_inj.mp q0)
          exact lab_51 a1_4 _ _ _ (show ((-1 : Int) ≤ a1_4.toInt ∧ a1_4.toInt ≤ (29 : Int)) from by omega) (show ((0 : Int) ≤ a2_4.toInt ∧ a2_4.toInt ≤ (29 : Int)) from by omega) hP hD hS (lv_sub hl [0, 1, 2] rfl)
        · have gc5 : r3.toInt = 0 := congrArg Int32.toInt c5
          refine lv_iload_n hx hb dX4_greatestUnmet_23 rfl (lv_at hl 1 rfl) ?_
          refine lv_iconst (v := (-1)) hx hb dX4_greatestUnmet_24 (by decide) ?_
          refine lv_icmp_eq (tgt := 49) hx hb dX4_greatestUnmet_25 (by decide) (fun c6 => ?_) (fun c6 => ?_)
          · have gc6 : a1_4.toInt = (-1) := congrArg Int32.toInt c6
            exact lab_49  _ _ _ (show ((0 : Int) ≤ a2_4.toInt ∧ a2_4.toInt ≤ (29 : Int)) from by omega) hP hD hS (lv_sub hl [0, 2] rfl)
          · have gc6 : ¬ (a1_4.toInt = (-1)) := fun q0 => c6 (Int32.toInt_inj.mp q0)
            refine lv_aload_n hx hb dX4_greatestUnmet_28 rfl (lv_at hl 0 rfl) ?_
            refine g_get F hK hP 70 (Wd_at70 G g q I0 J0 R0 L0) clX4 0 (by decide) flX4_28 rfl dX4_greatestUnmet_29 ?_
            refine cst_r hq3 ?_
            refine g_get F hK hP 0 (Wd_at0 G g q I0 J0 R0 L0) clX2 10 (by decide) flX4_130 rfl dX4_greatestUnmet_32 ?_
            refine lv_iload_n hx hb dX4_greatestUnmet_35 rfl (lv_at hl 2 rfl) ?_
            refine g_iald F hK hP 30 (Wd_at30 G g q I0 J0 R0 L0) (in_of (by omega)) dX4_greatestUnmet_36 rfl ?_
            refine lv_topi (fun x7 ex7 => ?_)
            have gx7 : x7.toInt = (R0 26 (Int32.toNatClampNeg a2_4)).toInt := congrArg Int32.toInt (ex7)
            refine lv_aload_n hx hb dX4_greatestUnmet_37 rfl (lv_at hl 0 rfl) ?_
            refine g_get F hK hP 70 (Wd_at70 G g q I0 J0 R0 L0) clX4 0 (by decide) flX4_28 rfl dX4_greatestUnmet_38 ?_
            refine cst_r hq3 ?_
            refine g_get F hK hP 0 (Wd_at0 G g q I0 J0 R0 L0) clX2 10 (by decide) flX4_130 rfl dX4_greatestUnmet_41 ?_
            refine lv_iload_n hx hb dX4_greatestUnmet_44 rfl (lv_at hl 1 rfl) ?_
            refine g_iald F hK hP 30 (Wd_at30 G g q I0 J0 R0 L0) (in_of (by omega)) dX4_greatestUnmet_45 rfl ?_
            refine lv_topi (fun x8 ex8 => ?_)
            have gx8 : x8.toInt = (R0 26 (Int32.toNatClampNeg a1_4)).toInt := congrArg Int32.toInt (ex8)
            refine lv_icmp_le (tgt := 51) hx hb dX4_greatestUnmet_46 (by decide) (fun c9 => ?_) (fun c9 => ?_)
            · have gc9 : x7.toInt ≤ x8.toInt := (tle _ _).mp c9
              exact lab_51 a1_4 _ _ _ (show ((-1 : Int) ≤ a1_4.toInt ∧ a1_4.toInt ≤ (29 : Int)) from by omega) (show ((0 : Int) ≤ a2_4.toInt ∧ a2_4.toInt ≤ (29 : Int)) from by omega) hP hD hS (lv_sub hl [0, 1, 2] rfl)
            · have gc9 : ¬ (x7.toInt ≤ x8.toInt) := fun q0 => c9 ((tle _ _).mpr q0)
              exact lab_49  _ _ _ (show ((0 : Int) ≤ a2_4.toInt ∧ a2_4.toInt ≤ (29 : Int)) from by omega) hP hD hS (lv_sub hl [0, 2] rfl)
  refine lv_iconst (v := (-1)) hx hb dX4_greatestUnmet_0 (by decide) ?_
  refine lv_istore_n (lv' := [(1, .int (-1)), (0, .ref (g 68))]) hx hb dX4_greatestUnmet_1 rfl hl (by decide) rfl (fun ls hl => ?_)
  refine lv_iconst (v := 0) hx hb dX4_greatestUnmet_2 (by decide) ?_
  refine lv_istore_n (lv' := [(2, .int 0), (1, .int (-1)), (0, .ref (g 68))]) hx hb dX4_greatestUnmet_3 rfl hl (by decide) rfl (fun ls hl => ?_)
  exact lab_4 31 ((-1)) 0 _ _ _ (show (30 - 0) < ((31 : Nat) : Int) from by omega) (by decide) (by decide) hP hD hS (lv_sub hl [2, 1, 0] rfl)
set_option maxHeartbeats 4000000 in
set_option maxRecDepth 100000 in
theorem s_X4_isLonely (l : Launch) (G : Gx) (g q : Nat → Nat) (I0 : Nat → Int32) (J0 : Nat → Int64) (R0 : Nat → Nat → Int32) (L0 : Nat → Nat → Int64) (hvI : InvI Wd_lo Wd_hi I0) (hvR : InvR Wd_rl R0) (hq3 : q 3 = (g 11)) (p1 : Int32) (hp1 : ((0 : Int) ≤ p1.toInt ∧ p1.toInt ≤ (11 : Int))) : CtI (S := Unit) l yX4_isLonely cX4_isLonely 4 (some .boolean) (rmD 3 0 0) G [.ref (g 68), .int p1] (Wd G g q I0 J0 R0 L0) (fun r _ => ((0 : Int) ≤ r.toInt ∧ r.toInt ≤ (1 : Int))) (fun _ => (Wd G g q I0 J0 R0 L0)) := by
  refine ctI_of (own := RX4) (by decide +kernel) rfl (Nat.le_of_ble_eq_true rfl) ?_
  intro p e s m below meth c A ls F hr hlk hnm hK hP hD hA hS hl
  have hx := F.1
  have hb := F.2.1
  have hown := F.2.2.2.1
  have hl : lv_has ls 4 [(0, .ref (g 68)), (1, .int p1)] := hl
  obtain ⟨Q, hQ⟩ : ∃ Q : State → Prop, Q = MQ below (va_Qi (S := Unit) (fun r _ => ((0 : Int) ≤ r.toInt ∧ r.toInt ≤ (1 : Int))) (BX G A (fun _ => (Wd G g q I0 J0 R0 L0))) A) [.ref (g 68), .int p1].toArray s 0 0 A := ⟨_, rfl⟩
  rw [show (MQ below (va_Qi (S := Unit) (fun r _ => ((0 : Int) ≤ r.toInt ∧ r.toInt ≤ (1 : Int))) (BX G A (fun _ => (Wd G g q I0 J0 R0 L0))) A) [.ref (g 68), .int p1].toArray s (rmD 3 0 0).cells (rmD 3 0 0).slots A) = Q from hQ.symm]
  have lab_4 : ∀ (k_4 : Nat) (a2_4 : Int32) (a3_4 : Int32) (H : Heap) (locs : List Loc) (ls : Array Slot), ((30 - a3_4.toInt) < (k_4 : Int)) → ((0 : Int) ≤ a2_4.toInt ∧ a2_4.toInt ≤ (1 : Int)) → ((0 : Int) ≤ a3_4.toInt ∧ a3_4.toInt ≤ (30 : Int)) → va_P G.1 vwCl (Wd G g q I0 J0 R0 L0) H → va_D A (Wd G g q I0 J0 R0 L0) → va_S A s.heap H locs → lv_has ls 4 [(0, .ref (g 68)), (1, .int p1), (2, .int a2_4), (3, .int a3_4)] → W p l e (rmD 3 0 0) s m [.ref (g 68), .int p1].toArray below meth c H locs 0 0 Q (F0 m 4 ls []) := by
    intro k_4
    induction k_4 with
    | zero =>
      intro a2_4 a3_4 H locs ls hm y0_4 y1_4 hP hD hS hl
      exact absurd hm (by omega)
    | succ k_4 ih_4 =>
      intro a2_4 a3_4 H locs ls hm y0_4 y1_4 hP hD hS hl
      have lab_53 : ∀ (a2_53 : Int32) (H : Heap) (locs : List Loc) (ls : Array Slot), ((0 : Int) ≤ a2_53.toInt ∧ a2_53.toInt ≤ (1 : Int)) → ((0 : Int) ≤ a3_4.toInt ∧ a3_4.toInt ≤ (29 : Int)) → va_P G.1 vwCl (Wd G g q I0 J0 R0 L0) H → va_D A (Wd G g q I0 J0 R0 L0) → va_S A s.heap H locs → lv_has ls 4 [(0, .ref (g 68)), (1, .int p1), (2, .int a2_53), (3, .int a3_4)] → W p l e (rmD 3 0 0) s m [.ref (g 68), .int p1].toArray below meth c H locs 0 0 Q (F0 m 53 ls []) := by
        intro a2_53 H locs ls y0_53 y1_53 hP hD hS hl
        obtain ⟨x1, ex1⟩ : ∃ y : Int32, y = a3_4 + 1 := ⟨_, rfl⟩
        have fx1 : x1.toInt = a3_4.toInt + (1 : Int) := by rw [ex1]; exact t_add (by show (-2147483648 : Int) ≤ a3_4.toInt + (1 : Int); omega) (by show a3_4.toInt + (1 : Int) ≤ 2147483647; omega)
        refine lv_iinc (v := x1) (lv' := [(3, .int x1), (0, .ref (g 68)), (1, .int p1), (2, .int a2_53)]) hx hb dX4_isLonely_53 hl (k := 3) rfl (by rw [ex1]; rfl) (by decide) rfl (fun ls hl => ?_)
        refine lv_goto (tgt := 4) hx hb dX4_isLonely_56 (by decide) ?_
        exact ih_4 a2_53 x1 _ _ _ (show (30 - x1.toInt) < (k_4 : Int) from by omega) (show ((0 : Int) ≤ a2_53.toInt ∧ a2_53.toInt ≤ (1 : Int)) from by omega) (show ((0 : Int) ≤ x1.toInt ∧ x1.toInt ≤ (30 : Int)) from by omega) hP hD hS (lv_sub hl [1, 2, 3, 0] rfl)
      have lab_41 : ∀  (H : Heap) (locs : List Loc) (ls : Array Slot), ((0 : Int) ≤ a3_4.toInt ∧ a3_4.toInt ≤ (29 : Int)) → va_P G.1 vwCl (Wd G g q I0 J0 R0 L0) H → va_D A (Wd G g q I0 J0 R0 L0) → va_S A s.heap H locs → lv_has ls 4 [(0, .ref (g 68)), (1, .int p1), (3, .int a3_4)] → W p l e (rmD 3 0 0) s m [.ref (g 68), .int p1].toArray below meth c H locs 0 0 Q (F0 m 41 ls []) := by
        intro H locs ls y0_41 hP hD hS hl
        refine lv_iconst (v := 1) hx hb dX4_isLonely_41 (by decide) ?_
        refine lv_istore_n (lv' := [(2, .int 1), (0, .ref (g 68)), (1, .int p1), (3, .int a3_4)]) hx hb dX4_isLonely_42 rfl hl (by decide) rfl (fun ls hl => ?_)
        refine lv_aload_n hx hb dX4_isLonely_43 rfl (lv_at hl 1 rfl) ?_
        refine lv_iload_n hx hb dX4_isLonely_44 rfl (lv_at hl 3 rfl) ?_
        refine wvi (As := [.int a3_4]) (rest := []) (b := (g 68)) (d := 2) F hK hP hD hS hA (s_X4_metDays l G g q I0 J0 R0 L0 hvI hvR hq3 a3_4 (show ((0 : Int) ≤ a3_4.toInt ∧ a3_4.toInt ≤ (29 : Int)) from by omega)) kmV_X4_metDays mlX4_133 clX4 rfl 70 (Wd_at70 G g q I0 J0 R0 L0) ⟨(Nat.le_of_ble_eq_true rfl), (Nat.le_of_ble_eq_true rfl)⟩ hl.1 rfl (Nat.le_of_ble_eq_true rfl) dX4_isLonely_45 (fun r2 u3 H locs hwr2 hP hD hS => ?_)
        have F0r2 := hwr2
        replace F0r2 : ((0 : Int) ≤ r2.toInt ∧ r2.toInt ≤ (63 : Int)) := F0r2
        refine lv_if_le (tgt := 53) hx hb dX4_isLonely_48 (by decide) (fun c4 => ?_) (fun c4 => ?_)
        · have gc4 : r2.toInt ≤ 0 := (tle _ _).mp c4
          exact lab_53 1 _ _ _ (by decide) (show ((0 : Int) ≤ a3_4.toInt ∧ a3_4.toInt ≤ (29 : Int)) from by omega) hP hD hS (lv_sub hl [1, 2, 0, 3] rfl)
        · have gc4 : ¬ (r2.toInt ≤ 0) := fun q0 => c4 ((tle _ _).mpr q0)
          refine lv_iconst (v := 0) hx hb dX4_isLonely_51 (by decide) ?_
          rw [hQ]
          exact q_z F hr hlk () hP hD hS (show ((0 : Int) ≤ 0 ∧ 0 ≤ (1 : Int)) from by omega) dX4_isLonely_52 (Nat.le_of_ble_eq_true rfl) (Nat.le_of_ble_eq_true rfl) (nar01 (by decide))
      refine lv_iload_n hx hb dX4_isLonely_4 rfl (lv_at hl 3 rfl) ?_
      refine lv_aload_n hx hb dX4_isLonely_5 rfl (lv_at hl 0 rfl) ?_
      refine g_get F hK hP 70 (Wd_at70 G g q I0 J0 R0 L0) clX4 0 (by decide) flX4_28 rfl dX4_isLonely_6 ?_
      refine cst_r hq3 ?_
      refine g_get F hK hP 0 (Wd_at0 G g q I0 J0 R0 L0) clX2 7 (by decide) flX4_127 rfl dX4_isLonely_9 ?_
      have w_I0_1 := rg (hvI 1 (by decide)) (0) (30) rfl rfl
      refine lv_icmp_ge (tgt := 59) hx hb dX4_isLonely_12 (by decide) (fun c5 => ?_) (fun c5 => ?_)
      · have gc5 : (I0 1).toInt ≤ a3_4.toInt := (tle _ _).mp c5
        refine lv_iload_n hx hb dX4_isLonely_59 rfl (lv_at hl 2 rfl) ?_
        rw [hQ]
        exact q_z F hr hlk () hP hD hS (show ((0 : Int) ≤ a2_4.toInt ∧ a2_4.toInt ≤ (1 : Int)) from by omega) dX4_isLonely_60 (Nat.le_of_ble_eq_true rfl) (Nat.le_of_ble_eq_true rfl) (nar01 (show ((0 : Int) ≤ a2_4.toInt ∧ a2_4.toInt ≤ (1 : Int)) from by omega))
      · have gc5 : ¬ ((I0 1).toInt ≤ a3_4.toInt) := fun q0 => c5 ((tle _ _).mpr q0)
        refine lv_aload_n hx hb dX4_isLonely_15 rfl (lv_at hl 0 rfl) ?_
        refine g_get F hK hP 70 (Wd_at70 G g q I0 J0 R0 L0) clX4 0 (by decide) flX4_28 rfl dX4_isLonely_16 ?_
        refine cst_r hq3 ?_
        refine g_get F hK hP 0 (Wd_at0 G g q I0 J0 R0 L0) clX2 8 (by decide) flX4_121 rfl dX4_isLonely_19 ?_
        refine lv_iload_n hx hb dX4_isLonely_22 rfl (lv_at hl 3 rfl) ?_
        refine g_iald F hK hP 28 (Wd_at28 G g q I0 J0 R0 L0) (in_of (by omega)) dX4_isLonely_23 rfl ?_
        refine lv_topi (fun x6 ex6 => ?_)
        have gx6 : x6.toInt = (R0 24 (Int32.toNatClampNeg a3_4)).toInt := congrArg Int32.toInt (ex6)
        have fx6 : ((0 : Int) ≤ x6.toInt ∧ x6.toInt ≤ (11 : Int)) := by rw [ex6]; exact hvR 24 (by decide) _ (clamp_lt (n := 30) (in_of (by omega)))
        refine lv_iload_n hx hb dX4_isLonely_24 rfl (lv_at hl 1 rfl) ?_
        refine lv_icmp_eq (tgt := 41) hx hb dX4_isLonely_25 (by decide) (fun c7 => ?_) (fun c7 => ?_)
        · have gc7 : x6.toInt = p1.toInt := congrArg Int32.toInt c7
          exact lab_41  _ _ _ (show ((0 : Int) ≤ a3_4.toInt ∧ a3_4.toInt ≤ (29 : Int)) from by omega) hP hD hS (lv_sub hl [0, 1, 3] rfl)
        · have gc7 : ¬ (x6.toInt = p1.toInt) := fun q0 => c7 (Int32.toInt_inj.mp q0)
          refine lv_aload_n hx hb dX4_isLonely_28 rfl (lv_at hl 0 rfl) ?_
          refine g_get F hK hP 70 (Wd_at70 G g q I0 J0 R0 L0) clX4 0 (by decide) flX4_28 rfl dX4_isLonely_29 ?_
          refine cst_r hq3 ?_
          refine g_get F hK hP 0 (Wd_at0 G g q I0 J0 R0 L0) clX2 9 (by decide) flX4_124 rfl dX4_isLonely_32 ?_
          refine lv_iload_n hx hb dX4_isLonely_35 rfl (lv_at hl 3 rfl) ?_
          refine g_iald F hK hP 29 (Wd_at29 G g q I0 J0 R0 L0) (in_of (by omega)) dX4_isLonely_36 rfl ?_
          refine lv_topi (fun x8 ex8 => ?_)
          have gx8 : x8.toInt = (R0 25 (Int32.toNatClampNeg a3_4)).toInt := congrArg Int32.toInt (ex8)
          have fx8 : ((0 : Int) ≤ x8.toInt ∧ x8.toInt ≤ (11 : Int)) := by rw [ex8]; exact hvR 25 (by decide) _ (clamp_lt (n := 30) (in_of (by omega)))
          refine lv_iload_n hx hb dX4_isLonely_37 rfl (lv_at hl 1 rfl) ?_
          refine lv_icmp_ne (tgt := 53) hx hb dX4_isLonely_38 (by decide) (fun c9 => ?_) (fun c9 => ?_)
          · have gc9 : ¬ (x8.toInt = p1.toInt) := fun q0 => c9 (Int32.toInt_inj.mp q0)
            exact lab_53 a2_4 _ _ _ (show ((0 : Int) ≤ a2_4.toInt ∧ a2_4.toInt ≤ (1 : Int)) from by omega) (show ((0 : Int) ≤ a3_4.toInt ∧ a3_4.toInt ≤ (29 : Int)) from by omega) hP hD hS (lv_sub hl [0, 1, 2, 3] rfl)
          · have gc9 : x8.toInt = p1.toInt := congrArg Int32.toInt c9
            exact lab_41  _ _ _ (show ((0 : Int) ≤ a3_4.toInt ∧ a3_4.toInt ≤ (29 : Int)) from by omega) hP hD hS (lv_sub hl [0, 1, 3] rfl)
  refine lv_iconst (v := 0) hx hb dX4_isLonely_0 (by decide) ?_
  refine lv_istore_n (lv' := [(2, .int 0), (0, .ref (g 68)), (1, .int p1)]) hx hb dX4_isLonely_1 rfl hl (by decide) rfl (fun ls hl => ?_)
  refine lv_iconst (v := 0) hx hb dX4_isLonely_2 (by decide) ?_
  refine lv_istore_n (lv' := [(3, .int 0), (2, .int 0), (0, .ref (g 68)), (1, .int p1)]) hx hb dX4_isLonely_3 rfl hl (by decide) rfl (fun ls hl => ?_)
  exact lab_4 31 0 0 _ _ _ (show (30 - 0) < ((31 : Nat) : Int) from by omega) (by decide) (by decide) hP hD hS (lv_sub hl [2, 3, 1, 0] rfl)
set_option maxHeartbeats 4000000 in
set_option maxRecDepth 100000 in
theorem s_X4_lonelyPersons (l : Launch) (G : Gx) (g q : Nat → Nat) (I0 : Nat → Int32) (J0 : Nat → Int64) (R0 : Nat → Nat → Int32) (L0 : Nat → Nat → Int64) (hvI : InvI Wd_lo Wd_hi I0) (hvR : InvR Wd_rl R0) (hq3 : q 3 = (g 11))   : CtI (S := Unit) l yX4_lonelyPersons cX4_lonelyPersons 3 (some .int) (rmD 4 0 0) G [.ref (g 68)] (Wd G g q I0 J0 R0 L0) (fun r _ => True) (fun _ => (Wd G g q I0 J0 R0 L0)) := by
  refine ctI_of (own := RX4) (by decide +kernel) rfl (Nat.le_of_ble_eq_true rfl) ?_
  intro p e s m below meth c A ls F hr hlk hnm hK hP hD hA hS hl
  have hx := F.1
  have hb := F.2.1
  have hown := F.2.2.2.1
  have hl : lv_has ls 3 [(0, .ref (g 68))] := hl
  obtain ⟨Q, hQ⟩ : ∃ Q : State → Prop, Q = MQ below (va_Qi (S := Unit) (fun r _ => True) (BX G A (fun _ => (Wd G g q I0 J0 R0 L0))) A) [.ref (g 68)].toArray s 0 0 A := ⟨_, rfl⟩
  rw [show (MQ below (va_Qi (S := Unit) (fun r _ => True) (BX G A (fun _ => (Wd G g q I0 J0 R0 L0))) A) [.ref (g 68)].toArray s (rmD 4 0 0).cells (rmD 4 0 0).slots A) = Q from hQ.symm]
  have lab_4 : ∀ (k_4 : Nat) (a1_4 : Int32) (a2_4 : Int32) (H : Heap) (locs : List Loc) (ls : Array Slot), ((12 - a2_4.toInt) < (k_4 : Int)) → ((0 : Int) ≤ a2_4.toInt ∧ a2_4.toInt ≤ (12 : Int)) → va_P G.1 vwCl (Wd G g q I0 J0 R0 L0) H → va_D A (Wd G g q I0 J0 R0 L0) → va_S A s.heap H locs → lv_has ls 3 [(0, .ref (g 68)), (1, .int a1_4), (2, .int a2_4)] → W p l e (rmD 4 0 0) s m [.ref (g 68)].toArray below meth c H locs 0 0 Q (F0 m 4 ls []) := by
    intro k_4
    induction k_4 with
    | zero =>
      intro a1_4 a2_4 H locs ls hm y0_4 hP hD hS hl
      exact absurd hm (by omega)
    | succ k_4 ih_4 =>
      intro a1_4 a2_4 H locs ls hm y0_4 hP hD hS hl
      have lab_29 : ∀ (a1_29 : Int32) (H : Heap) (locs : List Loc) (ls : Array Slot), ((0 : Int) ≤ a2_4.toInt ∧ a2_4.toInt ≤ (11 : Int)) → va_P G.1 vwCl (Wd G g q I0 J0 R0 L0) H → va_D A (Wd G g q I0 J0 R0 L0) → va_S A s.heap H locs → lv_has ls 3 [(0, .ref (g 68)), (1, .int a1_29), (2, .int a2_4)] → W p l e (rmD 4 0 0) s m [.ref (g 68)].toArray below meth c H locs 0 0 Q (F0 m 29 ls []) := by
        intro a1_29 H locs ls y0_29 hP hD hS hl
        obtain ⟨x1, ex1⟩ : ∃ y : Int32, y = a2_4 + 1 := ⟨_, rfl⟩
        have fx1 : x1.toInt = a2_4.toInt + (1 : Int) := by rw [ex1]; exact t_add (by show (-2147483648 : Int) ≤ a2_4.toInt + (1 : Int); omega) (by show a2_4.toInt + (1 : Int) ≤ 2147483647; omega)
        refine lv_iinc (v := x1) (lv' := [(2, .int x1), (0, .ref (g 68)), (1, .int a1_29)]) hx hb dX4_lonelyPersons_29 hl (k := 2) rfl (by rw [ex1]; rfl) (by decide) rfl (fun ls hl => ?_)
        refine lv_goto (tgt := 4) hx hb dX4_lonelyPersons_32 (by decide) ?_
        exact ih_4 a1_29 x1 _ _ _ (show (12 - x1.toInt) < (k_4 : Int) from by omega) (show ((0 : Int) ≤ x1.toInt ∧ x1.toInt ≤ (12 : Int)) from by omega) hP hD hS (lv_sub hl [1, 2, 0] rfl)
      refine lv_iload_n hx hb dX4_lonelyPersons_4 rfl (lv_at hl 2 rfl) ?_
      refine lv_aload_n hx hb dX4_lonelyPersons_5 rfl (lv_at hl 0 rfl) ?_
      refine g_get F hK hP 70 (Wd_at70 G g q I0 J0 R0 L0) clX4 0 (by decide) flX4_28 rfl dX4_lonelyPersons_6 ?_
      refine cst_r hq3 ?_
      refine g_get F hK hP 0 (Wd_at0 G g q I0 J0 R0 L0) clX2 1 (by decide) flX4_39 rfl dX4_lonelyPersons_9 ?_
      refine g_get F hK hP 2 (Wd_at2 G g q I0 J0 R0 L0) clX3 0 (by decide) flX4_45 rfl dX4_lonelyPersons_12 ?_
      have w_I0_6 := rg (hvI 6 (by decide)) (0) (12) rfl rfl
      refine lv_icmp_ge (tgt := 35) hx hb dX4_lonelyPersons_15 (by decide) (fun c2 => ?_) (fun c2 => ?_)
      · have gc2 : (I0 6).toInt ≤ a2_4.toInt := (tle _ _).mp c2
        refine lv_iload_n hx hb dX4_lonelyPersons_35 rfl (lv_at hl 1 rfl) ?_
        rw [hQ]
        exact q_i F hr hlk () hP hD hS trivial dX4_lonelyPersons_36 (Nat.le_of_ble_eq_true rfl) (Nat.le_of_ble_eq_true rfl)
      · have gc2 : ¬ ((I0 6).toInt ≤ a2_4.toInt) := fun q0 => c2 ((tle _ _).mpr q0)
        refine lv_aload_n hx hb dX4_lonelyPersons_18 rfl (lv_at hl 0 rfl) ?_
        refine lv_iload_n hx hb dX4_lonelyPersons_19 rfl (lv_at hl 2 rfl) ?_
        refine wvi (As := [.int a2_4]) (rest := []) (b := (g 68)) (d := 3) F hK hP hD hS hA (s_X4_isLonely l G g q I0 J0 R0 L0 hvI hvR hq3 a2_4 (show ((0 : Int) ≤ a2_4.toInt ∧ a2_4.toInt ≤ (11 : Int)) from by omega)) kmV_X4_isLonely mlX4_165 clX4 rfl 70 (Wd_at70 G g q I0 J0 R0 L0) ⟨(Nat.le_of_ble_eq_true rfl), (Nat.le_of_ble_eq_true rfl)⟩ hl.1 rfl (Nat.le_of_ble_eq_true rfl) dX4_lonelyPersons_20 (fun r3 u4 H locs hwr3 hP hD hS => ?_)
        have F0r3 := hwr3
        replace F0r3 : ((0 : Int) ≤ r3.toInt ∧ r3.toInt ≤ (1 : Int)) := F0r3
        refine lv_if_eq (tgt := 29) hx hb dX4_lonelyPersons_23 (by decide) (fun c5 => ?_) (fun c5 => ?_)
        · have gc5 : r3.toInt = 0 := congrArg Int32.toInt c5
          exact lab_29 a1_4 _ _ _ (show ((0 : Int) ≤ a2_4.toInt ∧ a2_4.toInt ≤ (11 : Int)) from by omega) hP hD hS (lv_sub hl [0, 1, 2] rfl)
        · have gc5 : ¬ (r3.toInt = 0) := fun q0 => c5 (Int32.toInt_inj.mp q0)
          obtain ⟨x6, ex6⟩ : ∃ y : Int32, y = a1_4 + 1 := ⟨_, rfl⟩
          refine lv_iinc (v := x6) (lv' := [(1, .int x6), (0, .ref (g 68)), (2, .int a2_4)]) hx hb dX4_lonelyPersons_26 hl (k := 1) rfl (by rw [ex6]; rfl) (by decide) rfl (fun ls hl => ?_)
          exact lab_29 x6 _ _ _ (show ((0 : Int) ≤ a2_4.toInt ∧ a2_4.toInt ≤ (11 : Int)) from by omega) hP hD hS (lv_sub hl [1, 0, 2] rfl)
  refine lv_iconst (v := 0) hx hb dX4_lonelyPersons_0 (by decide) ?_
  refine lv_istore_n (lv' := [(1, .int 0), (0, .ref (g 68))]) hx hb dX4_lonelyPersons_1 rfl hl (by decide) rfl (fun ls hl => ?_)
  refine lv_iconst (v := 0) hx hb dX4_lonelyPersons_2 (by decide) ?_
  refine lv_istore_n (lv' := [(2, .int 0), (1, .int 0), (0, .ref (g 68))]) hx hb dX4_lonelyPersons_3 rfl hl (by decide) rfl (fun ls hl => ?_)
  exact lab_4 13 0 0 _ _ _ (show (12 - 0) < ((13 : Nat) : Int) from by omega) (by decide) hP hD hS (lv_sub hl [2, 1, 0] rfl)
set_option maxHeartbeats 4000000 in
set_option maxRecDepth 100000 in
theorem s_X4_unmetTies (l : Launch) (G : Gx) (g q : Nat → Nat) (I0 : Nat → Int32) (J0 : Nat → Int64) (R0 : Nat → Nat → Int32) (L0 : Nat → Nat → Int64) (hvI : InvI Wd_lo Wd_hi I0) (hvR : InvR Wd_rl R0) (hq3 : q 3 = (g 11))   : CtI (S := Unit) l yX4_unmetTies cX4_unmetTies 3 (some .int) (rmD 3 0 0) G [.ref (g 68)] (Wd G g q I0 J0 R0 L0) (fun r _ => True) (fun _ => (Wd G g q I0 J0 R0 L0)) := by
  refine ctI_of (own := RX4) (by decide +kernel) rfl (Nat.le_of_ble_eq_true rfl) ?_
  intro p e s m below meth c A ls F hr hlk hnm hK hP hD hA hS hl
  have hx := F.1
  have hb := F.2.1
  have hown := F.2.2.2.1
  have hl : lv_has ls 3 [(0, .ref (g 68))] := hl
  obtain ⟨Q, hQ⟩ : ∃ Q : State → Prop, Q = MQ below (va_Qi (S := Unit) (fun r _ => True) (BX G A (fun _ => (Wd G g q I0 J0 R0 L0))) A) [.ref (g 68)].toArray s 0 0 A := ⟨_, rfl⟩
  rw [show (MQ below (va_Qi (S := Unit) (fun r _ => True) (BX G A (fun _ => (Wd G g q I0 J0 R0 L0))) A) [.ref (g 68)].toArray s (rmD 3 0 0).cells (rmD 3 0 0).slots A) = Q from hQ.symm]
  have lab_4 : ∀ (k_4 : Nat) (a1_4 : Int32) (a2_4 : Int32) (H : Heap) (locs : List Loc) (ls : Array Slot), ((30 - a2_4.toInt) < (k_4 : Int)) → ((0 : Int) ≤ a2_4.toInt ∧ a2_4.toInt ≤ (30 : Int)) → va_P G.1 vwCl (Wd G g q I0 J0 R0 L0) H → va_D A (Wd G g q I0 J0 R0 L0) → va_S A s.heap H locs → lv_has ls 3 [(0, .ref (g 68)), (1, .int a1_4), (2, .int a2_4)] → W p l e (rmD 3 0 0) s m [.ref (g 68)].toArray below meth c H locs 0 0 Q (F0 m 4 ls []) := by
    intro k_4
    induction k_4 with
    | zero =>
      intro a1_4 a2_4 H locs ls hm y0_4 hP hD hS hl
      exact absurd hm (by omega)
    | succ k_4 ih_4 =>
      intro a1_4 a2_4 H locs ls hm y0_4 hP hD hS hl
      have lab_26 : ∀ (a1_26 : Int32) (H : Heap) (locs : List Loc) (ls : Array Slot), ((0 : Int) ≤ a2_4.toInt ∧ a2_4.toInt ≤ (29 : Int)) → va_P G.1 vwCl (Wd G g q I0 J0 R0 L0) H → va_D A (Wd G g q I0 J0 R0 L0) → va_S A s.heap H locs → lv_has ls 3 [(0, .ref (g 68)), (1, .int a1_26), (2, .int a2_4)] → W p l e (rmD 3 0 0) s m [.ref (g 68)].toArray below meth c H locs 0 0 Q (F0 m 26 ls []) := by
        intro a1_26 H locs ls y0_26 hP hD hS hl
        obtain ⟨x1, ex1⟩ : ∃ y : Int32, y = a2_4 + 1 := ⟨_, rfl⟩
        have fx1 : x1.toInt = a2_4.toInt + (1 : Int) := by rw [ex1]; exact t_add (by show (-2147483648 : Int) ≤ a2_4.toInt + (1 : Int); omega) (by show a2_4.toInt + (1 : Int) ≤ 2147483647; omega)
        refine lv_iinc (v := x1) (lv' := [(2, .int x1), (0, .ref (g 68)), (1, .int a1_26)]) hx hb dX4_unmetTies_26 hl (k := 2) rfl (by rw [ex1]; rfl) (by decide) rfl (fun ls hl => ?_)
        refine lv_goto (tgt := 4) hx hb dX4_unmetTies_29 (by decide) ?_
        exact ih_4 a1_26 x1 _ _ _ (show (30 - x1.toInt) < (k_4 : Int) from by omega) (show ((0 : Int) ≤ x1.toInt ∧ x1.toInt ≤ (30 : Int)) from by omega) hP hD hS (lv_sub hl [1, 2, 0] rfl)
      refine lv_iload_n hx hb dX4_unmetTies_4 rfl (lv_at hl 2 rfl) ?_
      refine lv_aload_n hx hb dX4_unmetTies_5 rfl (lv_at hl 0 rfl) ?_
      refine g_get F hK hP 70 (Wd_at70 G g q I0 J0 R0 L0) clX4 0 (by decide) flX4_28 rfl dX4_unmetTies_6 ?_
      refine cst_r hq3 ?_
      refine g_get F hK hP 0 (Wd_at0 G g q I0 J0 R0 L0) clX2 7 (by decide) flX4_127 rfl dX4_unmetTies_9 ?_
      have w_I0_1 := rg (hvI 1 (by decide)) (0) (30) rfl rfl
      refine lv_icmp_ge (tgt := 32) hx hb dX4_unmetTies_12 (by decide) (fun c2 => ?_) (fun c2 => ?_)
      · have gc2 : (I0 1).toInt ≤ a2_4.toInt := (tle _ _).mp c2
        refine lv_iload_n hx hb dX4_unmetTies_32 rfl (lv_at hl 1 rfl) ?_
        rw [hQ]
        exact q_i F hr hlk () hP hD hS trivial dX4_unmetTies_33 (Nat.le_of_ble_eq_true rfl) (Nat.le_of_ble_eq_true rfl)
      · have gc2 : ¬ ((I0 1).toInt ≤ a2_4.toInt) := fun q0 => c2 ((tle _ _).mpr q0)
        refine lv_aload_n hx hb dX4_unmetTies_15 rfl (lv_at hl 0 rfl) ?_
        refine lv_iload_n hx hb dX4_unmetTies_16 rfl (lv_at hl 2 rfl) ?_
        refine wvi (As := [.int a2_4]) (rest := []) (b := (g 68)) (d := 2) F hK hP hD hS hA (s_X4_metDays l G g q I0 J0 R0 L0 hvI hvR hq3 a2_4 (show ((0 : Int) ≤ a2_4.toInt ∧ a2_4.toInt ≤ (29 : Int)) from by omega)) kmV_X4_metDays mlX4_133 clX4 rfl 70 (Wd_at70 G g q I0 J0 R0 L0) ⟨(Nat.le_of_ble_eq_true rfl), (Nat.le_of_ble_eq_true rfl)⟩ hl.1 rfl (Nat.le_of_ble_eq_true rfl) dX4_unmetTies_17 (fun r3 u4 H locs hwr3 hP hD hS => ?_)
        have F0r3 := hwr3
        replace F0r3 : ((0 : Int) ≤ r3.toInt ∧ r3.toInt ≤ (63 : Int)) := F0r3
        refine lv_if_ne (tgt := 26) hx hb dX4_unmetTies_20 (by decide) (fun c5 => ?_) (fun c5 => ?_)
        · have gc5 : ¬ (r3.toInt = 0) := fun q0 => c5 (Int32.toInt_inj.mp q0)
          exact lab_26 a1_4 _ _ _ (show ((0 : Int) ≤ a2_4.toInt ∧ a2_4.toInt ≤ (29 : Int)) from by omega) hP hD hS (lv_sub hl [0, 1, 2] rfl)
        · have gc5 : r3.toInt = 0 := congrArg Int32.toInt c5
          obtain ⟨x6, ex6⟩ : ∃ y : Int32, y = a1_4 + 1 := ⟨_, rfl⟩
          refine lv_iinc (v := x6) (lv' := [(1, .int x6), (0, .ref (g 68)), (2, .int a2_4)]) hx hb dX4_unmetTies_23 hl (k := 1) rfl (by rw [ex6]; rfl) (by decide) rfl (fun ls hl => ?_)
          exact lab_26 x6 _ _ _ (show ((0 : Int) ≤ a2_4.toInt ∧ a2_4.toInt ≤ (29 : Int)) from by omega) hP hD hS (lv_sub hl [1, 0, 2] rfl)
  refine lv_iconst (v := 0) hx hb dX4_unmetTies_0 (by decide) ?_
  refine lv_istore_n (lv' := [(1, .int 0), (0, .ref (g 68))]) hx hb dX4_unmetTies_1 rfl hl (by decide) rfl (fun ls hl => ?_)
  refine lv_iconst (v := 0) hx hb dX4_unmetTies_2 (by decide) ?_
  refine lv_istore_n (lv' := [(2, .int 0), (1, .int 0), (0, .ref (g 68))]) hx hb dX4_unmetTies_3 rfl hl (by decide) rfl (fun ls hl => ?_)
  exact lab_4 31 0 0 _ _ _ (show (30 - 0) < ((31 : Nat) : Int) from by omega) (by decide) hP hD hS (lv_sub hl [2, 1, 0] rfl)
set_option maxHeartbeats 4000000 in
set_option maxRecDepth 100000 in
theorem s_X11_should (l : Launch) (G : Gx) (g q : Nat → Nat) (I0 : Nat → Int32) (J0 : Nat → Int64) (R0 : Nat → Nat → Int32) (L0 : Nat → Nat → Int64) (hvI : InvI Wd_lo Wd_hi I0) (hvR : InvR Wd_rl R0) (hq3 : q 3 = (g 11)) (p1 : Int32)  : CtI (S := Unit) l yX11_should cX11_should 2 (some .int) (rmD 5 0 0) G [.ref (g 74), .int p1] (Wd G g q I0 J0 R0 L0) (fun r _ => True) (fun _ => (Wd G g q I0 J0 R0 L0)) := by
  refine ctI_of (own := RX11) (by decide +kernel) rfl (Nat.le_of_ble_eq_true rfl) ?_
  intro p e s m below meth c A ls F hr hlk hnm hK hP hD hA hS hl
  have hx := F.1
  have hb := F.2.1
  have hown := F.2.2.2.1
  have hl : lv_has ls 2 [(0, .ref (g 74)), (1, .int p1)] := hl
  obtain ⟨Q, hQ⟩ : ∃ Q : State → Prop, Q = MQ below (va_Qi (S := Unit) (fun r _ => True) (BX G A (fun _ => (Wd G g q I0 J0 R0 L0))) A) [.ref (g 74), .int p1].toArray s 0 0 A := ⟨_, rfl⟩
  rw [show (MQ below (va_Qi (S := Unit) (fun r _ => True) (BX G A (fun _ => (Wd G g q I0 J0 R0 L0))) A) [.ref (g 74), .int p1].toArray s (rmD 5 0 0).cells (rmD 5 0 0).slots A) = Q from hQ.symm]
  refine lv_iload_n hx hb dX11_should_0 rfl (lv_at hl 1 rfl) ?_
  by_cases h1 : p1 = 0
  · have gh1 : p1.toInt = 0 := congrArg Int32.toInt h1
    refine cst_i h1 ?_
    refine lv_tableIn (off := 27) (tgt := 28) hx hb dX11_should_1 (by decide) (by decide) rfl (by decide) ?_
    refine lv_aload_n hx hb dX11_should_28 rfl (lv_at hl 0 rfl) ?_
    refine g_get F hK hP 66 (Wd_at66 G g q I0 J0 R0 L0) clX11 4 (by decide) flX11_43 rfl dX11_should_29 ?_
    refine wvi (As := []) (rest := []) (b := (g 68)) (d := 3) F hK hP hD hS hA (s_X4_greatestUnmet l G g q I0 J0 R0 L0 hvI hvR hq3  ) kmV_X4_greatestUnmet mlX11_288 clX4 rfl 70 (Wd_at70 G g q I0 J0 R0 L0) ⟨(Nat.le_of_ble_eq_true rfl), (Nat.le_of_ble_eq_true rfl)⟩ hl.1 rfl (Nat.le_of_ble_eq_true rfl) dX11_should_32 (fun r2 u3 H locs hwr2 hP hD hS => ?_)
    have F0r2 := hwr2
    replace F0r2 : ((-1 : Int) ≤ r2.toInt ∧ r2.toInt ≤ (29 : Int)) := F0r2
    rw [hQ]
    exact q_i F hr hlk () hP hD hS trivial dX11_should_35 (Nat.le_of_ble_eq_true rfl) (Nat.le_of_ble_eq_true rfl)
  by_cases h4 : p1 = 1
  · have gh4 : p1.toInt = 1 := congrArg Int32.toInt h4
    refine cst_i h4 ?_
    refine lv_tableIn (off := 35) (tgt := 36) hx hb dX11_should_1 (by decide) (by decide) rfl (by decide) ?_
    refine lv_aload_n hx hb dX11_should_36 rfl (lv_at hl 0 rfl) ?_
    refine g_get F hK hP 66 (Wd_at66 G g q I0 J0 R0 L0) clX11 4 (by decide) flX11_43 rfl dX11_should_37 ?_
    refine wvi (As := []) (rest := []) (b := (g 68)) (d := 3) F hK hP hD hS hA (s_X4_unmetTies l G g q I0 J0 R0 L0 hvI hvR hq3  ) kmV_X4_unmetTies mlX11_291 clX4 rfl 70 (Wd_at70 G g q I0 J0 R0 L0) ⟨(Nat.le_of_ble_eq_true rfl), (Nat.le_of_ble_eq_true rfl)⟩ hl.1 rfl (Nat.le_of_ble_eq_true rfl) dX11_should_40 (fun r5 u6 H locs hwr5 hP hD hS => ?_)
    rw [hQ]
    exact q_i F hr hlk () hP hD hS trivial dX11_should_43 (Nat.le_of_ble_eq_true rfl) (Nat.le_of_ble_eq_true rfl)
  by_cases h7 : p1 = 2
  · have gh7 : p1.toInt = 2 := congrArg Int32.toInt h7
    refine cst_i h7 ?_
    refine lv_tableIn (off := 43) (tgt := 44) hx hb dX11_should_1 (by decide) (by decide) rfl (by decide) ?_
    refine lv_aload_n hx hb dX11_should_44 rfl (lv_at hl 0 rfl) ?_
    refine g_get F hK hP 66 (Wd_at66 G g q I0 J0 R0 L0) clX11 4 (by decide) flX11_43 rfl dX11_should_45 ?_
    refine wvi (As := []) (rest := []) (b := (g 68)) (d := 4) F hK hP hD hS hA (s_X4_lonelyPersons l G g q I0 J0 R0 L0 hvI hvR hq3  ) kmV_X4_lonelyPersons mlX11_294 clX4 rfl 70 (Wd_at70 G g q I0 J0 R0 L0) ⟨(Nat.le_of_ble_eq_true rfl), (Nat.le_of_ble_eq_true rfl)⟩ hl.1 rfl (Nat.le_of_ble_eq_true rfl) dX11_should_48 (fun r8 u9 H locs hwr8 hP hD hS => ?_)
    rw [hQ]
    exact q_i F hr hlk () hP hD hS trivial dX11_should_51 (Nat.le_of_ble_eq_true rfl) (Nat.le_of_ble_eq_true rfl)
  refine lv_tableOut (tgt := 52) hx hb dX11_should_1 (by have gh1 := lv_neT h1 (a := 0) rfl; have gh4 := lv_neT h4 (a := 1) rfl; have gh7 := lv_neT h7 (a := 2) rfl; omega) (by decide) ?_
  refine lv_iconst (v := (-1)) hx hb dX11_should_52 (by decide) ?_
  rw [hQ]
  exact q_i F hr hlk () hP hD hS trivial dX11_should_53 (Nat.le_of_ble_eq_true rfl) (Nat.le_of_ble_eq_true rfl)
set_option maxHeartbeats 4000000 in
set_option maxRecDepth 100000 in
theorem s_X8_isOwnerIn (l : Launch) (G : Gx) (g q : Nat → Nat) (I0 : Nat → Int32) (J0 : Nat → Int64) (R0 : Nat → Nat → Int32) (L0 : Nat → Nat → Int64) (hvI : InvI Wd_lo Wd_hi I0) (hvR : InvR Wd_rl R0) (hq3 : q 3 = (g 11)) (p1 : Int32) (p2 : Int32) (hp1 : ((0 : Int) ≤ p1.toInt ∧ p1.toInt ≤ (4 : Int))) (hp2 : ((0 : Int) ≤ p2.toInt ∧ p2.toInt ≤ (4 : Int))) : CtI (S := Unit) l yX8_isOwnerIn cX8_isOwnerIn 5 (some .boolean) (rmD 2 0 0) G [.ref (g 70), .int p1, .int p2] (Wd G g q I0 J0 R0 L0) (fun r _ => ((0 : Int) ≤ r.toInt ∧ r.toInt ≤ (1 : Int))) (fun _ => (Wd G g q I0 J0 R0 L0)) := by
  refine ctI_of (own := RX8) (by decide +kernel) rfl (Nat.le_of_ble_eq_true rfl) ?_
  intro p e s m below meth c A ls F hr hlk hnm hK hP hD hA hS hl
  have hx := F.1
  have hb := F.2.1
  have hown := F.2.2.2.1
  have hl : lv_has ls 5 [(0, .ref (g 70)), (1, .int p1), (2, .int p2)] := hl
  obtain ⟨Q, hQ⟩ : ∃ Q : State → Prop, Q = MQ below (va_Qi (S := Unit) (fun r _ => ((0 : Int) ≤ r.toInt ∧ r.toInt ≤ (1 : Int))) (BX G A (fun _ => (Wd G g q I0 J0 R0 L0))) A) [.ref (g 70), .int p1, .int p2].toArray s 0 0 A := ⟨_, rfl⟩
  rw [show (MQ below (va_Qi (S := Unit) (fun r _ => ((0 : Int) ≤ r.toInt ∧ r.toInt ≤ (1 : Int))) (BX G A (fun _ => (Wd G g q I0 J0 R0 L0))) A) [.ref (g 70), .int p1, .int p2].toArray s (rmD 2 0 0).cells (rmD 2 0 0).slots A) = Q from hQ.symm]
  have lab_11 : ∀ (k_11 : Nat) (a4_11 : Int32) (H : Heap) (locs : List Loc) (ls : Array Slot), ((12 - a4_11.toInt) < (k_11 : Int)) → ((0 : Int) ≤ a4_11.toInt ∧ a4_11.toInt ≤ (12 : Int)) → va_P G.1 vwCl (Wd G g q I0 J0 R0 L0) H → va_D A (Wd G g q I0 J0 R0 L0) → va_S A s.heap H locs → lv_has ls 5 [(0, .ref (g 70)), (1, .int p1), (2, .int p2), (3, .ref (g 11)), (4, .int a4_11)] → W p l e (rmD 2 0 0) s m [.ref (g 70), .int p1, .int p2].toArray below meth c H locs 0 0 Q (F0 m 11 ls []) := by
    intro k_11
    induction k_11 with
    | zero =>
      intro a4_11 H locs ls hm y0_11 hP hD hS hl
      exact absurd hm (by omega)
    | succ k_11 ih_11 =>
      intro a4_11 H locs ls hm y0_11 hP hD hS hl
      have lab_52 : ∀  (H : Heap) (locs : List Loc) (ls : Array Slot), ((0 : Int) ≤ a4_11.toInt ∧ a4_11.toInt ≤ (11 : Int)) → va_P G.1 vwCl (Wd G g q I0 J0 R0 L0) H → va_D A (Wd G g q I0 J0 R0 L0) → va_S A s.heap H locs → lv_has ls 5 [(0, .ref (g 70)), (1, .int p1), (2, .int p2), (3, .ref (g 11)), (4, .int a4_11)] → W p l e (rmD 2 0 0) s m [.ref (g 70), .int p1, .int p2].toArray below meth c H locs 0 0 Q (F0 m 52 ls []) := by
        intro H locs ls y0_52 hP hD hS hl
        obtain ⟨x1, ex1⟩ : ∃ y : Int32, y = a4_11 + 1 := ⟨_, rfl⟩
        have fx1 : x1.toInt = a4_11.toInt + (1 : Int) := by rw [ex1]; exact t_add (by show (-2147483648 : Int) ≤ a4_11.toInt + (1 : Int); omega) (by show a4_11.toInt + (1 : Int) ≤ 2147483647; omega)
        refine lv_iinc (v := x1) (lv' := [(4, .int x1), (0, .ref (g 70)), (1, .int p1), (2, .int p2), (3, .ref (g 11))]) hx hb dX8_isOwnerIn_52 hl (k := 4) rfl (by rw [ex1]; rfl) (by decide) rfl (fun ls hl => ?_)
        refine lv_goto (tgt := 11) hx hb dX8_isOwnerIn_55 (by decide) ?_
        exact ih_11 x1 _ _ _ (show (12 - x1.toInt) < (k_11 : Int) from by omega) (show ((0 : Int) ≤ x1.toInt ∧ x1.toInt ≤ (12 : Int)) from by omega) hP hD hS (lv_sub hl [1, 2, 3, 4, 0] rfl)
      refine lv_iload hx hb dX8_isOwnerIn_11 (lv_at hl 4 rfl) ?_
      refine lv_aload_n hx hb dX8_isOwnerIn_13 rfl (lv_at hl 3 rfl) ?_
      refine g_get F hK hP 0 (Wd_at0 G g q I0 J0 R0 L0) clX2 1 (by decide) flX8_46 rfl dX8_isOwnerIn_14 ?_
      refine g_get F hK hP 2 (Wd_at2 G g q I0 J0 R0 L0) clX3 0 (by decide) flX8_50 rfl dX8_isOwnerIn_17 ?_
      have w_I0_6 := rg (hvI 6 (by decide)) (0) (12) rfl rfl
      refine lv_icmp_ge (tgt := 58) hx hb dX8_isOwnerIn_20 (by decide) (fun c2 => ?_) (fun c2 => ?_)
      · have gc2 : (I0 6).toInt ≤ a4_11.toInt := (tle _ _).mp c2
        refine lv_iconst (v := 0) hx hb dX8_isOwnerIn_58 (by decide) ?_
        rw [hQ]
        exact q_z F hr hlk () hP hD hS (show ((0 : Int) ≤ 0 ∧ 0 ≤ (1 : Int)) from by omega) dX8_isOwnerIn_59 (Nat.le_of_ble_eq_true rfl) (Nat.le_of_ble_eq_true rfl) (nar01 (by decide))
      · have gc2 : ¬ ((I0 6).toInt ≤ a4_11.toInt) := fun q0 => c2 ((tle _ _).mpr q0)
        refine lv_aload_n hx hb dX8_isOwnerIn_23 rfl (lv_at hl 3 rfl) ?_
        refine g_get F hK hP 0 (Wd_at0 G g q I0 J0 R0 L0) clX2 1 (by decide) flX8_46 rfl dX8_isOwnerIn_24 ?_
        refine g_get F hK hP 2 (Wd_at2 G g q I0 J0 R0 L0) clX3 6 (by decide) flX8_57 rfl dX8_isOwnerIn_27 ?_
        refine lv_iload hx hb dX8_isOwnerIn_30 (lv_at hl 4 rfl) ?_
        refine g_iald F hK hP 14 (Wd_at14 G g q I0 J0 R0 L0) (in_of (by omega)) dX8_isOwnerIn_32 rfl ?_
        refine lv_topi (fun x3 ex3 => ?_)
        have gx3 : x3.toInt = (R0 10 (Int32.toNatClampNeg a4_11)).toInt := congrArg Int32.toInt (ex3)
        have fx3 : ((-1 : Int) ≤ x3.toInt ∧ x3.toInt ≤ (4 : Int)) := by rw [ex3]; exact hvR 10 (by decide) _ (clamp_lt (n := 12) (in_of (by omega)))
        refine lv_iload_n hx hb dX8_isOwnerIn_33 rfl (lv_at hl 1 rfl) ?_
        refine lv_icmp_ne (tgt := 52) hx hb dX8_isOwnerIn_34 (by decide) (fun c4 => ?_) (fun c4 => ?_)
        · have gc4 : ¬ (x3.toInt = p1.toInt) := fun q0 => c4 (Int32.toInt_inj.mp q0)
          exact lab_52  _ _ _ (show ((0 : Int) ≤ a4_11.toInt ∧ a4_11.toInt ≤ (11 : Int)) from by omega) hP hD hS (lv_sub hl [0, 1, 2, 3, 4] rfl)
        · have gc4 : x3.toInt = p1.toInt := congrArg Int32.toInt c4
          refine lv_aload_n hx hb dX8_isOwnerIn_37 rfl (lv_at hl 0 rfl) ?_
          refine g_get F hK hP 72 (Wd_at72 G g q I0 J0 R0 L0) clX8 0 (by decide) flX8_18 rfl dX8_isOwnerIn_38 ?_
          refine lv_iload hx hb dX8_isOwnerIn_41 (lv_at hl 4 rfl) ?_
          refine lv_iload_n hx hb dX8_isOwnerIn_43 rfl (lv_at hl 2 rfl) ?_
          refine wvi (As := [.int a4_11, .int p2]) (rest := []) (b := (g 68)) (d := 1) F hK hP hD hS hA (s_X4_isIn l G g q I0 J0 R0 L0 hvI hvR hq3 a4_11 p2 (show ((0 : Int) ≤ a4_11.toInt ∧ a4_11.toInt ≤ (11 : Int)) from by omega) (show ((0 : Int) ≤ p2.toInt ∧ p2.toInt ≤ (4 : Int)) from by omega)) kmV_X4_isIn mlX8_53 clX4 rfl 70 (Wd_at70 G g q I0 J0 R0 L0) ⟨(Nat.le_of_ble_eq_true rfl), (Nat.le_of_ble_eq_true rfl)⟩ hl.1 rfl (Nat.le_of_ble_eq_true rfl) dX8_isOwnerIn_44 (fun r5 u6 H locs hwr5 hP hD hS => ?_)
          have F0r5 := hwr5
          replace F0r5 : ((0 : Int) ≤ r5.toInt ∧ r5.toInt ≤ (1 : Int)) := F0r5
          refine lv_if_eq (tgt := 52) hx hb dX8_isOwnerIn_47 (by decide) (fun c7 => ?_) (fun c7 => ?_)
          · have gc7 : r5.toInt = 0 := congrArg Int32.toInt c7
            exact lab_52  _ _ _ (show ((0 : Int) ≤ a4_11.toInt ∧ a4_11.toInt ≤ (11 : Int)) from by omega) hP hD hS (lv_sub hl [0, 1, 2, 3, 4] rfl)
          · have gc7 : ¬ (r5.toInt = 0) := fun q0 => c7 (Int32.toInt_inj.mp q0)
            refine lv_iconst (v := 1) hx hb dX8_isOwnerIn_50 (by decide) ?_
            rw [hQ]
            exact q_z F hr hlk () hP hD hS (show ((0 : Int) ≤ 1 ∧ 1 ≤ (1 : Int)) from by omega) dX8_isOwnerIn_51 (Nat.le_of_ble_eq_true rfl) (Nat.le_of_ble_eq_true rfl) (nar01 (by decide))
  refine lv_aload_n hx hb dX8_isOwnerIn_0 rfl (lv_at hl 0 rfl) ?_
  refine g_get F hK hP 72 (Wd_at72 G g q I0 J0 R0 L0) clX8 0 (by decide) flX8_18 rfl dX8_isOwnerIn_1 ?_
  refine g_get F hK hP 70 (Wd_at70 G g q I0 J0 R0 L0) clX4 0 (by decide) flX8_22 rfl dX8_isOwnerIn_4 ?_
  refine cst_r hq3 ?_
  refine lv_astore_n (lv' := [(3, .ref (g 11)), (0, .ref (g 70)), (1, .int p1), (2, .int p2)]) hx hb dX8_isOwnerIn_7 rfl hl (by decide) rfl (fun ls hl => ?_)
  refine lv_iconst (v := 0) hx hb dX8_isOwnerIn_8 (by decide) ?_
  refine lv_istore (lv' := [(4, .int 0), (3, .ref (g 11)), (0, .ref (g 70)), (1, .int p1), (2, .int p2)]) hx hb dX8_isOwnerIn_9 hl (by decide) rfl (fun ls hl => ?_)
  exact lab_11 13 0 _ _ _ (show (12 - 0) < ((13 : Nat) : Int) from by omega) (by decide) hP hD hS (lv_sub hl [2, 3, 4, 1, 0] rfl)
set_option maxHeartbeats 4000000 in
set_option maxRecDepth 100000 in
theorem s_X8_dearestToShut (l : Launch) (G : Gx) (g q : Nat → Nat) (I0 : Nat → Int32) (J0 : Nat → Int64) (R0 : Nat → Nat → Int32) (L0 : Nat → Nat → Int64) (hvI : InvI Wd_lo Wd_hi I0) (hvR : InvR Wd_rl R0) (hq3 : q 3 = (g 11)) (p1 : Int32) (hp1 : ((0 : Int) ≤ p1.toInt ∧ p1.toInt ≤ (4 : Int))) : CtI (S := Unit) l yX8_dearestToShut cX8_dearestToShut 8 (some .int) (rmD 3 0 0) G [.ref (g 70), .int p1] (Wd G g q I0 J0 R0 L0) (fun r _ => ((-1 : Int) ≤ r.toInt ∧ r.toInt ≤ (4 : Int))) (fun _ => (Wd G g q I0 J0 R0 L0)) := by
  refine ctI_of (own := RX8) (by decide +kernel) rfl (Nat.le_of_ble_eq_true rfl) ?_
  intro p e s m below meth c A ls F hr hlk hnm hK hP hD hA hS hl
  have hx := F.1
  have hb := F.2.1
  have hown := F.2.2.2.1
  have hl : lv_has ls 8 [(0, .ref (g 70)), (1, .int p1)] := hl
  obtain ⟨Q, hQ⟩ : ∃ Q : State → Prop, Q = MQ below (va_Qi (S := Unit) (fun r _ => ((-1 : Int) ≤ r.toInt ∧ r.toInt ≤ (4 : Int))) (BX G A (fun _ => (Wd G g q I0 J0 R0 L0))) A) [.ref (g 70), .int p1].toArray s 0 0 A := ⟨_, rfl⟩
  rw [show (MQ below (va_Qi (S := Unit) (fun r _ => ((-1 : Int) ≤ r.toInt ∧ r.toInt ≤ (4 : Int))) (BX G A (fun _ => (Wd G g q I0 J0 R0 L0))) A) [.ref (g 70), .int p1].toArray s (rmD 3 0 0).cells (rmD 3 0 0).slots A) = Q from hQ.symm]
  have lab_40 : ∀ (k_40 : Nat) (a3_40 : Int32) (a4_40 : Int32) (a5_40 : Int32) (a6_40 : Int32) (H : Heap) (locs : List Loc) (ls : Array Slot), ((5 - a6_40.toInt) < (k_40 : Int)) → ((-1 : Int) ≤ a5_40.toInt ∧ a5_40.toInt ≤ (4 : Int)) → ((0 : Int) ≤ a6_40.toInt ∧ a6_40.toInt ≤ (5 : Int)) → va_P G.1 vwCl (Wd G g q I0 J0 R0 L0) H → va_D A (Wd G g q I0 J0 R0 L0) → va_S A s.heap H locs → lv_has ls 8 [(0, .ref (g 70)), (1, .int p1), (2, .ref (g 11)), (3, .int a3_40), (4, .int a4_40), (5, .int a5_40), (6, .int a6_40)] → W p l e (rmD 3 0 0) s m [.ref (g 70), .int p1].toArray below meth c H locs 0 0 Q (F0 m 40 ls []) := by
    intro k_40
    induction k_40 with
    | zero =>
      intro a3_40 a4_40 a5_40 a6_40 H locs ls hm y0_40 y1_40 hP hD hS hl
      exact absurd hm (by omega)
    | succ k_40 ih_40 =>
      intro a3_40 a4_40 a5_40 a6_40 H locs ls hm y0_40 y1_40 hP hD hS hl
      have lab_127 : ∀ (a5_127 : Int32) (H : Heap) (locs : List Loc) (ls : Array Slot), ((-1 : Int) ≤ a5_127.toInt ∧ a5_127.toInt ≤ (4 : Int)) → ((0 : Int) ≤ a6_40.toInt ∧ a6_40.toInt ≤ (4 : Int)) → va_P G.1 vwCl (Wd G g q I0 J0 R0 L0) H → va_D A (Wd G g q I0 J0 R0 L0) → va_S A s.heap H locs → lv_has ls 8 [(0, .ref (g 70)), (1, .int p1), (2, .ref (g 11)), (3, .int a3_40), (4, .int a4_40), (5, .int a5_127), (6, .int a6_40)] → W p l e (rmD 3 0 0) s m [.ref (g 70), .int p1].toArray below meth c H locs 0 0 Q (F0 m 127 ls []) := by
        intro a5_127 H locs ls y0_127 y1_127 hP hD hS hl
        obtain ⟨x1, ex1⟩ : ∃ y : Int32, y = a6_40 + 1 := ⟨_, rfl⟩
        have fx1 : x1.toInt = a6_40.toInt + (1 : Int) := by rw [ex1]; exact t_add (by show (-2147483648 : Int) ≤ a6_40.toInt + (1 : Int); omega) (by show a6_40.toInt + (1 : Int) ≤ 2147483647; omega)
        refine lv_iinc (v := x1) (lv' := [(6, .int x1), (0, .ref (g 70)), (1, .int p1), (2, .ref (g 11)), (3, .int a3_40), (4, .int a4_40), (5, .int a5_127)]) hx hb dX8_dearestToShut_127 hl (k := 6) rfl (by rw [ex1]; rfl) (by decide) rfl (fun ls hl => ?_)
        refine lv_goto (tgt := 40) hx hb dX8_dearestToShut_130 (by decide) ?_
        exact ih_40 a3_40 a4_40 a5_127 x1 _ _ _ (show (5 - x1.toInt) < (k_40 : Int) from by omega) (show ((-1 : Int) ≤ a5_127.toInt ∧ a5_127.toInt ≤ (4 : Int)) from by omega) (show ((0 : Int) ≤ x1.toInt ∧ x1.toInt ≤ (5 : Int)) from by omega) hP hD hS (lv_sub hl [1, 2, 3, 4, 5, 6, 0] rfl)
      have lab_123 : ∀  (H : Heap) (locs : List Loc) (ls : Array Slot), ((0 : Int) ≤ a6_40.toInt ∧ a6_40.toInt ≤ (4 : Int)) → va_P G.1 vwCl (Wd G g q I0 J0 R0 L0) H → va_D A (Wd G g q I0 J0 R0 L0) → va_S A s.heap H locs → lv_has ls 8 [(0, .ref (g 70)), (1, .int p1), (2, .ref (g 11)), (3, .int a3_40), (4, .int a4_40), (6, .int a6_40)] → W p l e (rmD 3 0 0) s m [.ref (g 70), .int p1].toArray below meth c H locs 0 0 Q (F0 m 123 ls []) := by
        intro H locs ls y0_123 hP hD hS hl
        refine lv_iload hx hb dX8_dearestToShut_123 (lv_at hl 5 rfl) ?_
        refine lv_istore (lv' := [(5, .int a6_40), (0, .ref (g 70)), (1, .int p1), (2, .ref (g 11)), (3, .int a3_40), (4, .int a4_40), (6, .int a6_40)]) hx hb dX8_dearestToShut_125 hl (by decide) rfl (fun ls hl => ?_)
        exact lab_127 a6_40 _ _ _ (show ((-1 : Int) ≤ a6_40.toInt ∧ a6_40.toInt ≤ (4 : Int)) from by omega) (show ((0 : Int) ≤ a6_40.toInt ∧ a6_40.toInt ≤ (4 : Int)) from by omega) hP hD hS (lv_sub hl [1, 2, 3, 4, 5, 0, 6] rfl)
      refine lv_iload hx hb dX8_dearestToShut_40 (lv_at hl 6 rfl) ?_
      refine lv_aload_n hx hb dX8_dearestToShut_42 rfl (lv_at hl 2 rfl) ?_
      refine g_get F hK hP 0 (Wd_at0 G g q I0 J0 R0 L0) clX2 0 (by decide) flX8_28 rfl dX8_dearestToShut_43 ?_
      refine g_get F hK hP 1 (Wd_at1 G g q I0 J0 R0 L0) clX1 0 (by decide) flX8_34 rfl dX8_dearestToShut_46 ?_
      have w_I0_3 := rg (hvI 3 (by decide)) (0) (5) rfl rfl
      refine lv_icmp_ge (tgt := 133) hx hb dX8_dearestToShut_49 (by decide) (fun c2 => ?_) (fun c2 => ?_)
      · have gc2 : (I0 3).toInt ≤ a6_40.toInt := (tle _ _).mp c2
        refine lv_iload hx hb dX8_dearestToShut_133 (lv_at hl 5 rfl) ?_
        rw [hQ]
        exact q_i F hr hlk () hP hD hS (show ((-1 : Int) ≤ a5_40.toInt ∧ a5_40.toInt ≤ (4 : Int)) from by omega) dX8_dearestToShut_135 (Nat.le_of_ble_eq_true rfl) (Nat.le_of_ble_eq_true rfl)
      · have gc2 : ¬ ((I0 3).toInt ≤ a6_40.toInt) := fun q0 => c2 ((tle _ _).mpr q0)
        refine lv_iload_n hx hb dX8_dearestToShut_52 rfl (lv_at hl 3 rfl) ?_
        refine lv_aload_n hx hb dX8_dearestToShut_53 rfl (lv_at hl 2 rfl) ?_
        refine g_get F hK hP 0 (Wd_at0 G g q I0 J0 R0 L0) clX2 0 (by decide) flX8_28 rfl dX8_dearestToShut_54 ?_
        refine g_get F hK hP 1 (Wd_at1 G g q I0 J0 R0 L0) clX1 4 (by decide) flX8_40 rfl dX8_dearestToShut_57 ?_
        refine lv_iload hx hb dX8_dearestToShut_60 (lv_at hl 6 rfl) ?_
        refine g_iald F hK hP 5 (Wd_at5 G g q I0 J0 R0 L0) (in_of (by omega)) dX8_dearestToShut_62 rfl ?_
        refine lv_topi (fun x3 ex3 => ?_)
        have gx3 : x3.toInt = (R0 1 (Int32.toNatClampNeg a6_40)).toInt := congrArg Int32.toInt (ex3)
        refine lv_aload_n hx hb dX8_dearestToShut_63 rfl (lv_at hl 2 rfl) ?_
        refine g_get F hK hP 0 (Wd_at0 G g q I0 J0 R0 L0) clX2 0 (by decide) flX8_28 rfl dX8_dearestToShut_64 ?_
        refine g_get F hK hP 1 (Wd_at1 G g q I0 J0 R0 L0) clX1 7 (by decide) flX8_43 rfl dX8_dearestToShut_67 ?_
        refine lv_iload hx hb dX8_dearestToShut_70 (lv_at hl 6 rfl) ?_
        refine g_iald F hK hP 8 (Wd_at8 G g q I0 J0 R0 L0) (in_of (by omega)) dX8_dearestToShut_72 rfl ?_
        refine lv_topi (fun x4 ex4 => ?_)
        have gx4 : x4.toInt = (R0 4 (Int32.toNatClampNeg a6_40)).toInt := congrArg Int32.toInt (ex4)
        refine lv_isub hx hb dX8_dearestToShut_73 ?_
        refine lv_topi (fun x5 ex5 => ?_)
        refine lv_isub hx hb dX8_dearestToShut_74 ?_
        refine lv_topi (fun x6 ex6 => ?_)
        refine lv_istore (lv' := [(7, .int x6), (0, .ref (g 70)), (1, .int p1), (2, .ref (g 11)), (3, .int a3_40), (4, .int a4_40), (5, .int a5_40), (6, .int a6_40)]) hx hb dX8_dearestToShut_75 hl (by decide) rfl (fun ls hl => ?_)
        refine lv_iload hx hb dX8_dearestToShut_77 (lv_at hl 0 rfl) ?_
        refine lv_iload hx hb dX8_dearestToShut_79 (lv_at hl 5 rfl) ?_
        refine lv_icmp_lt (tgt := 127) hx hb dX8_dearestToShut_81 (by decide) (fun c7 => ?_) (fun c7 => ?_)
        · have gc7 : x6.toInt < a4_40.toInt := (tlt _ _).mp c7
          exact lab_127 a5_40 _ _ _ (show ((-1 : Int) ≤ a5_40.toInt ∧ a5_40.toInt ≤ (4 : Int)) from by omega) (show ((0 : Int) ≤ a6_40.toInt ∧ a6_40.toInt ≤ (4 : Int)) from by omega) hP hD hS (lv_sub hl [1, 2, 3, 4, 5, 6, 7] rfl)
        · have gc7 : ¬ (x6.toInt < a4_40.toInt) := fun q0 => c7 ((tlt _ _).mpr q0)
          refine lv_aload_n hx hb dX8_dearestToShut_84 rfl (lv_at hl 1 rfl) ?_
          refine lv_iload hx hb dX8_dearestToShut_85 (lv_at hl 7 rfl) ?_
          refine lv_iload_n hx hb dX8_dearestToShut_87 rfl (lv_at hl 2 rfl) ?_
          refine wvi (As := [.int a6_40, .int p1]) (rest := []) (b := (g 70)) (d := 2) F hK hP hD hS hA (s_X8_isOwnerIn l G g q I0 J0 R0 L0 hvI hvR hq3 a6_40 p1 (show ((0 : Int) ≤ a6_40.toInt ∧ a6_40.toInt ≤ (4 : Int)) from by omega) (show ((0 : Int) ≤ p1.toInt ∧ p1.toInt ≤ (4 : Int)) from by omega)) kmV_X8_isOwnerIn mlX8_109 clX8 rfl 72 (Wd_at72 G g q I0 J0 R0 L0) ⟨(Nat.le_of_ble_eq_true rfl), (Nat.le_of_ble_eq_true rfl)⟩ hl.1 rfl (Nat.le_of_ble_eq_true rfl) dX8_dearestToShut_88 (fun r8 u9 H locs hwr8 hP hD hS => ?_)
          have F0r8 := hwr8
          replace F0r8 : ((0 : Int) ≤ r8.toInt ∧ r8.toInt ≤ (1 : Int)) := F0r8
          refine lv_if_ne (tgt := 127) hx hb dX8_dearestToShut_91 (by decide) (fun c10 => ?_) (fun c10 => ?_)
          · have gc10 : ¬ (r8.toInt = 0) := fun q0 => c10 (Int32.toInt_inj.mp q0)
            exact lab_127 a5_40 _ _ _ (show ((-1 : Int) ≤ a5_40.toInt ∧ a5_40.toInt ≤ (4 : Int)) from by omega) (show ((0 : Int) ≤ a6_40.toInt ∧ a6_40.toInt ≤ (4 : Int)) from by omega) hP hD hS (lv_sub hl [1, 2, 3, 4, 5, 6, 7] rfl)
          · have gc10 : r8.toInt = 0 := congrArg Int32.toInt c10
            refine lv_iload hx hb dX8_dearestToShut_94 (lv_at hl 6 rfl) ?_
            refine lv_iconst (v := (-1)) hx hb dX8_dearestToShut_96 (by decide) ?_
            refine lv_icmp_eq (tgt := 123) hx hb dX8_dearestToShut_97 (by decide) (fun c11 => ?_) (fun c11 => ?_)
            · have gc11 : a5_40.toInt = (-1) := congrArg Int32.toInt c11
              exact lab_123  _ _ _ (show ((0 : Int) ≤ a6_40.toInt ∧ a6_40.toInt ≤ (4 : Int)) from by omega) hP hD hS (lv_sub hl [1, 2, 3, 4, 5, 7] rfl)
            · have gc11 : ¬ (a5_40.toInt = (-1)) := fun q0 => c11 (Int32.toInt_inj.mp q0)
              refine lv_aload_n hx hb dX8_dearestToShut_100 rfl (lv_at hl 3 rfl) ?_
              refine g_get F hK hP 0 (Wd_at0 G g q I0 J0 R0 L0) clX2 0 (by decide) flX8_28 rfl dX8_dearestToShut_101 ?_
              refine g_get F hK hP 1 (Wd_at1 G g q I0 J0 R0 L0) clX1 6 (by decide) flX8_112 rfl dX8_dearestToShut_104 ?_
              refine lv_iload hx hb dX8_dearestToShut_107 (lv_at hl 7 rfl) ?_
              refine g_iald F hK hP 7 (Wd_at7 G g q I0 J0 R0 L0) (in_of (by omega)) dX8_dearestToShut_109 rfl ?_
              refine lv_topi (fun x12 ex12 => ?_)
              have gx12 : x12.toInt = (R0 3 (Int32.toNatClampNeg a6_40)).toInt := congrArg Int32.toInt (ex12)
              refine lv_aload_n hx hb dX8_dearestToShut_110 rfl (lv_at hl 3 rfl) ?_
              refine g_get F hK hP 0 (Wd_at0 G g q I0 J0 R0 L0) clX2 0 (by decide) flX8_28 rfl dX8_dearestToShut_111 ?_
              refine g_get F hK hP 1 (Wd_at1 G g q I0 J0 R0 L0) clX1 6 (by decide) flX8_112 rfl dX8_dearestToShut_114 ?_
              refine lv_iload hx hb dX8_dearestToShut_117 (lv_at hl 6 rfl) ?_
              refine g_iald F hK hP 7 (Wd_at7 G g q I0 J0 R0 L0) (in_of (by omega)) dX8_dearestToShut_119 rfl ?_
              refine lv_topi (fun x13 ex13 => ?_)
              have gx13 : x13.toInt = (R0 3 (Int32.toNatClampNeg a5_40)).toInt := congrArg Int32.toInt (ex13)
              refine lv_icmp_le (tgt := 127) hx hb dX8_dearestToShut_120 (by decide) (fun c14 => ?_) (fun c14 => ?_)
              · have gc14 : x12.toInt ≤ x13.toInt := (tle _ _).mp c14
                exact lab_127 a5_40 _ _ _ (show ((-1 : Int) ≤ a5_40.toInt ∧ a5_40.toInt ≤ (4 : Int)) from by omega) (show ((0 : Int) ≤ a6_40.toInt ∧ a6_40.toInt ≤ (4 : Int)) from by omega) hP hD hS (lv_sub hl [1, 2, 3, 4, 5, 6, 7] rfl)
              · have gc14 : ¬ (x12.toInt ≤ x13.toInt) := fun q0 => c14 ((tle _ _).mpr q0)
                exact lab_123  _ _ _ (show ((0 : Int) ≤ a6_40.toInt ∧ a6_40.toInt ≤ (4 : Int)) from by omega) hP hD hS (lv_sub hl [1, 2, 3, 4, 5, 7] rfl)
  refine lv_aload_n hx hb dX8_dearestToShut_0 rfl (lv_at hl 0 rfl) ?_
  refine g_get F hK hP 72 (Wd_at72 G g q I0 J0 R0 L0) clX8 0 (by decide) flX8_18 rfl dX8_dearestToShut_1 ?_
  refine g_get F hK hP 70 (Wd_at70 G g q I0 J0 R0 L0) clX4 0 (by decide) flX8_22 rfl dX8_dearestToShut_4 ?_
  refine cst_r hq3 ?_
  refine lv_astore_n (lv' := [(2, .ref (g 11)), (0, .ref (g 70)), (1, .int p1)]) hx hb dX8_dearestToShut_7 rfl hl (by decide) rfl (fun ls hl => ?_)
  refine lv_aload_n hx hb dX8_dearestToShut_8 rfl (lv_at hl 0 rfl) ?_
  refine g_get F hK hP 0 (Wd_at0 G g q I0 J0 R0 L0) clX2 0 (by decide) flX8_28 rfl dX8_dearestToShut_9 ?_
  refine g_get F hK hP 1 (Wd_at1 G g q I0 J0 R0 L0) clX1 1 (by decide) flX8_99 rfl dX8_dearestToShut_12 ?_
  refine lv_aload_n hx hb dX8_dearestToShut_15 rfl (lv_at hl 0 rfl) ?_
  refine g_get F hK hP 0 (Wd_at0 G g q I0 J0 R0 L0) clX2 0 (by decide) flX8_28 rfl dX8_dearestToShut_16 ?_
  refine g_get F hK hP 1 (Wd_at1 G g q I0 J0 R0 L0) clX1 2 (by decide) flX8_102 rfl dX8_dearestToShut_19 ?_
  refine lv_isub hx hb dX8_dearestToShut_22 ?_
  refine lv_topi (fun x15 ex15 => ?_)
  refine lv_istore_n (lv' := [(3, .int x15), (2, .ref (g 11)), (0, .ref (g 70)), (1, .int p1)]) hx hb dX8_dearestToShut_23 rfl hl (by decide) rfl (fun ls hl => ?_)
  refine lv_aload_n hx hb dX8_dearestToShut_24 rfl (lv_at hl 2 rfl) ?_
  refine g_get F hK hP 72 (Wd_at72 G g q I0 J0 R0 L0) clX8 0 (by decide) flX8_18 rfl dX8_dearestToShut_25 ?_
  refine lv_iload_n hx hb dX8_dearestToShut_28 rfl (lv_at hl 3 rfl) ?_
  refine wvi (As := [.int p1]) (rest := []) (b := (g 68)) (d := 1) F hK hP hD hS hA (s_X4_inWithoutOwn l G g q I0 J0 R0 L0 hvI hvR hq3 p1 (show ((0 : Int) ≤ p1.toInt ∧ p1.toInt ≤ (4 : Int)) from by omega)) kmV_X4_inWithoutOwn mlX8_105 clX4 rfl 70 (Wd_at70 G g q I0 J0 R0 L0) ⟨(Nat.le_of_ble_eq_true rfl), (Nat.le_of_ble_eq_true rfl)⟩ hl.1 rfl (Nat.le_of_ble_eq_true rfl) dX8_dearestToShut_29 (fun r16 u17 H locs hwr16 hP hD hS => ?_)
  refine lv_istore (lv' := [(4, .int r16), (3, .int x15), (2, .ref (g 11)), (0, .ref (g 70)), (1, .int p1)]) hx hb dX8_dearestToShut_32 hl (by decide) rfl (fun ls hl => ?_)
  refine lv_iconst (v := (-1)) hx hb dX8_dearestToShut_34 (by decide) ?_
  refine lv_istore (lv' := [(5, .int (-1)), (4, .int r16), (3, .int x15), (2, .ref (g 11)), (0, .ref (g 70)), (1, .int p1)]) hx hb dX8_dearestToShut_35 hl (by decide) rfl (fun ls hl => ?_)
  refine lv_iconst (v := 0) hx hb dX8_dearestToShut_37 (by decide) ?_
  refine lv_istore (lv' := [(6, .int 0), (5, .int (-1)), (4, .int r16), (3, .int x15), (2, .ref (g 11)), (0, .ref (g 70)), (1, .int p1)]) hx hb dX8_dearestToShut_38 hl (by decide) rfl (fun ls hl => ?_)
  exact lab_40 6 x15 r16 ((-1)) 0 _ _ _ (show (5 - 0) < ((6 : Nat) : Int) from by omega) (by decide) (by decide) hP hD hS (lv_sub hl [5, 6, 4, 3, 2, 1, 0] rfl)
set_option maxHeartbeats 4000000 in
set_option maxRecDepth 100000 in
theorem s_X11_shut (l : Launch) (G : Gx) (g q : Nat → Nat) (I0 : Nat → Int32) (J0 : Nat → Int64) (R0 : Nat → Nat → Int32) (L0 : Nat → Nat → Int64) (hvI : InvI Wd_lo Wd_hi I0) (hvR : InvR Wd_rl R0) (hq3 : q 3 = (g 11)) (p1 : Int32)  : CtI (S := Unit) l yX11_shut cX11_shut 2 (some .int) (rmD 4 0 0) G [.ref (g 74), .int p1] (Wd G g q I0 J0 R0 L0) (fun r _ => ((-1 : Int) ≤ r.toInt ∧ r.toInt ≤ (4 : Int))) (fun _ => (Wd G g q I0 J0 R0 L0)) := by
  refine ctI_of (own := RX11) (by decide +kernel) rfl (Nat.le_of_ble_eq_true rfl) ?_
  intro p e s m below meth c A ls F hr hlk hnm hK hP hD hA hS hl
  have hx := F.1
  have hb := F.2.1
  have hown := F.2.2.2.1
  have hl : lv_has ls 2 [(0, .ref (g 74)), (1, .int p1)] := hl
  obtain ⟨Q, hQ⟩ : ∃ Q : State → Prop, Q = MQ below (va_Qi (S := Unit) (fun r _ => ((-1 : Int) ≤ r.toInt ∧ r.toInt ≤ (4 : Int))) (BX G A (fun _ => (Wd G g q I0 J0 R0 L0))) A) [.ref (g 74), .int p1].toArray s 0 0 A := ⟨_, rfl⟩
  rw [show (MQ below (va_Qi (S := Unit) (fun r _ => ((-1 : Int) ≤ r.toInt ∧ r.toInt ≤ (4 : Int))) (BX G A (fun _ => (Wd G g q I0 J0 R0 L0))) A) [.ref (g 74), .int p1].toArray s (rmD 4 0 0).cells (rmD 4 0 0).slots A) = Q from hQ.symm]
  refine lv_iload_n hx hb dX11_shut_0 rfl (lv_at hl 1 rfl) ?_
  refine w0i (As := [.int p1]) (rest := []) (d := 2) F hK hP hD hS hA (s_X11_isDay l G  p1 ) kmS_X11_isDay mlX11_230 ⟨(Nat.le_of_ble_eq_true rfl), (Nat.le_of_ble_eq_true rfl)⟩ hl.1 rfl (Nat.le_of_ble_eq_true rfl) dX11_shut_1 (fun r1 u2 H locs hwr1 hP hD hS => ?_)
  obtain ⟨F0r1, F1r1⟩ := hwr1
  replace F0r1 : ((0 : Int) ≤ r1.toInt ∧ r1.toInt ≤ (1 : Int)) := F0r1
  replace F1r1 : (r1.toInt = 1 → (0 ≤ p1.toInt ∧ p1.toInt ≤ 4)) := F1r1
  refine lv_if_eq (tgt := 18) hx hb dX11_shut_4 (by decide) (fun c3 => ?_) (fun c3 => ?_)
  · have gc3 : r1.toInt = 0 := congrArg Int32.toInt c3
    refine lv_iconst (v := (-1)) hx hb dX11_shut_18 (by decide) ?_
    rw [hQ]
    exact q_i F hr hlk () hP hD hS (show ((-1 : Int) ≤ (-1) ∧ (-1) ≤ (4 : Int)) from by omega) dX11_shut_19 (Nat.le_of_ble_eq_true rfl) (Nat.le_of_ble_eq_true rfl)
  · have gc3 : ¬ (r1.toInt = 0) := fun q0 => c3 (Int32.toInt_inj.mp q0)
    refine lv_aload_n hx hb dX11_shut_7 rfl (lv_at hl 0 rfl) ?_
    refine g_get F hK hP 66 (Wd_at66 G g q I0 J0 R0 L0) clX11 6 (by decide) flX11_59 rfl dX11_shut_8 ?_
    refine lv_iload_n hx hb dX11_shut_11 rfl (lv_at hl 1 rfl) ?_
    refine wvi (As := [.int p1]) (rest := []) (b := (g 70)) (d := 3) F hK hP hD hS hA (s_X8_dearestToShut l G g q I0 J0 R0 L0 hvI hvR hq3 p1 (show ((0 : Int) ≤ p1.toInt ∧ p1.toInt ≤ (4 : Int)) from by omega)) kmV_X8_dearestToShut mlX11_361 clX8 rfl 72 (Wd_at72 G g q I0 J0 R0 L0) ⟨(Nat.le_of_ble_eq_true rfl), (Nat.le_of_ble_eq_true rfl)⟩ hl.1 rfl (Nat.le_of_ble_eq_true rfl) dX11_shut_12 (fun r4 u5 H locs hwr4 hP hD hS => ?_)
    have F0r4 := hwr4
    replace F0r4 : ((-1 : Int) ≤ r4.toInt ∧ r4.toInt ≤ (4 : Int)) := F0r4
    refine lv_goto (tgt := 19) hx hb dX11_shut_15 (by decide) ?_
    rw [hQ]
    exact q_i F hr hlk () hP hD hS (show ((-1 : Int) ≤ r4.toInt ∧ r4.toInt ≤ (4 : Int)) from by omega) dX11_shut_19 (Nat.le_of_ble_eq_true rfl) (Nat.le_of_ble_eq_true rfl)
set_option maxHeartbeats 4000000 in
set_option maxRecDepth 100000 in
theorem s_X11_spent (l : Launch) (G : Gx) (g q : Nat → Nat) (I0 : Nat → Int32) (J0 : Nat → Int64) (R0 : Nat → Nat → Int32) (L0 : Nat → Nat → Int64) (hvI : InvI Wd_lo Wd_hi I0) (hvR : InvR Wd_rl R0) (hq3 : q 3 = (g 11))   : CtI (S := Unit) l yX11_spent cX11_spent 1 (some .int) (rmD 1 0 0) G [.ref (g 74)] (Wd G g q I0 J0 R0 L0) (fun r _ => ((0 : Int) ≤ r.toInt ∧ r.toInt ≤ (20000 : Int))) (fun _ => (Wd G g q I0 J0 R0 L0)) := by
  refine ctI_of (own := RX11) (by decide +kernel) rfl (Nat.le_of_ble_eq_true rfl) ?_
  intro p e s m below meth c A ls F hr hlk hnm hK hP hD hA hS hl
  have hx := F.1
  have hb := F.2.1
  have hown := F.2.2.2.1
  have hl : lv_has ls 1 [(0, .ref (g 74))] := hl
  obtain ⟨Q, hQ⟩ : ∃ Q : State → Prop, Q = MQ below (va_Qi (S := Unit) (fun r _ => ((0 : Int) ≤ r.toInt ∧ r.toInt ≤ (20000 : Int))) (BX G A (fun _ => (Wd G g q I0 J0 R0 L0))) A) [.ref (g 74)].toArray s 0 0 A := ⟨_, rfl⟩
  rw [show (MQ below (va_Qi (S := Unit) (fun r _ => ((0 : Int) ≤ r.toInt ∧ r.toInt ≤ (20000 : Int))) (BX G A (fun _ => (Wd G g q I0 J0 R0 L0))) A) [.ref (g 74)].toArray s (rmD 1 0 0).cells (rmD 1 0 0).slots A) = Q from hQ.symm]
  refine lv_aload_n hx hb dX11_spent_0 rfl (lv_at hl 0 rfl) ?_
  refine g_get F hK hP 66 (Wd_at66 G g q I0 J0 R0 L0) clX11 5 (by decide) flX11_52 rfl dX11_spent_1 ?_
  refine g_get F hK hP 71 (Wd_at71 G g q I0 J0 R0 L0) clX9 1 (by decide) flX11_266 rfl dX11_spent_4 ?_
  have w_I0_34 := rg (hvI 34 (by decide)) (0) (20000) rfl rfl
  rw [hQ]
  exact q_i F hr hlk () hP hD hS (show ((0 : Int) ≤ (I0 34).toInt ∧ (I0 34).toInt ≤ (20000 : Int)) from by omega) dX11_spent_7 (Nat.le_of_ble_eq_true rfl) (Nat.le_of_ble_eq_true rfl)
set_option maxHeartbeats 4000000 in
set_option maxRecDepth 100000 in
theorem s_X11_status (l : Launch) (G : Gx) (g q : Nat → Nat) (I0 : Nat → Int32) (J0 : Nat → Int64) (R0 : Nat → Nat → Int32) (L0 : Nat → Nat → Int64) (hvI : InvI Wd_lo Wd_hi I0) (hvR : InvR Wd_rl R0) (hq3 : q 3 = (g 11)) (p1 : Int32)  : CtI (S := Unit) l yX11_status cX11_status 2 (some .int) (rmD 2 0 0) G [.ref (g 74), .int p1] (Wd G g q I0 J0 R0 L0) (fun r _ => True) (fun _ => (Wd G g q I0 J0 R0 L0)) := by
  refine ctI_of (own := RX11) (by decide +kernel) rfl (Nat.le_of_ble_eq_true rfl) ?_
  intro p e s m below meth c A ls F hr hlk hnm hK hP hD hA hS hl
  have hx := F.1
  have hb := F.2.1
  have hown := F.2.2.2.1
  have hl : lv_has ls 2 [(0, .ref (g 74)), (1, .int p1)] := hl
  obtain ⟨Q, hQ⟩ : ∃ Q : State → Prop, Q = MQ below (va_Qi (S := Unit) (fun r _ => True) (BX G A (fun _ => (Wd G g q I0 J0 R0 L0))) A) [.ref (g 74), .int p1].toArray s 0 0 A := ⟨_, rfl⟩
  rw [show (MQ below (va_Qi (S := Unit) (fun r _ => True) (BX G A (fun _ => (Wd G g q I0 J0 R0 L0))) A) [.ref (g 74), .int p1].toArray s (rmD 2 0 0).cells (rmD 2 0 0).slots A) = Q from hQ.symm]
  refine lv_iload_n hx hb dX11_status_0 rfl (lv_at hl 1 rfl) ?_
  refine lv_bipush (v := 6) hx hb dX11_status_1 (by decide) ?_
  refine w0i (As := [.int p1, .int 6]) (rest := []) (d := 1) F hK hP hD hS hA (s_X11_isBelow l G  p1 6 (by decide)) kmS_X11_isBelow mlX11_169 ⟨(Nat.le_of_ble_eq_true rfl), (Nat.le_of_ble_eq_true rfl)⟩ hl.1 rfl (Nat.le_of_ble_eq_true rfl) dX11_status_3 (fun r1 u2 H locs hwr1 hP hD hS => ?_)
  obtain ⟨F0r1, F1r1⟩ := hwr1
  replace F0r1 : ((0 : Int) ≤ r1.toInt ∧ r1.toInt ≤ (1 : Int)) := F0r1
  replace F1r1 : (r1.toInt = 1 → (0 ≤ p1.toInt ∧ p1.toInt < 6)) := F1r1
  refine lv_if_eq (tgt := 18) hx hb dX11_status_6 (by decide) (fun c3 => ?_) (fun c3 => ?_)
  · have gc3 : r1.toInt = 0 := congrArg Int32.toInt c3
    refine lv_iconst (v := (-1)) hx hb dX11_status_18 (by decide) ?_
    rw [hQ]
    exact q_i F hr hlk () hP hD hS trivial dX11_status_19 (Nat.le_of_ble_eq_true rfl) (Nat.le_of_ble_eq_true rfl)
  · have gc3 : ¬ (r1.toInt = 0) := fun q0 => c3 (Int32.toInt_inj.mp q0)
    refine lv_aload_n hx hb dX11_status_9 rfl (lv_at hl 0 rfl) ?_
    refine g_get F hK hP 66 (Wd_at66 G g q I0 J0 R0 L0) clX11 13 (by decide) flX11_86 rfl dX11_status_10 ?_
    refine lv_iload_n hx hb dX11_status_13 rfl (lv_at hl 1 rfl) ?_
    refine g_iald F hK hP 76 (Wd_at76 G g q I0 J0 R0 L0) (in_of (by omega)) dX11_status_14 rfl ?_
    refine lv_topi (fun x4 ex4 => ?_)
    have gx4 : x4.toInt = (R0 60 (Int32.toNatClampNeg p1)).toInt := congrArg Int32.toInt (ex4)
    refine lv_goto (tgt := 19) hx hb dX11_status_15 (by decide) ?_
    rw [hQ]
    exact q_i F hr hlk () hP hD hS trivial dX11_status_19 (Nat.le_of_ble_eq_true rfl) (Nat.le_of_ble_eq_true rfl)
set_option maxHeartbeats 4000000 in
set_option maxRecDepth 100000 in
theorem s_X11_weeks (l : Launch) (G : Gx) (g q : Nat → Nat) (I0 : Nat → Int32) (J0 : Nat → Int64) (R0 : Nat → Nat → Int32) (L0 : Nat → Nat → Int64) (hvI : InvI Wd_lo Wd_hi I0) (hvR : InvR Wd_rl R0) (hq3 : q 3 = (g 11))   : CtI (S := Unit) l yX11_weeks cX11_weeks 2 (some .int) (rmD 3 0 0) G [.ref (g 74)] (Wd G g q I0 J0 R0 L0) (fun r _ => ((-1 : Int) ≤ r.toInt ∧ r.toInt ≤ (9 : Int))) (fun _ => (Wd G g q I0 J0 R0 L0)) := by
  refine ctI_of (own := RX11) (by decide +kernel) rfl (Nat.le_of_ble_eq_true rfl) ?_
  intro p e s m below meth c A ls F hr hlk hnm hK hP hD hA hS hl
  have hx := F.1
  have hb := F.2.1
  have hown := F.2.2.2.1
  have hl : lv_has ls 2 [(0, .ref (g 74))] := hl
  obtain ⟨Q, hQ⟩ : ∃ Q : State → Prop, Q = MQ below (va_Qi (S := Unit) (fun r _ => ((-1 : Int) ≤ r.toInt ∧ r.toInt ≤ (9 : Int))) (BX G A (fun _ => (Wd G g q I0 J0 R0 L0))) A) [.ref (g 74)].toArray s 0 0 A := ⟨_, rfl⟩
  rw [show (MQ below (va_Qi (S := Unit) (fun r _ => ((-1 : Int) ≤ r.toInt ∧ r.toInt ≤ (9 : Int))) (BX G A (fun _ => (Wd G g q I0 J0 R0 L0))) A) [.ref (g 74)].toArray s (rmD 3 0 0).cells (rmD 3 0 0).slots A) = Q from hQ.symm]
  have lab_2 : ∀ (k_2 : Nat) (a1_2 : Int32) (H : Heap) (locs : List Loc) (ls : Array Slot), ((10 - a1_2.toInt) < (k_2 : Int)) → ((1 : Int) ≤ a1_2.toInt ∧ a1_2.toInt ≤ (10 : Int)) → va_P G.1 vwCl (Wd G g q I0 J0 R0 L0) H → va_D A (Wd G g q I0 J0 R0 L0) → va_S A s.heap H locs → lv_has ls 2 [(0, .ref (g 74)), (1, .int a1_2)] → W p l e (rmD 3 0 0) s m [.ref (g 74)].toArray below meth c H locs 0 0 Q (F0 m 2 ls []) := by
    intro k_2
    induction k_2 with
    | zero =>
      intro a1_2 H locs ls hm y0_2 hP hD hS hl
      exact absurd hm (by omega)
    | succ k_2 ih_2 =>
      intro a1_2 H locs ls hm y0_2 hP hD hS hl
      refine lv_iload_n hx hb dX11_weeks_2 rfl (lv_at hl 1 rfl) ?_
      refine lv_bipush (v := 9) hx hb dX11_weeks_3 (by decide) ?_
      refine lv_icmp_gt (tgt := 27) hx hb dX11_weeks_5 (by decide) (fun c1 => ?_) (fun c1 => ?_)
      · have gc1 : 9 < a1_2.toInt := (tlt _ _).mp c1
        refine lv_iconst (v := (-1)) hx hb dX11_weeks_27 (by decide) ?_
        rw [hQ]
        exact q_i F hr hlk () hP hD hS (show ((-1 : Int) ≤ (-1) ∧ (-1) ≤ (9 : Int)) from by omega) dX11_weeks_28 (Nat.le_of_ble_eq_true rfl) (Nat.le_of_ble_eq_true rfl)
      · have gc1 : ¬ (9 < a1_2.toInt) := fun q0 => c1 ((tlt _ _).mpr q0)
        refine lv_aload_n hx hb dX11_weeks_8 rfl (lv_at hl 0 rfl) ?_
        refine g_get F hK hP 66 (Wd_at66 G g q I0 J0 R0 L0) clX11 4 (by decide) flX11_43 rfl dX11_weeks_9 ?_
        refine lv_iload_n hx hb dX11_weeks_12 rfl (lv_at hl 1 rfl) ?_
        refine wvi (As := [.int a1_2]) (rest := []) (b := (g 68)) (d := 2) F hK hP hD hS hA (s_X4_unmetWithin l G g q I0 J0 R0 L0 hvI hvR hq3 a1_2 (show ((1 : Int) ≤ a1_2.toInt ∧ a1_2.toInt ≤ (9 : Int)) from by omega)) kmV_X4_unmetWithin mlX11_364 clX4 rfl 70 (Wd_at70 G g q I0 J0 R0 L0) ⟨(Nat.le_of_ble_eq_true rfl), (Nat.le_of_ble_eq_true rfl)⟩ hl.1 rfl (Nat.le_of_ble_eq_true rfl) dX11_weeks_13 (fun r2 u3 H locs hwr2 hP hD hS => ?_)
        refine lv_if_ne (tgt := 21) hx hb dX11_weeks_16 (by decide) (fun c4 => ?_) (fun c4 => ?_)
        · have gc4 : ¬ (r2.toInt = 0) := fun q0 => c4 (Int32.toInt_inj.mp q0)
          obtain ⟨x5, ex5⟩ : ∃ y : Int32, y = a1_2 + 1 := ⟨_, rfl⟩
          have fx5 : x5.toInt = a1_2.toInt + (1 : Int) := by rw [ex5]; exact t_add (by show (-2147483648 : Int) ≤ a1_2.toInt + (1 : Int); omega) (by show a1_2.toInt + (1 : Int) ≤ 2147483647; omega)
          refine lv_iinc (v := x5) (lv' := [(1, .int x5), (0, .ref (g 74))]) hx hb dX11_weeks_21 hl (k := 1) rfl (by rw [ex5]; rfl) (by decide) rfl (fun ls hl => ?_)
          refine lv_goto (tgt := 2) hx hb dX11_weeks_24 (by decide) ?_
          exact ih_2 x5 _ _ _ (show (10 - x5.toInt) < (k_2 : Int) from by omega) (show ((1 : Int) ≤ x5.toInt ∧ x5.toInt ≤ (10 : Int)) from by omega) hP hD hS (lv_sub hl [1, 0] rfl)
        · have gc4 : r2.toInt = 0 := congrArg Int32.toInt c4
          refine lv_iload_n hx hb dX11_weeks_19 rfl (lv_at hl 1 rfl) ?_
          rw [hQ]
          exact q_i F hr hlk () hP hD hS (show ((-1 : Int) ≤ a1_2.toInt ∧ a1_2.toInt ≤ (9 : Int)) from by omega) dX11_weeks_20 (Nat.le_of_ble_eq_true rfl) (Nat.le_of_ble_eq_true rfl)
  refine lv_iconst (v := 1) hx hb dX11_weeks_0 (by decide) ?_
  refine lv_istore_n (lv' := [(1, .int 1), (0, .ref (g 74))]) hx hb dX11_weeks_1 rfl hl (by decide) rfl (fun ls hl => ?_)
  exact lab_2 10 1 _ _ _ (show (10 - 1) < ((10 : Nat) : Int) from by omega) (by decide) hP hD hS (lv_sub hl [1, 0] rfl)
