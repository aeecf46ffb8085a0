set_option maxHeartbeats 4000000 in
set_option maxRecDepth 100000 in
theorem s_X12_counts (l : Launch) (G : Gx) (g q : Nat → Nat) (I0 : Nat → Int32) (J0 : Nat → Int64) (R0 : Nat → Nat → Int32) (L0 : Nat → Nat → Int64) (hvI : InvI Wm_lo Wm_hi I0) (hvR : InvR Wm_rl R0)  (p1 : Int32) (hp1 : ((0 : Int) ≤ p1.toInt ∧ p1.toInt ≤ (1 : Int))) (hpre0 : ((I0 3).toInt ≤ (I0 4).toInt)) (hpre1 : ((I0 4).toInt ≤ (I0 1).toInt)) (hpre2 : ((¬ (I0 2).toInt = 0) → (I0 3).toInt < (I0 4).toInt)) : CtI (S := St) l yX12_counts cX12_counts 2 (some .boolean) (rmD 3 0 0) G [.ref (g 45), .int p1] (Wm G g q I0 J0 R0 L0) (fun r u => InvI Wm_lo Wm_hi u.1 ∧ InvR Wm_rl u.2.2.1 ∧ SmF ([2, 3, 4, 5, 6, 7] : List Nat) I0 u.1 ∧ SmF ([] : List Nat) R0 u.2.2.1 ∧ ((0 : Int) ≤ r.toInt ∧ r.toInt ≤ (1 : Int)) ∧ ((r.toInt = 1 ∧ p1.toInt = 0 ∧ (u.1 6).toInt = 0 ∧ (I0 4).toInt ≤ (u.1 3).toInt) ∨ (r.toInt = 0 ∧ ¬ (u.1 6).toInt = 0)) ∧ ((u.1 3).toInt ≤ (u.1 4).toInt) ∧ ((u.1 4).toInt ≤ (I0 1).toInt) ∧ ((¬ (u.1 2).toInt = 0) → (u.1 3).toInt < (u.1 4).toInt) ∧ ((¬ (I0 6).toInt = 0) → (¬ (u.1 6).toInt = 0)) ∧ ((I0 3).toInt ≤ (u.1 3).toInt)) (fun u => Wm G g q u.1 u.2.1 u.2.2.1 u.2.2.2) := by
  refine ctI_of (own := RX12) (by decide +kernel) rfl (Nat.le_of_ble_eq_true rfl) ?_
  intro p e s m below meth c A ls F hr hlk hnm hK hP hD hA hS hl
  have hx := F.1
  have hb := F.2.1
  have hown := F.2.2.2.1
  have hl : lv_has ls 2 [(0, .ref (g 45)), (1, .int p1)] := hl
  obtain ⟨Q, hQ⟩ : ∃ Q : State → Prop, Q = MQ below (va_Qi (S := St) (fun r u => InvI Wm_lo Wm_hi u.1 ∧ InvR Wm_rl u.2.2.1 ∧ SmF ([2, 3, 4, 5, 6, 7] : List Nat) I0 u.1 ∧ SmF ([] : List Nat) R0 u.2.2.1 ∧ ((0 : Int) ≤ r.toInt ∧ r.toInt ≤ (1 : Int)) ∧ ((r.toInt = 1 ∧ p1.toInt = 0 ∧ (u.1 6).toInt = 0 ∧ (I0 4).toInt ≤ (u.1 3).toInt) ∨ (r.toInt = 0 ∧ ¬ (u.1 6).toInt = 0)) ∧ ((u.1 3).toInt ≤ (u.1 4).toInt) ∧ ((u.1 4).toInt ≤ (I0 1).toInt) ∧ ((¬ (u.1 2).toInt = 0) → (u.1 3).toInt < (u.1 4).toInt) ∧ ((¬ (I0 6).toInt = 0) → (¬ (u.1 6).toInt = 0)) ∧ ((I0 3).toInt ≤ (u.1 3).toInt)) (BX G A (fun u => Wm G g q u.1 u.2.1 u.2.2.1 u.2.2.2)) A) [.ref (g 45), .int p1].toArray s 0 0 A := ⟨_, rfl⟩
  rw [show (MQ below (va_Qi (S := St) (fun r u => InvI Wm_lo Wm_hi u.1 ∧ InvR Wm_rl u.2.2.1 ∧ SmF ([2, 3, 4, 5, 6, 7] : List Nat) I0 u.1 ∧ SmF ([] : List Nat) R0 u.2.2.1 ∧ ((0 : Int) ≤ r.toInt ∧ r.toInt ≤ (1 : Int)) ∧ ((r.toInt = 1 ∧ p1.toInt = 0 ∧ (u.1 6).toInt = 0 ∧ (I0 4).toInt ≤ (u.1 3).toInt) ∨ (r.toInt = 0 ∧ ¬ (u.1 6).toInt = 0)) ∧ ((u.1 3).toInt ≤ (u.1 4).toInt) ∧ ((u.1 4).toInt ≤ (I0 1).toInt) ∧ ((¬ (u.1 2).toInt = 0) → (u.1 3).toInt < (u.1 4).toInt) ∧ ((¬ (I0 6).toInt = 0) → (¬ (u.1 6).toInt = 0)) ∧ ((I0 3).toInt ≤ (u.1 3).toInt)) (BX G A (fun u => Wm G g q u.1 u.2.1 u.2.2.1 u.2.2.2)) A) [.ref (g 45), .int p1].toArray s (rmD 3 0 0).cells (rmD 3 0 0).slots A) = Q from hQ.symm]
  have hsI := smF_rf ([2, 3, 4, 5, 6, 7] : List Nat) I0
  have hsR := smF_rf ([] : List Nat) R0
  have hvI0 := hvI
  have lab_31 : ∀  (I_31 : Nat → Int32) (J_31 : Nat → Int64) (R_31 : Nat → Nat → Int32) (L_31 : Nat → Nat → Int64) (H : Heap) (locs : List Loc) (ls : Array Slot), InvI Wm_lo Wm_hi I_31 → InvR Wm_rl R_31 → SmF ([2, 3, 4, 5, 6, 7] : List Nat) I0 I_31 → SmF ([] : List Nat) R0 R_31 → ((I_31 6).toInt = 0 → (p1.toInt = 0 ∧ (I0 4).toInt ≤ (I_31 3).toInt)) → ((I_31 3).toInt ≤ (I_31 4).toInt) → ((I_31 4).toInt ≤ (I0 1).toInt) → ((¬ (I_31 2).toInt = 0) → (I_31 3).toInt < (I_31 4).toInt) → ((¬ (I0 6).toInt = 0) → (¬ (I_31 6).toInt = 0)) → ((I0 3).toInt ≤ (I_31 3).toInt) → va_P G.1 vwCl (Wm G g q I_31 J_31 R_31 L_31) H → va_D A (Wm G g q I_31 J_31 R_31 L_31) → va_S A s.heap H locs → lv_has ls 2 [(0, .ref (g 45))] → W p l e (rmD 3 0 0) s m [.ref (g 45), .int p1].toArray below meth c H locs 0 0 Q (F0 m 31 ls []) := by
    intro I_31 J_31 R_31 L_31 H locs ls hvI hvR hsI hsR z0_31 z1_31 z2_31 z3_31 z4_31 z5_31 hP hD hS hl
    have hv_I_31 := hvI
    have w_I_31_1 := rg (hvI 1 (by decide)) (0) (1800) rfl rfl
    have v_I_31_1 : (I_31 1).toInt = (I0 1).toInt := congrArg Int32.toInt (hsI 1 rfl)
    have w_I_31_2 := rg (hvI 2 (by decide)) (0) (3) rfl rfl
    have w_I_31_3 := rg (hvI 3 (by decide)) (0) (1800) rfl rfl
    have w_I_31_4 := rg (hvI 4 (by decide)) (0) (1800) rfl rfl
    have w_I_31_6 := rg (hvI 6 (by decide)) (0) (5) rfl rfl
    refine lv_aload_n hx hb dX12_counts_31 rfl (lv_at hl 0 rfl) ?_
    refine g_get F hK hP 0 (Wm_at0 G g q I_31 J_31 R_31 L_31) clX12 8 (by decide) flX12_36 rfl dX12_counts_32 ?_
    have w_I_31_6 := rg (hv_I_31 6 (by decide)) (0) (5) rfl rfl
    refine lv_if_ne (tgt := 42) hx hb dX12_counts_35 (by decide) (fun c1 => ?_) (fun c1 => ?_)
    · have gc1 : ¬ ((I_31 6).toInt = 0) := fun q0 => c1 (Int32.toInt_inj.mp q0)
      refine lv_iconst (v := 0) hx hb dX12_counts_42 (by decide) ?_
      rw [hQ]
      exact q_z F hr hlk (I_31, J_31, R_31, L_31) hP hD hS ⟨hvI, hvR, hsI, hsR, (show ((0 : Int) ≤ 0 ∧ 0 ≤ (1 : Int)) from by omega), (show ((0 = 1 ∧ p1.toInt = 0 ∧ (I_31 6).toInt = 0 ∧ (I0 4).toInt ≤ (I_31 3).toInt) ∨ (0 = 0 ∧ ¬ (I_31 6).toInt = 0)) from by omega), (show ((I_31 3).toInt ≤ (I_31 4).toInt) from by omega), (show ((I_31 4).toInt ≤ (I0 1).toInt) from by omega), (show ((¬ (I_31 2).toInt = 0) → (I_31 3).toInt < (I_31 4).toInt) from by omega), (show ((¬ (I0 6).toInt = 0) → (¬ (I_31 6).toInt = 0)) from by omega), (show ((I0 3).toInt ≤ (I_31 3).toInt) from by omega)⟩ dX12_counts_43 (Nat.le_of_ble_eq_true rfl) (Nat.le_of_ble_eq_true rfl) (nar01 (by decide))
    · have gc1 : (I_31 6).toInt = 0 := congrArg Int32.toInt c1
      refine lv_iconst (v := 1) hx hb dX12_counts_38 (by decide) ?_
      refine lv_goto (tgt := 43) hx hb dX12_counts_39 (by decide) ?_
      rw [hQ]
      exact q_z F hr hlk (I_31, J_31, R_31, L_31) hP hD hS ⟨hvI, hvR, hsI, hsR, (show ((0 : Int) ≤ 1 ∧ 1 ≤ (1 : Int)) from by omega), (show ((1 = 1 ∧ p1.toInt = 0 ∧ (I_31 6).toInt = 0 ∧ (I0 4).toInt ≤ (I_31 3).toInt) ∨ (1 = 0 ∧ ¬ (I_31 6).toInt = 0)) from by omega), (show ((I_31 3).toInt ≤ (I_31 4).toInt) from by omega), (show ((I_31 4).toInt ≤ (I0 1).toInt) from by omega), (show ((¬ (I_31 2).toInt = 0) → (I_31 3).toInt < (I_31 4).toInt) from by omega), (show ((¬ (I0 6).toInt = 0) → (¬ (I_31 6).toInt = 0)) from by omega), (show ((I0 3).toInt ≤ (I_31 3).toInt) from by omega)⟩ dX12_counts_43 (Nat.le_of_ble_eq_true rfl) (Nat.le_of_ble_eq_true rfl) (nar01 (by decide))
  have lab_20 : ∀  (I_20 : Nat → Int32) (J_20 : Nat → Int64) (R_20 : Nat → Nat → Int32) (L_20 : Nat → Nat → Int64) (H : Heap) (locs : List Loc) (ls : Array Slot), InvI Wm_lo Wm_hi I_20 → InvR Wm_rl R_20 → SmF ([2, 3, 4, 5, 6, 7] : List Nat) I0 I_20 → SmF ([] : List Nat) R0 R_20 → ((I_20 6).toInt = 0 → p1.toInt = 0) → ((I_20 4).toInt = (I0 4).toInt) → ((I_20 3).toInt ≤ (I_20 4).toInt) → ((I_20 4).toInt ≤ (I0 1).toInt) → ((¬ (I_20 2).toInt = 0) → (I_20 3).toInt < (I_20 4).toInt) → ((¬ (I0 6).toInt = 0) → (¬ (I_20 6).toInt = 0)) → ((I0 3).toInt ≤ (I_20 3).toInt) → va_P G.1 vwCl (Wm G g q I_20 J_20 R_20 L_20) H → va_D A (Wm G g q I_20 J_20 R_20 L_20) → va_S A s.heap H locs → lv_has ls 2 [(0, .ref (g 45))] → W p l e (rmD 3 0 0) s m [.ref (g 45), .int p1].toArray below meth c H locs 0 0 Q (F0 m 20 ls []) := by
    intro I_20 J_20 R_20 L_20 H locs ls hvI hvR hsI hsR z0_20 z1_20 z2_20 z3_20 z4_20 z5_20 z6_20 hP hD hS hl
    have hv_I_20 := hvI
    have w_I_20_1 := rg (hvI 1 (by decide)) (0) (1800) rfl rfl
    have v_I_20_1 : (I_20 1).toInt = (I0 1).toInt := congrArg Int32.toInt (hsI 1 rfl)
    have w_I_20_2 := rg (hvI 2 (by decide)) (0) (3) rfl rfl
    have w_I_20_3 := rg (hvI 3 (by decide)) (0) (1800) rfl rfl
    have w_I_20_4 := rg (hvI 4 (by decide)) (0) (1800) rfl rfl
    have w_I_20_6 := rg (hvI 6 (by decide)) (0) (5) rfl rfl
    refine lv_aload_n hx hb dX12_counts_20 rfl (lv_at hl 0 rfl) ?_
    refine g_get F hK hP 0 (Wm_at0 G g q I_20 J_20 R_20 L_20) clX12 8 (by decide) flX12_36 rfl dX12_counts_21 ?_
    have w_I_20_6 := rg (hv_I_20 6 (by decide)) (0) (5) rfl rfl
    refine lv_if_ne (tgt := 31) hx hb dX12_counts_24 (by decide) (fun c2 => ?_) (fun c2 => ?_)
    · have gc2 : ¬ ((I_20 6).toInt = 0) := fun q0 => c2 (Int32.toInt_inj.mp q0)
      exact lab_31  I_20 J_20 R_20 L_20 _ _ _ hvI hvR hsI hsR (show ((I_20 6).toInt = 0 → (p1.toInt = 0 ∧ (I0 4).toInt ≤ (I_20 3).toInt)) from by omega) (show ((I_20 3).toInt ≤ (I_20 4).toInt) from by omega) (show ((I_20 4).toInt ≤ (I0 1).toInt) from by omega) (show ((¬ (I_20 2).toInt = 0) → (I_20 3).toInt < (I_20 4).toInt) from by omega) (show ((¬ (I0 6).toInt = 0) → (¬ (I_20 6).toInt = 0)) from by omega) (show ((I0 3).toInt ≤ (I_20 3).toInt) from by omega) hP hD hS (lv_sub hl [0] rfl)
    · have gc2 : (I_20 6).toInt = 0 := congrArg Int32.toInt c2
      refine lv_aload_n hx hb dX12_counts_27 rfl (lv_at hl 0 rfl) ?_
      refine wvv (As := []) (rest := []) (b := (g 45)) (d := 2) F hK hP hD hS hA (s_X12_ahead l G g q I_20 J_20 R_20 L_20 hvI hvR   (by omega) (by omega) (by omega)) kmV_X12_ahead mlX12_247 clX12 rfl 0 (Wm_at0 G g q I_20 J_20 R_20 L_20) ⟨(Nat.le_of_ble_eq_true rfl), (Nat.le_of_ble_eq_true rfl)⟩ hl.1 rfl (Nat.le_of_ble_eq_true rfl) dX12_counts_28 (fun u4 H locs hwr3 hP hD hS => ?_)
      obtain ⟨I5, J6, R7, L8⟩ := u4
      replace hP : va_P G.1 vwCl (Wm G g q I5 J6 R7 L8) H := hP
      replace hD : va_D A (Wm G g q I5 J6 R7 L8) := hD
      obtain ⟨hvI, hvR, tIr3, tRr3, F0r3, F1r3, F2r3, F3r3, F4r3, F5r3⟩ := hwr3
      replace F0r3 : ((I_20 4).toInt ≤ (I5 3).toInt) := F0r3
      replace F1r3 : ((I5 3).toInt ≤ (I5 4).toInt) := F1r3
      replace F2r3 : ((I5 4).toInt ≤ (I_20 1).toInt) := F2r3
      replace F3r3 : ((¬ (I5 2).toInt = 0) → (I5 3).toInt < (I5 4).toInt) := F3r3
      replace F4r3 : ((¬ (I_20 6).toInt = 0) → (¬ (I5 6).toInt = 0)) := F4r3
      replace F5r3 : ((I_20 3).toInt ≤ (I5 3).toInt) := F5r3
      replace hvI : InvI Wm_lo Wm_hi I5 := hvI
      replace hvR : InvR Wm_rl R7 := hvR
      replace tIr3 : SmF ([2, 3, 4, 5, 6, 7] : List Nat) I_20 I5 := tIr3
      replace tRr3 : SmF ([] : List Nat) R_20 R7 := tRr3
      have hv_I5 := hvI
      have hsI := smF_tr hsI tIr3 (by decide)
      have hsR := smF_tr hsR tRr3 (by decide)
      have u_I5_1 : (I5 1).toInt = (I_20 1).toInt := congrArg Int32.toInt (tIr3 1 rfl)
      have w_I5_2 := rg (hvI 2 (by decide)) (0) (3) rfl rfl
      have w_I5_3 := rg (hvI 3 (by decide)) (0) (1800) rfl rfl
      have w_I5_4 := rg (hvI 4 (by decide)) (0) (1800) rfl rfl
      have w_I5_6 := rg (hvI 6 (by decide)) (0) (5) rfl rfl
      have nr3_0 : ((I5 3).toInt ≤ (I5 4).toInt) := by omega
      have nr3_1 : ((I5 4).toInt ≤ (I0 1).toInt) := by omega
      have nr3_2 : ((¬ (I5 2).toInt = 0) → (I5 3).toInt < (I5 4).toInt) := by omega
      have nr3_3 : ((¬ (I0 6).toInt = 0) → (¬ (I5 6).toInt = 0)) := by omega
      have nr3_4 : ((I0 3).toInt ≤ (I5 3).toInt) := by omega
      clear z2_20 z3_20 z4_20 z5_20 z6_20 F1r3 F2r3 F3r3 F4r3 F5r3
      exact lab_31  I5 J6 R7 L8 _ _ _ hvI hvR hsI hsR (show ((I5 6).toInt = 0 → (p1.toInt = 0 ∧ (I0 4).toInt ≤ (I5 3).toInt)) from by omega) (show ((I5 3).toInt ≤ (I5 4).toInt) from by omega) (show ((I5 4).toInt ≤ (I0 1).toInt) from by omega) (show ((¬ (I5 2).toInt = 0) → (I5 3).toInt < (I5 4).toInt) from by omega) (show ((¬ (I0 6).toInt = 0) → (¬ (I5 6).toInt = 0)) from by omega) (show ((I0 3).toInt ≤ (I5 3).toInt) from by omega) hP hD hS (lv_sub hl [0] rfl)
  have w_I0_1 := rg (hvI 1 (by decide)) (0) (1800) rfl rfl
  have w_I0_2 := rg (hvI 2 (by decide)) (0) (3) rfl rfl
  have w_I0_3 := rg (hvI 3 (by decide)) (0) (1800) rfl rfl
  have w_I0_4 := rg (hvI 4 (by decide)) (0) (1800) rfl rfl
  have w_I0_6 := rg (hvI 6 (by decide)) (0) (5) rfl rfl
  refine lv_aload_n hx hb dX12_counts_0 rfl (lv_at hl 0 rfl) ?_
  refine g_get F hK hP 0 (Wm_at0 G g q I0 J0 R0 L0) clX12 8 (by decide) flX12_36 rfl dX12_counts_1 ?_
  have w_I0_6 := rg (hvI0 6 (by decide)) (0) (5) rfl rfl
  refine lv_if_ne (tgt := 20) hx hb dX12_counts_4 (by decide) (fun c9 => ?_) (fun c9 => ?_)
  · have gc9 : ¬ ((I0 6).toInt = 0) := fun q0 => c9 (Int32.toInt_inj.mp q0)
    exact lab_20  I0 J0 R0 L0 _ _ _ hvI hvR hsI hsR (show ((I0 6).toInt = 0 → p1.toInt = 0) from by omega) (show ((I0 4).toInt = (I0 4).toInt) from by omega) (show ((I0 3).toInt ≤ (I0 4).toInt) from by omega) (show ((I0 4).toInt ≤ (I0 1).toInt) from by omega) (show ((¬ (I0 2).toInt = 0) → (I0 3).toInt < (I0 4).toInt) from by omega) (show ((¬ (I0 6).toInt = 0) → (¬ (I0 6).toInt = 0)) from by omega) (show ((I0 3).toInt ≤ (I0 3).toInt) from by omega) hP hD hS (lv_sub hl [0] rfl)
  · have gc9 : (I0 6).toInt = 0 := congrArg Int32.toInt c9
    refine lv_iload_n hx hb dX12_counts_7 rfl (lv_at hl 1 rfl) ?_
    refine lv_if_eq (tgt := 20) hx hb dX12_counts_8 (by decide) (fun c10 => ?_) (fun c10 => ?_)
    · have gc10 : p1.toInt = 0 := congrArg Int32.toInt c10
      exact lab_20  I0 J0 R0 L0 _ _ _ hvI hvR hsI hsR (show ((I0 6).toInt = 0 → p1.toInt = 0) from by omega) (show ((I0 4).toInt = (I0 4).toInt) from by omega) (show ((I0 3).toInt ≤ (I0 4).toInt) from by omega) (show ((I0 4).toInt ≤ (I0 1).toInt) from by omega) (show ((¬ (I0 2).toInt = 0) → (I0 3).toInt < (I0 4).toInt) from by omega) (show ((¬ (I0 6).toInt = 0) → (¬ (I0 6).toInt = 0)) from by omega) (show ((I0 3).toInt ≤ (I0 3).toInt) from by omega) hP hD hS (lv_sub hl [0] rfl)
    · have gc10 : ¬ (p1.toInt = 0) := fun q0 => c10 (Int32.toInt_inj.mp q0)
      refine lv_aload_n hx hb dX12_counts_11 rfl (lv_at hl 0 rfl) ?_
      refine lv_iconst (v := 5) hx hb dX12_counts_12 (by decide) ?_
      refine lv_aload_n hx hb dX12_counts_13 rfl (lv_at hl 0 rfl) ?_
      refine g_get F hK hP 0 (Wm_at0 G g q I0 J0 R0 L0) clX12 4 (by decide) flX12_23 rfl dX12_counts_14 ?_
      have w_I0_3 := rg (hvI0 3 (by decide)) (0) (1800) rfl rfl
      refine wvv (As := [.int 5, .int (I0 3)]) (rest := []) (b := (g 45)) (d := 1) F hK hP hD hS hA (s_X12_blame l G g q I0 J0 R0 L0 hvI hvR  5 ((I0 3)) (by decide) (show ((0 : Int) ≤ (I0 3).toInt ∧ (I0 3).toInt ≤ (1800 : Int)) from by omega)) kmV_X12_blame mlX12_240 clX12 rfl 0 (Wm_at0 G g q I0 J0 R0 L0) ⟨(Nat.le_of_ble_eq_true rfl), (Nat.le_of_ble_eq_true rfl)⟩ hl.1 rfl (Nat.le_of_ble_eq_true rfl) dX12_counts_17 (fun u12 H locs hwr11 hP hD hS => ?_)
      obtain ⟨I13, J14, R15, L16⟩ := u12
      replace hP : va_P G.1 vwCl (Wm G g q I13 J14 R15 L16) H := hP
      replace hD : va_D A (Wm G g q I13 J14 R15 L16) := hD
      obtain ⟨hvI, hvR, tIr11, tRr11, F0r11⟩ := hwr11
      replace F0r11 : (¬ (I13 6).toInt = 0) := F0r11
      replace hvI : InvI Wm_lo Wm_hi I13 := hvI
      replace hvR : InvR Wm_rl R15 := hvR
      replace tIr11 : SmF ([6, 7] : List Nat) I0 I13 := tIr11
      replace tRr11 : SmF ([] : List Nat) R0 R15 := tRr11
      have hv_I13 := hvI
      have hsI := smF_tr hsI tIr11 (by decide)
      have hsR := smF_tr hsR tRr11 (by decide)
      have u_I13_1 : (I13 1).toInt = (I0 1).toInt := congrArg Int32.toInt (tIr11 1 rfl)
      have u_I13_2 : (I13 2).toInt = (I0 2).toInt := congrArg Int32.toInt (tIr11 2 rfl)
      have u_I13_3 : (I13 3).toInt = (I0 3).toInt := congrArg Int32.toInt (tIr11 3 rfl)
      have u_I13_4 : (I13 4).toInt = (I0 4).toInt := congrArg Int32.toInt (tIr11 4 rfl)
      have w_I13_6 := rg (hvI 6 (by decide)) (0) (5) rfl rfl
      have nr11_0 : ((I13 3).toInt ≤ (I13 4).toInt) := by omega
      have nr11_1 : ((I13 4).toInt ≤ (I0 1).toInt) := by omega
      have nr11_2 : ((¬ (I13 2).toInt = 0) → (I13 3).toInt < (I13 4).toInt) := by omega
      have nr11_3 : ((¬ (I0 6).toInt = 0) → (¬ (I13 6).toInt = 0)) := by omega
      have nr11_4 : ((I0 3).toInt ≤ (I13 3).toInt) := by omega
      exact lab_20  I13 J14 R15 L16 _ _ _ hvI hvR hsI hsR (show ((I13 6).toInt = 0 → p1.toInt = 0) from by omega) (show ((I13 4).toInt = (I0 4).toInt) from by omega) (show ((I13 3).toInt ≤ (I13 4).toInt) from by omega) (show ((I13 4).toInt ≤ (I0 1).toInt) from by omega) (show ((¬ (I13 2).toInt = 0) → (I13 3).toInt < (I13 4).toInt) from by omega) (show ((¬ (I0 6).toInt = 0) → (¬ (I13 6).toInt = 0)) from by omega) (show ((I0 3).toInt ≤ (I13 3).toInt) from by omega) hP hD hS (lv_sub hl [0] rfl)
set_option maxHeartbeats 4000000 in
set_option maxRecDepth 100000 in
theorem s_X12_dayHere (l : Launch) (G : Gx) (g q : Nat → Nat) (I0 : Nat → Int32) (J0 : Nat → Int64) (R0 : Nat → Nat → Int32) (L0 : Nat → Nat → Int64) (hvI : InvI Wm_lo Wm_hi I0) (hvR : InvR Wm_rl R0)   (hpre0 : ((I0 3).toInt ≤ (I0 4).toInt)) (hpre1 : ((I0 4).toInt ≤ (I0 1).toInt)) (hpre2 : ((¬ (I0 2).toInt = 0) → (I0 3).toInt < (I0 4).toInt)) : CtI (S := St) l yX12_dayHere cX12_dayHere 2 (some .int) (rmD 3 0 0) G [.ref (g 45)] (Wm G g q I0 J0 R0 L0) (fun r u => InvI Wm_lo Wm_hi u.1 ∧ InvR Wm_rl u.2.2.1 ∧ SmF ([2, 3, 4, 5, 6, 7] : List Nat) I0 u.1 ∧ SmF ([] : List Nat) R0 u.2.2.1 ∧ ((0 : Int) ≤ r.toInt ∧ r.toInt ≤ (4 : Int)) ∧ ((u.1 3).toInt ≤ (u.1 4).toInt) ∧ ((u.1 4).toInt ≤ (I0 1).toInt) ∧ ((¬ (u.1 2).toInt = 0) → (u.1 3).toInt < (u.1 4).toInt) ∧ ((¬ (I0 6).toInt = 0) → (¬ (u.1 6).toInt = 0)) ∧ ((I0 3).toInt ≤ (u.1 3).toInt)) (fun u => Wm G g q u.1 u.2.1 u.2.2.1 u.2.2.2) := by
  refine ctI_of (own := RX12) (by decide +kernel) rfl (Nat.le_of_ble_eq_true rfl) ?_
  intro p e s m below meth c A ls F hr hlk hnm hK hP hD hA hS hl
  have hx := F.1
  have hb := F.2.1
  have hown := F.2.2.2.1
  have hl : lv_has ls 2 [(0, .ref (g 45))] := hl
  obtain ⟨Q, hQ⟩ : ∃ Q : State → Prop, Q = MQ below (va_Qi (S := St) (fun r u => InvI Wm_lo Wm_hi u.1 ∧ InvR Wm_rl u.2.2.1 ∧ SmF ([2, 3, 4, 5, 6, 7] : List Nat) I0 u.1 ∧ SmF ([] : List Nat) R0 u.2.2.1 ∧ ((0 : Int) ≤ r.toInt ∧ r.toInt ≤ (4 : Int)) ∧ ((u.1 3).toInt ≤ (u.1 4).toInt) ∧ ((u.1 4).toInt ≤ (I0 1).toInt) ∧ ((¬ (u.1 2).toInt = 0) → (u.1 3).toInt < (u.1 4).toInt) ∧ ((¬ (I0 6).toInt = 0) → (¬ (u.1 6).toInt = 0)) ∧ ((I0 3).toInt ≤ (u.1 3).toInt)) (BX G A (fun u => Wm G g q u.1 u.2.1 u.2.2.1 u.2.2.2)) A) [.ref (g 45)].toArray s 0 0 A := ⟨_, rfl⟩
  rw [show (MQ below (va_Qi (S := St) (fun r u => InvI Wm_lo Wm_hi u.1 ∧ InvR Wm_rl u.2.2.1 ∧ SmF ([2, 3, 4, 5, 6, 7] : List Nat) I0 u.1 ∧ SmF ([] : List Nat) R0 u.2.2.1 ∧ ((0 : Int) ≤ r.toInt ∧ r.toInt ≤ (4 : Int)) ∧ ((u.1 3).toInt ≤ (u.1 4).toInt) ∧ ((u.1 4).toInt ≤ (I0 1).toInt) ∧ ((¬ (u.1 2).toInt = 0) → (u.1 3).toInt < (u.1 4).toInt) ∧ ((¬ (I0 6).toInt = 0) → (¬ (u.1 6).toInt = 0)) ∧ ((I0 3).toInt ≤ (u.1 3).toInt)) (BX G A (fun u => Wm G g q u.1 u.2.1 u.2.2.1 u.2.2.2)) A) [.ref (g 45)].toArray s (rmD 3 0 0).cells (rmD 3 0 0).slots A) = Q from hQ.symm]
  have hsI := smF_rf ([2, 3, 4, 5, 6, 7] : List Nat) I0
  have hsR := smF_rf ([] : List Nat) R0
  have hvI0 := hvI
  have lab_95 : ∀ (a1_95 : Int32) (I_95 : Nat → Int32) (J_95 : Nat → Int64) (R_95 : Nat → Nat → Int32) (L_95 : Nat → Nat → Int64) (H : Heap) (locs : List Loc) (ls : Array Slot), InvI Wm_lo Wm_hi I_95 → InvR Wm_rl R_95 → SmF ([2, 3, 4, 5, 6, 7] : List Nat) I0 I_95 → SmF ([] : List Nat) R0 R_95 → ((-1 : Int) ≤ a1_95.toInt ∧ a1_95.toInt ≤ (4 : Int)) → ((I_95 6).toInt = 0 → 0 ≤ a1_95.toInt) → ((I_95 3).toInt ≤ (I_95 4).toInt) → ((I_95 4).toInt ≤ (I0 1).toInt) → ((¬ (I_95 2).toInt = 0) → (I_95 3).toInt < (I_95 4).toInt) → ((¬ (I0 6).toInt = 0) → (¬ (I_95 6).toInt = 0)) → ((I0 3).toInt ≤ (I_95 3).toInt) → va_P G.1 vwCl (Wm G g q I_95 J_95 R_95 L_95) H → va_D A (Wm G g q I_95 J_95 R_95 L_95) → va_S A s.heap H locs → lv_has ls 2 [(0, .ref (g 45)), (1, .int a1_95)] → W p l e (rmD 3 0 0) s m [.ref (g 45)].toArray below meth c H locs 0 0 Q (F0 m 95 ls []) := by
    intro a1_95 I_95 J_95 R_95 L_95 H locs ls hvI hvR hsI hsR y0_95 z0_95 z1_95 z2_95 z3_95 z4_95 z5_95 hP hD hS hl
    have hv_I_95 := hvI
    have w_I_95_1 := rg (hvI 1 (by decide)) (0) (1800) rfl rfl
    have v_I_95_1 : (I_95 1).toInt = (I0 1).toInt := congrArg Int32.toInt (hsI 1 rfl)
    have w_I_95_2 := rg (hvI 2 (by decide)) (0) (3) rfl rfl
    have w_I_95_3 := rg (hvI 3 (by decide)) (0) (1800) rfl rfl
    have w_I_95_4 := rg (hvI 4 (by decide)) (0) (1800) rfl rfl
    have w_I_95_6 := rg (hvI 6 (by decide)) (0) (5) rfl rfl
    refine lv_aload_n hx hb dX12_dayHere_95 rfl (lv_at hl 0 rfl) ?_
    refine g_get F hK hP 0 (Wm_at0 G g q I_95 J_95 R_95 L_95) clX12 8 (by decide) flX12_36 rfl dX12_dayHere_96 ?_
    have w_I_95_6 := rg (hv_I_95 6 (by decide)) (0) (5) rfl rfl
    refine lv_if_le (tgt := 104) hx hb dX12_dayHere_99 (by decide) (fun c1 => ?_) (fun c1 => ?_)
    · have gc1 : (I_95 6).toInt ≤ 0 := (tle _ _).mp c1
      refine lv_aload_n hx hb dX12_dayHere_104 rfl (lv_at hl 0 rfl) ?_
      refine wvv (As := []) (rest := []) (b := (g 45)) (d := 2) F hK hP hD hS hA (s_X12_ahead l G g q I_95 J_95 R_95 L_95 hvI hvR   (by omega) (by omega) (by omega)) kmV_X12_ahead mlX12_247 clX12 rfl 0 (Wm_at0 G g q I_95 J_95 R_95 L_95) ⟨(Nat.le_of_ble_eq_true rfl), (Nat.le_of_ble_eq_true rfl)⟩ hl.1 rfl (Nat.le_of_ble_eq_true rfl) dX12_dayHere_105 (fun u3 H locs hwr2 hP hD hS => ?_)
      obtain ⟨I4, J5, R6, L7⟩ := u3
      replace hP : va_P G.1 vwCl (Wm G g q I4 J5 R6 L7) H := hP
      replace hD : va_D A (Wm G g q I4 J5 R6 L7) := hD
      obtain ⟨hvI, hvR, tIr2, tRr2, F0r2, F1r2, F2r2, F3r2, F4r2, F5r2⟩ := hwr2
      replace F0r2 : ((I_95 4).toInt ≤ (I4 3).toInt) := F0r2
      replace F1r2 : ((I4 3).toInt ≤ (I4 4).toInt) := F1r2
      replace F2r2 : ((I4 4).toInt ≤ (I_95 1).toInt) := F2r2
      replace F3r2 : ((¬ (I4 2).toInt = 0) → (I4 3).toInt < (I4 4).toInt) := F3r2
      replace F4r2 : ((¬ (I_95 6).toInt = 0) → (¬ (I4 6).toInt = 0)) := F4r2
      replace F5r2 : ((I_95 3).toInt ≤ (I4 3).toInt) := F5r2
      replace hvI : InvI Wm_lo Wm_hi I4 := hvI
      replace hvR : InvR Wm_rl R6 := hvR
      replace tIr2 : SmF ([2, 3, 4, 5, 6, 7] : List Nat) I_95 I4 := tIr2
      replace tRr2 : SmF ([] : List Nat) R_95 R6 := tRr2
      have hv_I4 := hvI
      have hsI := smF_tr hsI tIr2 (by decide)
      have hsR := smF_tr hsR tRr2 (by decide)
      have u_I4_1 : (I4 1).toInt = (I_95 1).toInt := congrArg Int32.toInt (tIr2 1 rfl)
      have w_I4_2 := rg (hvI 2 (by decide)) (0) (3) rfl rfl
      have w_I4_3 := rg (hvI 3 (by decide)) (0) (1800) rfl rfl
      have w_I4_4 := rg (hvI 4 (by decide)) (0) (1800) rfl rfl
      have w_I4_6 := rg (hvI 6 (by decide)) (0) (5) rfl rfl
      have nr2_0 : ((I4 3).toInt ≤ (I4 4).toInt) := by omega
      have nr2_1 : ((I4 4).toInt ≤ (I0 1).toInt) := by omega
      have nr2_2 : ((¬ (I4 2).toInt = 0) → (I4 3).toInt < (I4 4).toInt) := by omega
      have nr2_3 : ((¬ (I0 6).toInt = 0) → (¬ (I4 6).toInt = 0)) := by omega
      have nr2_4 : ((I0 3).toInt ≤ (I4 3).toInt) := by omega
      clear z1_95 z2_95 z3_95 z4_95 z5_95 F1r2 F2r2 F3r2 F4r2 F5r2
      refine lv_iload_n hx hb dX12_dayHere_108 rfl (lv_at hl 1 rfl) ?_
      rw [hQ]
      exact q_i F hr hlk (I4, J5, R6, L7) hP hD hS ⟨hvI, hvR, hsI, hsR, (show ((0 : Int) ≤ a1_95.toInt ∧ a1_95.toInt ≤ (4 : Int)) from by omega), (show ((I4 3).toInt ≤ (I4 4).toInt) from by omega), (show ((I4 4).toInt ≤ (I0 1).toInt) from by omega), (show ((¬ (I4 2).toInt = 0) → (I4 3).toInt < (I4 4).toInt) from by omega), (show ((¬ (I0 6).toInt = 0) → (¬ (I4 6).toInt = 0)) from by omega), (show ((I0 3).toInt ≤ (I4 3).toInt) from by omega)⟩ dX12_dayHere_109 (Nat.le_of_ble_eq_true rfl) (Nat.le_of_ble_eq_true rfl)
    · have gc1 : ¬ ((I_95 6).toInt ≤ 0) := fun q0 => c1 ((tle _ _).mpr q0)
      refine lv_iconst (v := 0) hx hb dX12_dayHere_102 (by decide) ?_
      rw [hQ]
      exact q_i F hr hlk (I_95, J_95, R_95, L_95) hP hD hS ⟨hvI, hvR, hsI, hsR, (show ((0 : Int) ≤ 0 ∧ 0 ≤ (4 : Int)) from by omega), (show ((I_95 3).toInt ≤ (I_95 4).toInt) from by omega), (show ((I_95 4).toInt ≤ (I0 1).toInt) from by omega), (show ((¬ (I_95 2).toInt = 0) → (I_95 3).toInt < (I_95 4).toInt) from by omega), (show ((¬ (I0 6).toInt = 0) → (¬ (I_95 6).toInt = 0)) from by omega), (show ((I0 3).toInt ≤ (I_95 3).toInt) from by omega)⟩ dX12_dayHere_103 (Nat.le_of_ble_eq_true rfl) (Nat.le_of_ble_eq_true rfl)
  have lab_80 : ∀ (b0_80 : Int32) (I_80 : Nat → Int32) (J_80 : Nat → Int64) (R_80 : Nat → Nat → Int32) (L_80 : Nat → Nat → Int64) (H : Heap) (locs : List Loc) (ls : Array Slot), InvI Wm_lo Wm_hi I_80 → InvR Wm_rl R_80 → SmF ([2, 3, 4, 5, 6, 7] : List Nat) I0 I_80 → SmF ([] : List Nat) R0 R_80 → ((-1 : Int) ≤ b0_80.toInt ∧ b0_80.toInt ≤ (4 : Int)) → ((I_80 3).toInt ≤ (I_80 4).toInt) → ((I_80 4).toInt ≤ (I0 1).toInt) → ((¬ (I_80 2).toInt = 0) → (I_80 3).toInt < (I_80 4).toInt) → ((¬ (I0 6).toInt = 0) → (¬ (I_80 6).toInt = 0)) → ((I0 3).toInt ≤ (I_80 3).toInt) → va_P G.1 vwCl (Wm G g q I_80 J_80 R_80 L_80) H → va_D A (Wm G g q I_80 J_80 R_80 L_80) → va_S A s.heap H locs → lv_has ls 2 [(0, .ref (g 45))] → W p l e (rmD 3 0 0) s m [.ref (g 45)].toArray below meth c H locs 0 0 Q (F0 m 80 ls [.int b0_80]) := by
    intro b0_80 I_80 J_80 R_80 L_80 H locs ls hvI hvR hsI hsR y0_80 z0_80 z1_80 z2_80 z3_80 z4_80 hP hD hS hl
    have hv_I_80 := hvI
    have w_I_80_1 := rg (hvI 1 (by decide)) (0) (1800) rfl rfl
    have v_I_80_1 : (I_80 1).toInt = (I0 1).toInt := congrArg Int32.toInt (hsI 1 rfl)
    have w_I_80_2 := rg (hvI 2 (by decide)) (0) (3) rfl rfl
    have w_I_80_3 := rg (hvI 3 (by decide)) (0) (1800) rfl rfl
    have w_I_80_4 := rg (hvI 4 (by decide)) (0) (1800) rfl rfl
    have w_I_80_6 := rg (hvI 6 (by decide)) (0) (5) rfl rfl
    refine lv_istore_n (lv' := [(1, .int b0_80), (0, .ref (g 45))]) hx hb dX12_dayHere_80 rfl hl (by decide) rfl (fun ls hl => ?_)
    refine lv_iload_n hx hb dX12_dayHere_81 rfl (lv_at hl 0 rfl) ?_
    refine lv_iconst (v := (-1)) hx hb dX12_dayHere_82 (by decide) ?_
    refine lv_icmp_ne (tgt := 95) hx hb dX12_dayHere_83 (by decide) (fun c8 => ?_) (fun c8 => ?_)
    · have gc8 : ¬ (b0_80.toInt = (-1)) := fun q0 => c8 (Int32.toInt_inj.mp q0)
      exact lab_95 b0_80 I_80 J_80 R_80 L_80 _ _ _ hvI hvR hsI hsR (show ((-1 : Int) ≤ b0_80.toInt ∧ b0_80.toInt ≤ (4 : Int)) from by omega) (show ((I_80 6).toInt = 0 → 0 ≤ b0_80.toInt) from by omega) (show ((I_80 3).toInt ≤ (I_80 4).toInt) from by omega) (show ((I_80 4).toInt ≤ (I0 1).toInt) from by omega) (show ((¬ (I_80 2).toInt = 0) → (I_80 3).toInt < (I_80 4).toInt) from by omega) (show ((¬ (I0 6).toInt = 0) → (¬ (I_80 6).toInt = 0)) from by omega) (show ((I0 3).toInt ≤ (I_80 3).toInt) from by omega) hP hD hS (lv_sub hl [1, 0] rfl)
    · have gc8 : b0_80.toInt = (-1) := congrArg Int32.toInt c8
      refine lv_aload_n hx hb dX12_dayHere_86 rfl (lv_at hl 1 rfl) ?_
      refine lv_iconst (v := 1) hx hb dX12_dayHere_87 (by decide) ?_
      refine lv_aload_n hx hb dX12_dayHere_88 rfl (lv_at hl 1 rfl) ?_
      refine g_get F hK hP 0 (Wm_at0 G g q I_80 J_80 R_80 L_80) clX12 4 (by decide) flX12_23 rfl dX12_dayHere_89 ?_
      have w_I_80_3 := rg (hv_I_80 3 (by decide)) (0) (1800) rfl rfl
      refine wvv (As := [.int 1, .int (I_80 3)]) (rest := []) (b := (g 45)) (d := 1) F hK hP hD hS hA (s_X12_blame l G g q I_80 J_80 R_80 L_80 hvI hvR  1 ((I_80 3)) (by decide) (show ((0 : Int) ≤ (I_80 3).toInt ∧ (I_80 3).toInt ≤ (1800 : Int)) from by omega)) kmV_X12_blame mlX12_240 clX12 rfl 0 (Wm_at0 G g q I_80 J_80 R_80 L_80) ⟨(Nat.le_of_ble_eq_true rfl), (Nat.le_of_ble_eq_true rfl)⟩ hl.1 rfl (Nat.le_of_ble_eq_true rfl) dX12_dayHere_92 (fun u10 H locs hwr9 hP hD hS => ?_)
      obtain ⟨I11, J12, R13, L14⟩ := u10
      replace hP : va_P G.1 vwCl (Wm G g q I11 J12 R13 L14) H := hP
      replace hD : va_D A (Wm G g q I11 J12 R13 L14) := hD
      obtain ⟨hvI, hvR, tIr9, tRr9, F0r9⟩ := hwr9
      replace F0r9 : (¬ (I11 6).toInt = 0) := F0r9
      replace hvI : InvI Wm_lo Wm_hi I11 := hvI
      replace hvR : InvR Wm_rl R13 := hvR
      replace tIr9 : SmF ([6, 7] : List Nat) I_80 I11 := tIr9
      replace tRr9 : SmF ([] : List Nat) R_80 R13 := tRr9
      have hv_I11 := hvI
      have hsI := smF_tr hsI tIr9 (by decide)
      have hsR := smF_tr hsR tRr9 (by decide)
      have u_I11_1 : (I11 1).toInt = (I_80 1).toInt := congrArg Int32.toInt (tIr9 1 rfl)
      have u_I11_2 : (I11 2).toInt = (I_80 2).toInt := congrArg Int32.toInt (tIr9 2 rfl)
      have u_I11_3 : (I11 3).toInt = (I_80 3).toInt := congrArg Int32.toInt (tIr9 3 rfl)
      have u_I11_4 : (I11 4).toInt = (I_80 4).toInt := congrArg Int32.toInt (tIr9 4 rfl)
      have w_I11_6 := rg (hvI 6 (by decide)) (0) (5) rfl rfl
      have nr9_0 : ((I11 3).toInt ≤ (I11 4).toInt) := by omega
      have nr9_1 : ((I11 4).toInt ≤ (I0 1).toInt) := by omega
      have nr9_2 : ((¬ (I11 2).toInt = 0) → (I11 3).toInt < (I11 4).toInt) := by omega
      have nr9_3 : ((¬ (I0 6).toInt = 0) → (¬ (I11 6).toInt = 0)) := by omega
      have nr9_4 : ((I0 3).toInt ≤ (I11 3).toInt) := by omega
      clear z0_80 z1_80 z2_80 z3_80 z4_80
      exact lab_95 b0_80 I11 J12 R13 L14 _ _ _ hvI hvR hsI hsR (show ((-1 : Int) ≤ b0_80.toInt ∧ b0_80.toInt ≤ (4 : Int)) from by omega) (show ((I11 6).toInt = 0 → 0 ≤ b0_80.toInt) from by omega) (show ((I11 3).toInt ≤ (I11 4).toInt) from by omega) (show ((I11 4).toInt ≤ (I0 1).toInt) from by omega) (show ((¬ (I11 2).toInt = 0) → (I11 3).toInt < (I11 4).toInt) from by omega) (show ((¬ (I0 6).toInt = 0) → (¬ (I11 6).toInt = 0)) from by omega) (show ((I0 3).toInt ≤ (I11 3).toInt) from by omega) hP hD hS (lv_sub hl [1, 0] rfl)
  have w_I0_1 := rg (hvI 1 (by decide)) (0) (1800) rfl rfl
  have w_I0_2 := rg (hvI 2 (by decide)) (0) (3) rfl rfl
  have w_I0_3 := rg (hvI 3 (by decide)) (0) (1800) rfl rfl
  have w_I0_4 := rg (hvI 4 (by decide)) (0) (1800) rfl rfl
  have w_I0_6 := rg (hvI 6 (by decide)) (0) (5) rfl rfl
  refine lv_aload_n hx hb dX12_dayHere_0 rfl (lv_at hl 0 rfl) ?_
  refine g_get F hK hP 0 (Wm_at0 G g q I0 J0 R0 L0) clX12 8 (by decide) flX12_36 rfl dX12_dayHere_1 ?_
  have w_I0_6 := rg (hvI0 6 (by decide)) (0) (5) rfl rfl
  refine lv_if_le (tgt := 9) hx hb dX12_dayHere_4 (by decide) (fun c15 => ?_) (fun c15 => ?_)
  · have gc15 : (I0 6).toInt ≤ 0 := (tle _ _).mp c15
    refine lv_aload_n hx hb dX12_dayHere_9 rfl (lv_at hl 0 rfl) ?_
    refine lv_ldc2 hx hb hown (F.2.2.2.2 _ clX12_284) dX12_dayHere_10 ?_
    refine wvi (As := [.long 7171950]) (rest := []) (b := (g 45)) (d := 1) F hK hP hD hS hA (s_X12_isWord l G g q I0 J0 R0 L0 hvI hvR  7171950 ) kmV_X12_isWord mlX12_332 clX12 rfl 0 (Wm_at0 G g q I0 J0 R0 L0) ⟨(Nat.le_of_ble_eq_true rfl), (Nat.le_of_ble_eq_true rfl)⟩ hl.1 rfl (Nat.le_of_ble_eq_true rfl) dX12_dayHere_13 (fun r16 u17 H locs hwr16 hP hD hS => ?_)
    have F0r16 := hwr16
    replace F0r16 : ((0 : Int) ≤ r16.toInt ∧ r16.toInt ≤ (1 : Int)) := F0r16
    refine lv_if_eq (tgt := 23) hx hb dX12_dayHere_16 (by decide) (fun c18 => ?_) (fun c18 => ?_)
    · have gc18 : r16.toInt = 0 := congrArg Int32.toInt c18
      refine lv_aload_n hx hb dX12_dayHere_23 rfl (lv_at hl 0 rfl) ?_
      refine lv_ldc2 hx hb hown (F.2.2.2.2 _ clX12_286) dX12_dayHere_24 ?_
      refine wvi (As := [.long 7632229]) (rest := []) (b := (g 45)) (d := 1) F hK hP hD hS hA (s_X12_isWord l G g q I0 J0 R0 L0 hvI hvR  7632229 ) kmV_X12_isWord mlX12_332 clX12 rfl 0 (Wm_at0 G g q I0 J0 R0 L0) ⟨(Nat.le_of_ble_eq_true rfl), (Nat.le_of_ble_eq_true rfl)⟩ hl.1 rfl (Nat.le_of_ble_eq_true rfl) dX12_dayHere_27 (fun r19 u20 H locs hwr19 hP hD hS => ?_)
      have F0r19 := hwr19
      replace F0r19 : ((0 : Int) ≤ r19.toInt ∧ r19.toInt ≤ (1 : Int)) := F0r19
      refine lv_if_eq (tgt := 37) hx hb dX12_dayHere_30 (by decide) (fun c21 => ?_) (fun c21 => ?_)
      · have gc21 : r19.toInt = 0 := congrArg Int32.toInt c21
        refine lv_aload_n hx hb dX12_dayHere_37 rfl (lv_at hl 0 rfl) ?_
        refine lv_ldc2 hx hb hown (F.2.2.2.2 _ clX12_288) dX12_dayHere_38 ?_
        refine wvi (As := [.long 7824740]) (rest := []) (b := (g 45)) (d := 1) F hK hP hD hS hA (s_X12_isWord l G g q I0 J0 R0 L0 hvI hvR  7824740 ) kmV_X12_isWord mlX12_332 clX12 rfl 0 (Wm_at0 G g q I0 J0 R0 L0) ⟨(Nat.le_of_ble_eq_true rfl), (Nat.le_of_ble_eq_true rfl)⟩ hl.1 rfl (Nat.le_of_ble_eq_true rfl) dX12_dayHere_41 (fun r22 u23 H locs hwr22 hP hD hS => ?_)
        have F0r22 := hwr22
        replace F0r22 : ((0 : Int) ≤ r22.toInt ∧ r22.toInt ≤ (1 : Int)) := F0r22
        refine lv_if_eq (tgt := 51) hx hb dX12_dayHere_44 (by decide) (fun c24 => ?_) (fun c24 => ?_)
        · have gc24 : r22.toInt = 0 := congrArg Int32.toInt c24
          refine lv_aload_n hx hb dX12_dayHere_51 rfl (lv_at hl 0 rfl) ?_
          refine lv_ldc2 hx hb hown (F.2.2.2.2 _ clX12_290) dX12_dayHere_52 ?_
          refine wvi (As := [.long 7628917]) (rest := []) (b := (g 45)) (d := 1) F hK hP hD hS hA (s_X12_isWord l G g q I0 J0 R0 L0 hvI hvR  7628917 ) kmV_X12_isWord mlX12_332 clX12 rfl 0 (Wm_at0 G g q I0 J0 R0 L0) ⟨(Nat.le_of_ble_eq_true rfl), (Nat.le_of_ble_eq_true rfl)⟩ hl.1 rfl (Nat.le_of_ble_eq_true rfl) dX12_dayHere_55 (fun r25 u26 H locs hwr25 hP hD hS => ?_)
          have F0r25 := hwr25
          replace F0r25 : ((0 : Int) ≤ r25.toInt ∧ r25.toInt ≤ (1 : Int)) := F0r25
          refine lv_if_eq (tgt := 65) hx hb dX12_dayHere_58 (by decide) (fun c27 => ?_) (fun c27 => ?_)
          · have gc27 : r25.toInt = 0 := congrArg Int32.toInt c27
            refine lv_aload_n hx hb dX12_dayHere_65 rfl (lv_at hl 0 rfl) ?_
            refine lv_ldc2 hx hb hown (F.2.2.2.2 _ clX12_292) dX12_dayHere_66 ?_
            refine wvi (As := [.long 6713961]) (rest := []) (b := (g 45)) (d := 1) F hK hP hD hS hA (s_X12_isWord l G g q I0 J0 R0 L0 hvI hvR  6713961 ) kmV_X12_isWord mlX12_332 clX12 rfl 0 (Wm_at0 G g q I0 J0 R0 L0) ⟨(Nat.le_of_ble_eq_true rfl), (Nat.le_of_ble_eq_true rfl)⟩ hl.1 rfl (Nat.le_of_ble_eq_true rfl) dX12_dayHere_69 (fun r28 u29 H locs hwr28 hP hD hS => ?_)
            have F0r28 := hwr28
            replace F0r28 : ((0 : Int) ≤ r28.toInt ∧ r28.toInt ≤ (1 : Int)) := F0r28
            refine lv_if_eq (tgt := 79) hx hb dX12_dayHere_72 (by decide) (fun c30 => ?_) (fun c30 => ?_)
            · have gc30 : r28.toInt = 0 := congrArg Int32.toInt c30
              refine lv_iconst (v := (-1)) hx hb dX12_dayHere_79 (by decide) ?_
              exact lab_80 ((-1)) I0 J0 R0 L0 _ _ _ hvI hvR hsI hsR (by decide) (show ((I0 3).toInt ≤ (I0 4).toInt) from by omega) (show ((I0 4).toInt ≤ (I0 1).toInt) from by omega) (show ((¬ (I0 2).toInt = 0) → (I0 3).toInt < (I0 4).toInt) from by omega) (show ((¬ (I0 6).toInt = 0) → (¬ (I0 6).toInt = 0)) from by omega) (show ((I0 3).toInt ≤ (I0 3).toInt) from by omega) hP hD hS (lv_sub hl [0] rfl)
            · have gc30 : ¬ (r28.toInt = 0) := fun q0 => c30 (Int32.toInt_inj.mp q0)
              refine lv_iconst (v := 4) hx hb dX12_dayHere_75 (by decide) ?_
              refine lv_goto (tgt := 80) hx hb dX12_dayHere_76 (by decide) ?_
              exact lab_80 4 I0 J0 R0 L0 _ _ _ hvI hvR hsI hsR (by decide) (show ((I0 3).toInt ≤ (I0 4).toInt) from by omega) (show ((I0 4).toInt ≤ (I0 1).toInt) from by omega) (show ((¬ (I0 2).toInt = 0) → (I0 3).toInt < (I0 4).toInt) from by omega) (show ((¬ (I0 6).toInt = 0) → (¬ (I0 6).toInt = 0)) from by omega) (show ((I0 3).toInt ≤ (I0 3).toInt) from by omega) hP hD hS (lv_sub hl [0] rfl)
          · have gc27 : ¬ (r25.toInt = 0) := fun q0 => c27 (Int32.toInt_inj.mp q0)
            refine lv_iconst (v := 3) hx hb dX12_dayHere_61 (by decide) ?_
            refine lv_goto (tgt := 80) hx hb dX12_dayHere_62 (by decide) ?_
            exact lab_80 3 I0 J0 R0 L0 _ _ _ hvI hvR hsI hsR (by decide) (show ((I0 3).toInt ≤ (I0 4).toInt) from by omega) (show ((I0 4).toInt ≤ (I0 1).toInt) from by omega) (show ((¬ (I0 2).toInt = 0) → (I0 3).toInt < (I0 4).toInt) from by omega) (show ((¬ (I0 6).toInt = 0) → (¬ (I0 6).toInt = 0)) from by omega) (show ((I0 3).toInt ≤ (I0 3).toInt) from by omega) hP hD hS (lv_sub hl [0] rfl)
        · have gc24 : ¬ (r22.toInt = 0) := fun q0 => c24 (Int32.toInt_inj.mp q0)
          refine lv_iconst (v := 2) hx hb dX12_dayHere_47 (by decide) ?_
          refine lv_goto (tgt := 80) hx hb dX12_dayHere_48 (by decide) ?_
          exact lab_80 2 I0 J0 R0 L0 _ _ _ hvI hvR hsI hsR (by decide) (show ((I0 3).toInt ≤ (I0 4).toInt) from by omega) (show ((I0 4).toInt ≤ (I0 1).toInt) from by omega) (show ((¬ (I0 2).toInt = 0) → (I0 3).toInt < (I0 4).toInt) from by omega) (show ((¬ (I0 6).toInt = 0) → (¬ (I0 6).toInt = 0)) from by omega) (show ((I0 3).toInt ≤ (I0 3).toInt) from by omega) hP hD hS (lv_sub hl [0] rfl)
      · have gc21 : ¬ (r19.toInt = 0) := fun q0 => c21 (Int32.toInt_inj.mp q0)
        refine lv_iconst (v := 1) hx hb dX12_dayHere_33 (by decide) ?_
        refine lv_goto (tgt := 80) hx hb dX12_dayHere_34 (by decide) ?_
        exact lab_80 1 I0 J0 R0 L0 _ _ _ hvI hvR hsI hsR (by decide) (show ((I0 3).toInt ≤ (I0 4).toInt) from by omega) (show ((I0 4).toInt ≤ (I0 1).toInt) from by omega) (show ((¬ (I0 2).toInt = 0) → (I0 3).toInt < (I0 4).toInt) from by omega) (show ((¬ (I0 6).toInt = 0) → (¬ (I0 6).toInt = 0)) from by omega) (show ((I0 3).toInt ≤ (I0 3).toInt) from by omega) hP hD hS (lv_sub hl [0] rfl)
    · have gc18 : ¬ (r16.toInt = 0) := fun q0 => c18 (Int32.toInt_inj.mp q0)
      refine lv_iconst (v := 0) hx hb dX12_dayHere_19 (by decide) ?_
      refine lv_goto (tgt := 80) hx hb dX12_dayHere_20 (by decide) ?_
      exact lab_80 0 I0 J0 R0 L0 _ _ _ hvI hvR hsI hsR (by decide) (show ((I0 3).toInt ≤ (I0 4).toInt) from by omega) (show ((I0 4).toInt ≤ (I0 1).toInt) from by omega) (show ((¬ (I0 2).toInt = 0) → (I0 3).toInt < (I0 4).toInt) from by omega) (show ((¬ (I0 6).toInt = 0) → (¬ (I0 6).toInt = 0)) from by omega) (show ((I0 3).toInt ≤ (I0 3).toInt) from by omega) hP hD hS (lv_sub hl [0] rfl)
  · have gc15 : ¬ ((I0 6).toInt ≤ 0) := fun q0 => c15 ((tle _ _).mpr q0)
    refine lv_iconst (v := 0) hx hb dX12_dayHere_7 (by decide) ?_
    rw [hQ]
    exact q_i F hr hlk (I0, J0, R0, L0) hP hD hS ⟨hvI, hvR, hsI, hsR, (show ((0 : Int) ≤ 0 ∧ 0 ≤ (4 : Int)) from by omega), (show ((I0 3).toInt ≤ (I0 4).toInt) from by omega), (show ((I0 4).toInt ≤ (I0 1).toInt) from by omega), (show ((¬ (I0 2).toInt = 0) → (I0 3).toInt < (I0 4).toInt) from by omega), (show ((¬ (I0 6).toInt = 0) → (¬ (I0 6).toInt = 0)) from by omega), (show ((I0 3).toInt ≤ (I0 3).toInt) from by omega)⟩ dX12_dayHere_8 (Nat.le_of_ble_eq_true rfl) (Nat.le_of_ble_eq_true rfl)
set_option maxHeartbeats 4000000 in
set_option maxRecDepth 100000 in
theorem s_X12_number (l : Launch) (G : Gx) (g q : Nat → Nat) (I0 : Nat → Int32) (J0 : Nat → Int64) (R0 : Nat → Nat → Int32) (L0 : Nat → Nat → Int64) (hvI : InvI Wm_lo Wm_hi I0) (hvR : InvR Wm_rl R0)  (p1 : Int32) (p2 : Int32) (hp1 : ((0 : Int) ≤ p1.toInt ∧ p1.toInt ≤ (0 : Int))) (hp2 : ((4 : Int) ≤ p2.toInt ∧ p2.toInt ≤ (999 : Int))) (hpre0 : ((I0 3).toInt ≤ (I0 4).toInt)) (hpre1 : ((I0 4).toInt ≤ (I0 1).toInt)) (hpre2 : ((¬ (I0 2).toInt = 0) → (I0 3).toInt < (I0 4).toInt)) : CtI (S := St) l yX12_number cX12_number 4 (some .int) (rmD 3 0 0) G [.ref (g 45), .int p1, .int p2] (Wm G g q I0 J0 R0 L0) (fun r u => InvI Wm_lo Wm_hi u.1 ∧ InvR Wm_rl u.2.2.1 ∧ SmF ([2, 3, 4, 5, 6, 7] : List Nat) I0 u.1 ∧ SmF ([] : List Nat) R0 u.2.2.1 ∧ ((0 : Int) ≤ r.toInt ∧ r.toInt ≤ (9999 : Int)) ∧ ((u.1 3).toInt ≤ (u.1 4).toInt) ∧ ((u.1 4).toInt ≤ (I0 1).toInt) ∧ ((¬ (u.1 2).toInt = 0) → (u.1 3).toInt < (u.1 4).toInt) ∧ ((¬ (I0 6).toInt = 0) → (¬ (u.1 6).toInt = 0)) ∧ ((I0 3).toInt ≤ (u.1 3).toInt)) (fun u => Wm G g q u.1 u.2.1 u.2.2.1 u.2.2.2) := by
  refine ctI_of (own := RX12) (by decide +kernel) rfl (Nat.le_of_ble_eq_true rfl) ?_
  intro p e s m below meth c A ls F hr hlk hnm hK hP hD hA hS hl
  have hx := F.1
  have hb := F.2.1
  have hown := F.2.2.2.1
  have hl : lv_has ls 4 [(0, .ref (g 45)), (1, .int p1), (2, .int p2)] := hl
  obtain ⟨Q, hQ⟩ : ∃ Q : State → Prop, Q = MQ below (va_Qi (S := St) (fun r u => InvI Wm_lo Wm_hi u.1 ∧ InvR Wm_rl u.2.2.1 ∧ SmF ([2, 3, 4, 5, 6, 7] : List Nat) I0 u.1 ∧ SmF ([] : List Nat) R0 u.2.2.1 ∧ ((0 : Int) ≤ r.toInt ∧ r.toInt ≤ (9999 : Int)) ∧ ((u.1 3).toInt ≤ (u.1 4).toInt) ∧ ((u.1 4).toInt ≤ (I0 1).toInt) ∧ ((¬ (u.1 2).toInt = 0) → (u.1 3).toInt < (u.1 4).toInt) ∧ ((¬ (I0 6).toInt = 0) → (¬ (u.1 6).toInt = 0)) ∧ ((I0 3).toInt ≤ (u.1 3).toInt)) (BX G A (fun u => Wm G g q u.1 u.2.1 u.2.2.1 u.2.2.2)) A) [.ref (g 45), .int p1, .int p2].toArray s 0 0 A := ⟨_, rfl⟩
  rw [show (MQ below (va_Qi (S := St) (fun r u => InvI Wm_lo Wm_hi u.1 ∧ InvR Wm_rl u.2.2.1 ∧ SmF ([2, 3, 4, 5, 6, 7] : List Nat) I0 u.1 ∧ SmF ([] : List Nat) R0 u.2.2.1 ∧ ((0 : Int) ≤ r.toInt ∧ r.toInt ≤ (9999 : Int)) ∧ ((u.1 3).toInt ≤ (u.1 4).toInt) ∧ ((u.1 4).toInt ≤ (I0 1).toInt) ∧ ((¬ (u.1 2).toInt = 0) → (u.1 3).toInt < (u.1 4).toInt) ∧ ((¬ (I0 6).toInt = 0) → (¬ (u.1 6).toInt = 0)) ∧ ((I0 3).toInt ≤ (u.1 3).toInt)) (BX G A (fun u => Wm G g q u.1 u.2.1 u.2.2.1 u.2.2.2)) A) [.ref (g 45), .int p1, .int p2].toArray s (rmD 3 0 0).cells (rmD 3 0 0).slots A) = Q from hQ.symm]
  have hsI := smF_rf ([2, 3, 4, 5, 6, 7] : List Nat) I0
  have hsR := smF_rf ([] : List Nat) R0
  have hvI0 := hvI
  have lab_54 : ∀  (I_54 : Nat → Int32) (J_54 : Nat → Int64) (R_54 : Nat → Nat → Int32) (L_54 : Nat → Nat → Int64) (H : Heap) (locs : List Loc) (ls : Array Slot), InvI Wm_lo Wm_hi I_54 → InvR Wm_rl R_54 → SmF ([2, 3, 4, 5, 6, 7] : List Nat) I0 I_54 → SmF ([] : List Nat) R0 R_54 → ((I_54 3).toInt ≤ (I_54 4).toInt) → ((I_54 4).toInt ≤ (I0 1).toInt) → ((¬ (I_54 2).toInt = 0) → (I_54 3).toInt < (I_54 4).toInt) → ((¬ (I0 6).toInt = 0) → (¬ (I_54 6).toInt = 0)) → ((I0 3).toInt ≤ (I_54 3).toInt) → va_P G.1 vwCl (Wm G g q I_54 J_54 R_54 L_54) H → va_D A (Wm G g q I_54 J_54 R_54 L_54) → va_S A s.heap H locs → lv_has ls 4 [(0, .ref (g 45))] → W p l e (rmD 3 0 0) s m [.ref (g 45), .int p1, .int p2].toArray below meth c H locs 0 0 Q (F0 m 54 ls []) := by
    intro I_54 J_54 R_54 L_54 H locs ls hvI hvR hsI hsR z0_54 z1_54 z2_54 z3_54 z4_54 hP hD hS hl
    have hv_I_54 := hvI
    have w_I_54_1 := rg (hvI 1 (by decide)) (0) (1800) rfl rfl
    have v_I_54_1 : (I_54 1).toInt = (I0 1).toInt := congrArg Int32.toInt (hsI 1 rfl)
    have w_I_54_2 := rg (hvI 2 (by decide)) (0) (3) rfl rfl
    have w_I_54_3 := rg (hvI 3 (by decide)) (0) (1800) rfl rfl
    have w_I_54_4 := rg (hvI 4 (by decide)) (0) (1800) rfl rfl
    have w_I_54_6 := rg (hvI 6 (by decide)) (0) (5) rfl rfl
    refine lv_aload_n hx hb dX12_number_54 rfl (lv_at hl 0 rfl) ?_
    refine g_get F hK hP 0 (Wm_at0 G g q I_54 J_54 R_54 L_54) clX12 6 (by decide) flX12_29 rfl dX12_number_55 ?_
    have w_I_54_5 := rg (hv_I_54 5 (by decide)) (0) (9999) rfl rfl
    refine lv_istore_n (lv' := [(3, .int (I_54 5)), (0, .ref (g 45))]) hx hb dX12_number_58 rfl hl (by decide) rfl (fun ls hl => ?_)
    refine lv_aload_n hx hb dX12_number_59 rfl (lv_at hl 1 rfl) ?_
    refine g_get F hK hP 0 (Wm_at0 G g q I_54 J_54 R_54 L_54) clX12 8 (by decide) flX12_36 rfl dX12_number_60 ?_
    have w_I_54_6 := rg (hv_I_54 6 (by decide)) (0) (5) rfl rfl
    refine lv_if_ne (tgt := 70) hx hb dX12_number_63 (by decide) (fun c1 => ?_) (fun c1 => ?_)
    · have gc1 : ¬ ((I_54 6).toInt = 0) := fun q0 => c1 (Int32.toInt_inj.mp q0)
      refine lv_iload_n hx hb dX12_number_70 rfl (lv_at hl 0 rfl) ?_
      rw [hQ]
      exact q_i F hr hlk (I_54, J_54, R_54, L_54) hP hD hS ⟨hvI, hvR, hsI, hsR, (show ((0 : Int) ≤ (I_54 5).toInt ∧ (I_54 5).toInt ≤ (9999 : Int)) from by omega), (show ((I_54 3).toInt ≤ (I_54 4).toInt) from by omega), (show ((I_54 4).toInt ≤ (I0 1).toInt) from by omega), (show ((¬ (I_54 2).toInt = 0) → (I_54 3).toInt < (I_54 4).toInt) from by omega), (show ((¬ (I0 6).toInt = 0) → (¬ (I_54 6).toInt = 0)) from by omega), (show ((I0 3).toInt ≤ (I_54 3).toInt) from by omega)⟩ dX12_number_71 (Nat.le_of_ble_eq_true rfl) (Nat.le_of_ble_eq_true rfl)
    · have gc1 : (I_54 6).toInt = 0 := congrArg Int32.toInt c1
      refine lv_aload_n hx hb dX12_number_66 rfl (lv_at hl 1 rfl) ?_
      refine wvv (As := []) (rest := []) (b := (g 45)) (d := 2) F hK hP hD hS hA (s_X12_ahead l G g q I_54 J_54 R_54 L_54 hvI hvR   (by omega) (by omega) (by omega)) kmV_X12_ahead mlX12_247 clX12 rfl 0 (Wm_at0 G g q I_54 J_54 R_54 L_54) ⟨(Nat.le_of_ble_eq_true rfl), (Nat.le_of_ble_eq_true rfl)⟩ hl.1 rfl (Nat.le_of_ble_eq_true rfl) dX12_number_67 (fun u3 H locs hwr2 hP hD hS => ?_)
      obtain ⟨I4, J5, R6, L7⟩ := u3
      replace hP : va_P G.1 vwCl (Wm G g q I4 J5 R6 L7) H := hP
      replace hD : va_D A (Wm G g q I4 J5 R6 L7) := hD
      obtain ⟨hvI, hvR, tIr2, tRr2, F0r2, F1r2, F2r2, F3r2, F4r2, F5r2⟩ := hwr2
      replace F0r2 : ((I_54 4).toInt ≤ (I4 3).toInt) := F0r2
      replace F1r2 : ((I4 3).toInt ≤ (I4 4).toInt) := F1r2
      replace F2r2 : ((I4 4).toInt ≤ (I_54 1).toInt) := F2r2
      replace F3r2 : ((¬ (I4 2).toInt = 0) → (I4 3).toInt < (I4 4).toInt) := F3r2
      replace F4r2 : ((¬ (I_54 6).toInt = 0) → (¬ (I4 6).toInt = 0)) := F4r2
      replace F5r2 : ((I_54 3).toInt ≤ (I4 3).toInt) := F5r2
      replace hvI : InvI Wm_lo Wm_hi I4 := hvI
      replace hvR : InvR Wm_rl R6 := hvR
      replace tIr2 : SmF ([2, 3, 4, 5, 6, 7] : List Nat) I_54 I4 := tIr2
      replace tRr2 : SmF ([] : List Nat) R_54 R6 := tRr2
      have hv_I4 := hvI
      have hsI := smF_tr hsI tIr2 (by decide)
      have hsR := smF_tr hsR tRr2 (by decide)
      have u_I4_1 : (I4 1).toInt = (I_54 1).toInt := congrArg Int32.toInt (tIr2 1 rfl)
      have w_I4_2 := rg (hvI 2 (by decide)) (0) (3) rfl rfl
      have w_I4_3 := rg (hvI 3 (by decide)) (0) (1800) rfl rfl
      have w_I4_4 := rg (hvI 4 (by decide)) (0) (1800) rfl rfl
      have w_I4_6 := rg (hvI 6 (by decide)) (0) (5) rfl rfl
      have nr2_0 : ((I4 3).toInt ≤ (I4 4).toInt) := by omega
      have nr2_1 : ((I4 4).toInt ≤ (I0 1).toInt) := by omega
      have nr2_2 : ((¬ (I4 2).toInt = 0) → (I4 3).toInt < (I4 4).toInt) := by omega
      have nr2_3 : ((¬ (I0 6).toInt = 0) → (¬ (I4 6).toInt = 0)) := by omega
      have nr2_4 : ((I0 3).toInt ≤ (I4 3).toInt) := by omega
      clear z0_54 z1_54 z2_54 z3_54 z4_54 F1r2 F2r2 F3r2 F4r2 F5r2
      refine lv_iload_n hx hb dX12_number_70 rfl (lv_at hl 0 rfl) ?_
      rw [hQ]
      exact q_i F hr hlk (I4, J5, R6, L7) hP hD hS ⟨hvI, hvR, hsI, hsR, (show ((0 : Int) ≤ (I_54 5).toInt ∧ (I_54 5).toInt ≤ (9999 : Int)) from by omega), (show ((I4 3).toInt ≤ (I4 4).toInt) from by omega), (show ((I4 4).toInt ≤ (I0 1).toInt) from by omega), (show ((¬ (I4 2).toInt = 0) → (I4 3).toInt < (I4 4).toInt) from by omega), (show ((¬ (I0 6).toInt = 0) → (¬ (I4 6).toInt = 0)) from by omega), (show ((I0 3).toInt ≤ (I4 3).toInt) from by omega)⟩ dX12_number_71 (Nat.le_of_ble_eq_true rfl) (Nat.le_of_ble_eq_true rfl)
  have lab_26 : ∀  (I_26 : Nat → Int32) (J_26 : Nat → Int64) (R_26 : Nat → Nat → Int32) (L_26 : Nat → Nat → Int64) (H : Heap) (locs : List Loc) (ls : Array Slot), InvI Wm_lo Wm_hi I_26 → InvR Wm_rl R_26 → SmF ([2, 3, 4, 5, 6, 7] : List Nat) I0 I_26 → SmF ([] : List Nat) R0 R_26 → ((I_26 3).toInt ≤ (I_26 4).toInt) → ((I_26 4).toInt ≤ (I0 1).toInt) → ((¬ (I_26 2).toInt = 0) → (I_26 3).toInt < (I_26 4).toInt) → ((¬ (I0 6).toInt = 0) → (¬ (I_26 6).toInt = 0)) → ((I0 3).toInt ≤ (I_26 3).toInt) → va_P G.1 vwCl (Wm G g q I_26 J_26 R_26 L_26) H → va_D A (Wm G g q I_26 J_26 R_26 L_26) → va_S A s.heap H locs → lv_has ls 4 [(0, .ref (g 45)), (1, .int p1), (2, .int p2)] → W p l e (rmD 3 0 0) s m [.ref (g 45), .int p1, .int p2].toArray below meth c H locs 0 0 Q (F0 m 26 ls []) := by
    intro I_26 J_26 R_26 L_26 H locs ls hvI hvR hsI hsR z0_26 z1_26 z2_26 z3_26 z4_26 hP hD hS hl
    have hv_I_26 := hvI
    have w_I_26_1 := rg (hvI 1 (by decide)) (0) (1800) rfl rfl
    have v_I_26_1 : (I_26 1).toInt = (I0 1).toInt := congrArg Int32.toInt (hsI 1 rfl)
    have w_I_26_2 := rg (hvI 2 (by decide)) (0) (3) rfl rfl
    have w_I_26_3 := rg (hvI 3 (by decide)) (0) (1800) rfl rfl
    have w_I_26_4 := rg (hvI 4 (by decide)) (0) (1800) rfl rfl
    have w_I_26_6 := rg (hvI 6 (by decide)) (0) (5) rfl rfl
    refine lv_aload_n hx hb dX12_number_26 rfl (lv_at hl 0 rfl) ?_
    refine g_get F hK hP 0 (Wm_at0 G g q I_26 J_26 R_26 L_26) clX12 8 (by decide) flX12_36 rfl dX12_number_27 ?_
    have w_I_26_6 := rg (hv_I_26 6 (by decide)) (0) (5) rfl rfl
    refine lv_if_ne (tgt := 54) hx hb dX12_number_30 (by decide) (fun c8 => ?_) (fun c8 => ?_)
    · have gc8 : ¬ ((I_26 6).toInt = 0) := fun q0 => c8 (Int32.toInt_inj.mp q0)
      exact lab_54  I_26 J_26 R_26 L_26 _ _ _ hvI hvR hsI hsR (show ((I_26 3).toInt ≤ (I_26 4).toInt) from by omega) (show ((I_26 4).toInt ≤ (I0 1).toInt) from by omega) (show ((¬ (I_26 2).toInt = 0) → (I_26 3).toInt < (I_26 4).toInt) from by omega) (show ((¬ (I0 6).toInt = 0) → (¬ (I_26 6).toInt = 0)) from by omega) (show ((I0 3).toInt ≤ (I_26 3).toInt) from by omega) hP hD hS (lv_sub hl [0] rfl)
    · have gc8 : (I_26 6).toInt = 0 := congrArg Int32.toInt c8
      refine lv_aload_n hx hb dX12_number_33 rfl (lv_at hl 0 rfl) ?_
      refine g_get F hK hP 0 (Wm_at0 G g q I_26 J_26 R_26 L_26) clX12 6 (by decide) flX12_29 rfl dX12_number_34 ?_
      have w_I_26_5 := rg (hv_I_26 5 (by decide)) (0) (9999) rfl rfl
      refine lv_iload_n hx hb dX12_number_37 rfl (lv_at hl 1 rfl) ?_
      refine lv_iload_n hx hb dX12_number_38 rfl (lv_at hl 2 rfl) ?_
      refine w0i (As := [.int (I_26 5), .int p1, .int p2]) (rest := []) (d := 1) F hK hP hD hS hA (s_X12_is l G  ((I_26 5)) p1 p2 (show ((0 : Int) ≤ p1.toInt ∧ p1.toInt ≤ (1 : Int)) from by omega) (show ((-1 : Int) ≤ p2.toInt ∧ p2.toInt ≤ (2000 : Int)) from by omega)) kmS_X12_is mlX12_316 ⟨(Nat.le_of_ble_eq_true rfl), (Nat.le_of_ble_eq_true rfl)⟩ hl.1 rfl (Nat.le_of_ble_eq_true rfl) dX12_number_39 (fun r9 u10 H locs hwr9 hP hD hS => ?_)
      obtain ⟨F0r9, F1r9⟩ := hwr9
      replace F0r9 : ((0 : Int) ≤ r9.toInt ∧ r9.toInt ≤ (1 : Int)) := F0r9
      replace F1r9 : (r9.toInt = 1 → (p1.toInt ≤ (I_26 5).toInt ∧ (I_26 5).toInt ≤ p2.toInt)) := F1r9
      refine lv_if_ne (tgt := 54) hx hb dX12_number_42 (by decide) (fun c11 => ?_) (fun c11 => ?_)
      · have gc11 : ¬ (r9.toInt = 0) := fun q0 => c11 (Int32.toInt_inj.mp q0)
        exact lab_54  I_26 J_26 R_26 L_26 _ _ _ hvI hvR hsI hsR (show ((I_26 3).toInt ≤ (I_26 4).toInt) from by omega) (show ((I_26 4).toInt ≤ (I0 1).toInt) from by omega) (show ((¬ (I_26 2).toInt = 0) → (I_26 3).toInt < (I_26 4).toInt) from by omega) (show ((¬ (I0 6).toInt = 0) → (¬ (I_26 6).toInt = 0)) from by omega) (show ((I0 3).toInt ≤ (I_26 3).toInt) from by omega) hP hD hS (lv_sub hl [0] rfl)
      · have gc11 : r9.toInt = 0 := congrArg Int32.toInt c11
        refine lv_aload_n hx hb dX12_number_45 rfl (lv_at hl 0 rfl) ?_
        refine lv_iconst (v := 4) hx hb dX12_number_46 (by decide) ?_
        refine lv_aload_n hx hb dX12_number_47 rfl (lv_at hl 0 rfl) ?_
        refine g_get F hK hP 0 (Wm_at0 G g q I_26 J_26 R_26 L_26) clX12 4 (by decide) flX12_23 rfl dX12_number_48 ?_
        have w_I_26_3 := rg (hv_I_26 3 (by decide)) (0) (1800) rfl rfl
        refine wvv (As := [.int 4, .int (I_26 3)]) (rest := []) (b := (g 45)) (d := 1) F hK hP hD hS hA (s_X12_blame l G g q I_26 J_26 R_26 L_26 hvI hvR  4 ((I_26 3)) (by decide) (show ((0 : Int) ≤ (I_26 3).toInt ∧ (I_26 3).toInt ≤ (1800 : Int)) from by omega)) kmV_X12_blame mlX12_240 clX12 rfl 0 (Wm_at0 G g q I_26 J_26 R_26 L_26) ⟨(Nat.le_of_ble_eq_true rfl), (Nat.le_of_ble_eq_true rfl)⟩ hl.1 rfl (Nat.le_of_ble_eq_true rfl) dX12_number_51 (fun u13 H locs hwr12 hP hD hS => ?_)
        obtain ⟨I14, J15, R16, L17⟩ := u13
        replace hP : va_P G.1 vwCl (Wm G g q I14 J15 R16 L17) H := hP
        replace hD : va_D A (Wm G g q I14 J15 R16 L17) := hD
        obtain ⟨hvI, hvR, tIr12, tRr12, F0r12⟩ := hwr12
        replace F0r12 : (¬ (I14 6).toInt = 0) := F0r12
        replace hvI : InvI Wm_lo Wm_hi I14 := hvI
        replace hvR : InvR Wm_rl R16 := hvR
        replace tIr12 : SmF ([6, 7] : List Nat) I_26 I14 := tIr12
        replace tRr12 : SmF ([] : List Nat) R_26 R16 := tRr12
        have hv_I14 := hvI
        have hsI := smF_tr hsI tIr12 (by decide)
        have hsR := smF_tr hsR tRr12 (by decide)
        have u_I14_1 : (I14 1).toInt = (I_26 1).toInt := congrArg Int32.toInt (tIr12 1 rfl)
        have u_I14_2 : (I14 2).toInt = (I_26 2).toInt := congrArg Int32.toInt (tIr12 2 rfl)
        have u_I14_3 : (I14 3).toInt = (I_26 3).toInt := congrArg Int32.toInt (tIr12 3 rfl)
        have u_I14_4 : (I14 4).toInt = (I_26 4).toInt := congrArg Int32.toInt (tIr12 4 rfl)
        have w_I14_6 := rg (hvI 6 (by decide)) (0) (5) rfl rfl
        have nr12_0 : ((I14 3).toInt ≤ (I14 4).toInt) := by omega
        have nr12_1 : ((I14 4).toInt ≤ (I0 1).toInt) := by omega
        have nr12_2 : ((¬ (I14 2).toInt = 0) → (I14 3).toInt < (I14 4).toInt) := by omega
        have nr12_3 : ((¬ (I0 6).toInt = 0) → (¬ (I14 6).toInt = 0)) := by omega
        have nr12_4 : ((I0 3).toInt ≤ (I14 3).toInt) := by omega
        clear z0_26 z1_26 z2_26 z3_26 z4_26
        exact lab_54  I14 J15 R16 L17 _ _ _ hvI hvR hsI hsR (show ((I14 3).toInt ≤ (I14 4).toInt) from by omega) (show ((I14 4).toInt ≤ (I0 1).toInt) from by omega) (show ((¬ (I14 2).toInt = 0) → (I14 3).toInt < (I14 4).toInt) from by omega) (show ((¬ (I0 6).toInt = 0) → (¬ (I14 6).toInt = 0)) from by omega) (show ((I0 3).toInt ≤ (I14 3).toInt) from by omega) hP hD hS (lv_sub hl [0] rfl)
  have w_I0_1 := rg (hvI 1 (by decide)) (0) (1800) rfl rfl
  have w_I0_2 := rg (hvI 2 (by decide)) (0) (3) rfl rfl
  have w_I0_3 := rg (hvI 3 (by decide)) (0) (1800) rfl rfl
  have w_I0_4 := rg (hvI 4 (by decide)) (0) (1800) rfl rfl
  have w_I0_6 := rg (hvI 6 (by decide)) (0) (5) rfl rfl
  refine lv_aload_n hx hb dX12_number_0 rfl (lv_at hl 0 rfl) ?_
  refine g_get F hK hP 0 (Wm_at0 G g q I0 J0 R0 L0) clX12 8 (by decide) flX12_36 rfl dX12_number_1 ?_
  have w_I0_6 := rg (hvI0 6 (by decide)) (0) (5) rfl rfl
  refine lv_if_le (tgt := 9) hx hb dX12_number_4 (by decide) (fun c18 => ?_) (fun c18 => ?_)
  · have gc18 : (I0 6).toInt ≤ 0 := (tle _ _).mp c18
    refine lv_aload_n hx hb dX12_number_9 rfl (lv_at hl 0 rfl) ?_
    refine g_get F hK hP 0 (Wm_at0 G g q I0 J0 R0 L0) clX12 3 (by decide) flX12_20 rfl dX12_number_10 ?_
    have w_I0_2 := rg (hvI0 2 (by decide)) (0) (3) rfl rfl
    refine lv_iconst (v := 2) hx hb dX12_number_13 (by decide) ?_
    refine lv_icmp_eq (tgt := 26) hx hb dX12_number_14 (by decide) (fun c19 => ?_) (fun c19 => ?_)
    · have gc19 : (I0 2).toInt = 2 := congrArg Int32.toInt c19
      exact lab_26  I0 J0 R0 L0 _ _ _ hvI hvR hsI hsR (show ((I0 3).toInt ≤ (I0 4).toInt) from by omega) (show ((I0 4).toInt ≤ (I0 1).toInt) from by omega) (show ((¬ (I0 2).toInt = 0) → (I0 3).toInt < (I0 4).toInt) from by omega) (show ((¬ (I0 6).toInt = 0) → (¬ (I0 6).toInt = 0)) from by omega) (show ((I0 3).toInt ≤ (I0 3).toInt) from by omega) hP hD hS (lv_sub hl [0, 1, 2] rfl)
    · have gc19 : ¬ ((I0 2).toInt = 2) := fun q0 => c19 (Int32.toInt_inj.mp q0)
      refine lv_aload_n hx hb dX12_number_17 rfl (lv_at hl 0 rfl) ?_
      refine lv_iconst (v := 1) hx hb dX12_number_18 (by decide) ?_
      refine lv_aload_n hx hb dX12_number_19 rfl (lv_at hl 0 rfl) ?_
      refine g_get F hK hP 0 (Wm_at0 G g q I0 J0 R0 L0) clX12 4 (by decide) flX12_23 rfl dX12_number_20 ?_
      have w_I0_3 := rg (hvI0 3 (by decide)) (0) (1800) rfl rfl
      refine wvv (As := [.int 1, .int (I0 3)]) (rest := []) (b := (g 45)) (d := 1) F hK hP hD hS hA (s_X12_blame l G g q I0 J0 R0 L0 hvI hvR  1 ((I0 3)) (by decide) (show ((0 : Int) ≤ (I0 3).toInt ∧ (I0 3).toInt ≤ (1800 : Int)) from by omega)) kmV_X12_blame mlX12_240 clX12 rfl 0 (Wm_at0 G g q I0 J0 R0 L0) ⟨(Nat.le_of_ble_eq_true rfl), (Nat.le_of_ble_eq_true rfl)⟩ hl.1 rfl (Nat.le_of_ble_eq_true rfl) dX12_number_23 (fun u21 H locs hwr20 hP hD hS => ?_)
      obtain ⟨I22, J23, R24, L25⟩ := u21
      replace hP : va_P G.1 vwCl (Wm G g q I22 J23 R24 L25) H := hP
      replace hD : va_D A (Wm G g q I22 J23 R24 L25) := hD
      obtain ⟨hvI, hvR, tIr20, tRr20, F0r20⟩ := hwr20
      replace F0r20 : (¬ (I22 6).toInt = 0) := F0r20
      replace hvI : InvI Wm_lo Wm_hi I22 := hvI
      replace hvR : InvR Wm_rl R24 := hvR
      replace tIr20 : SmF ([6, 7] : List Nat) I0 I22 := tIr20
      replace tRr20 : SmF ([] : List Nat) R0 R24 := tRr20
      have hv_I22 := hvI
      have hsI := smF_tr hsI tIr20 (by decide)
      have hsR := smF_tr hsR tRr20 (by decide)
      have u_I22_1 : (I22 1).toInt = (I0 1).toInt := congrArg Int32.toInt (tIr20 1 rfl)
      have u_I22_2 : (I22 2).toInt = (I0 2).toInt := congrArg Int32.toInt (tIr20 2 rfl)
      have u_I22_3 : (I22 3).toInt = (I0 3).toInt := congrArg Int32.toInt (tIr20 3 rfl)
      have u_I22_4 : (I22 4).toInt = (I0 4).toInt := congrArg Int32.toInt (tIr20 4 rfl)
      have w_I22_6 := rg (hvI 6 (by decide)) (0) (5) rfl rfl
      have nr20_0 : ((I22 3).toInt ≤ (I22 4).toInt) := by omega
      have nr20_1 : ((I22 4).toInt ≤ (I0 1).toInt) := by omega
      have nr20_2 : ((¬ (I22 2).toInt = 0) → (I22 3).toInt < (I22 4).toInt) := by omega
      have nr20_3 : ((¬ (I0 6).toInt = 0) → (¬ (I22 6).toInt = 0)) := by omega
      have nr20_4 : ((I0 3).toInt ≤ (I22 3).toInt) := by omega
      exact lab_26  I22 J23 R24 L25 _ _ _ hvI hvR hsI hsR (show ((I22 3).toInt ≤ (I22 4).toInt) from by omega) (show ((I22 4).toInt ≤ (I0 1).toInt) from by omega) (show ((¬ (I22 2).toInt = 0) → (I22 3).toInt < (I22 4).toInt) from by omega) (show ((¬ (I0 6).toInt = 0) → (¬ (I22 6).toInt = 0)) from by omega) (show ((I0 3).toInt ≤ (I22 3).toInt) from by omega) hP hD hS (lv_sub hl [0, 1, 2] rfl)
  · have gc18 : ¬ ((I0 6).toInt ≤ 0) := fun q0 => c18 ((tle _ _).mpr q0)
    refine lv_iconst (v := 0) hx hb dX12_number_7 (by decide) ?_
    rw [hQ]
    exact q_i F hr hlk (I0, J0, R0, L0) hP hD hS ⟨hvI, hvR, hsI, hsR, (show ((0 : Int) ≤ 0 ∧ 0 ≤ (9999 : Int)) from by omega), (show ((I0 3).toInt ≤ (I0 4).toInt) from by omega), (show ((I0 4).toInt ≤ (I0 1).toInt) from by omega), (show ((¬ (I0 2).toInt = 0) → (I0 3).toInt < (I0 4).toInt) from by omega), (show ((¬ (I0 6).toInt = 0) → (¬ (I0 6).toInt = 0)) from by omega), (show ((I0 3).toInt ≤ (I0 3).toInt) from by omega)⟩ dX12_number_8 (Nat.le_of_ble_eq_true rfl) (Nat.le_of_ble_eq_true rfl)
set_option maxHeartbeats 4000000 in
set_option maxRecDepth 100000 in
theorem s_X12_fresh (l : Launch) (G : Gx) (g q : Nat → Nat) (I0 : Nat → Int32) (J0 : Nat → Int64) (R0 : Nat → Nat → Int32) (L0 : Nat → Nat → Int64) (hvI : InvI Wm_lo Wm_hi I0) (hvR : InvR Wm_rl R0)   (hpre0 : ((I0 3).toInt ≤ (I0 4).toInt)) (hpre1 : ((I0 4).toInt ≤ (I0 1).toInt)) (hpre2 : ((¬ (I0 2).toInt = 0) → (I0 3).toInt < (I0 4).toInt)) : CtL (S := St) l yX12_fresh cX12_fresh 3 (some .long) (rmD 3 0 0) G [.ref (g 45)] (Wm G g q I0 J0 R0 L0) (fun r u => InvI Wm_lo Wm_hi u.1 ∧ InvR Wm_rl u.2.2.1 ∧ SmF ([2, 3, 4, 5, 6, 7] : List Nat) I0 u.1 ∧ SmF ([] : List Nat) R0 u.2.2.1 ∧ ((u.1 3).toInt ≤ (u.1 4).toInt) ∧ ((u.1 4).toInt ≤ (I0 1).toInt) ∧ ((¬ (u.1 2).toInt = 0) → (u.1 3).toInt < (u.1 4).toInt) ∧ ((¬ (I0 6).toInt = 0) → (¬ (u.1 6).toInt = 0)) ∧ ((I0 3).toInt ≤ (u.1 3).toInt)) (fun u => Wm G g q u.1 u.2.1 u.2.2.1 u.2.2.2) := by
  refine ctL_of (own := RX12) (by decide +kernel) rfl (Nat.le_of_ble_eq_true rfl) ?_
  intro p e s m below meth c A ls F hr hlk hnm hK hP hD hA hS hl
  have hx := F.1
  have hb := F.2.1
  have hown := F.2.2.2.1
  have hl : lv_has ls 3 [(0, .ref (g 45))] := hl
  obtain ⟨Q, hQ⟩ : ∃ Q : State → Prop, Q = MQ below (va_Ql (S := St) (fun r u => InvI Wm_lo Wm_hi u.1 ∧ InvR Wm_rl u.2.2.1 ∧ SmF ([2, 3, 4, 5, 6, 7] : List Nat) I0 u.1 ∧ SmF ([] : List Nat) R0 u.2.2.1 ∧ ((u.1 3).toInt ≤ (u.1 4).toInt) ∧ ((u.1 4).toInt ≤ (I0 1).toInt) ∧ ((¬ (u.1 2).toInt = 0) → (u.1 3).toInt < (u.1 4).toInt) ∧ ((¬ (I0 6).toInt = 0) → (¬ (u.1 6).toInt = 0)) ∧ ((I0 3).toInt ≤ (u.1 3).toInt)) (BX G A (fun u => Wm G g q u.1 u.2.1 u.2.2.1 u.2.2.2)) A) [.ref (g 45)].toArray s 0 0 A := ⟨_, rfl⟩
  rw [show (MQ below (va_Ql (S := St) (fun r u => InvI Wm_lo Wm_hi u.1 ∧ InvR Wm_rl u.2.2.1 ∧ SmF ([2, 3, 4, 5, 6, 7] : List Nat) I0 u.1 ∧ SmF ([] : List Nat) R0 u.2.2.1 ∧ ((u.1 3).toInt ≤ (u.1 4).toInt) ∧ ((u.1 4).toInt ≤ (I0 1).toInt) ∧ ((¬ (u.1 2).toInt = 0) → (u.1 3).toInt < (u.1 4).toInt) ∧ ((¬ (I0 6).toInt = 0) → (¬ (u.1 6).toInt = 0)) ∧ ((I0 3).toInt ≤ (u.1 3).toInt)) (BX G A (fun u => Wm G g q u.1 u.2.1 u.2.2.1 u.2.2.2)) A) [.ref (g 45)].toArray s (rmD 3 0 0).cells (rmD 3 0 0).slots A) = Q from hQ.symm]
  have hsI := smF_rf ([2, 3, 4, 5, 6, 7] : List Nat) I0
  have hsR := smF_rf ([] : List Nat) R0
  have hvI0 := hvI
  have lab_92 : ∀  (I_92 : Nat → Int32) (J_92 : Nat → Int64) (R_92 : Nat → Nat → Int32) (L_92 : Nat → Nat → Int64) (H : Heap) (locs : List Loc) (ls : Array Slot), InvI Wm_lo Wm_hi I_92 → InvR Wm_rl R_92 → SmF ([2, 3, 4, 5, 6, 7] : List Nat) I0 I_92 → SmF ([] : List Nat) R0 R_92 → ((I_92 3).toInt ≤ (I_92 4).toInt) → ((I_92 4).toInt ≤ (I0 1).toInt) → ((¬ (I_92 2).toInt = 0) → (I_92 3).toInt < (I_92 4).toInt) → ((¬ (I0 6).toInt = 0) → (¬ (I_92 6).toInt = 0)) → ((I0 3).toInt ≤ (I_92 3).toInt) → va_P G.1 vwCl (Wm G g q I_92 J_92 R_92 L_92) H → va_D A (Wm G g q I_92 J_92 R_92 L_92) → va_S A s.heap H locs → lv_has ls 3 [(0, .ref (g 45))] → W p l e (rmD 3 0 0) s m [.ref (g 45)].toArray below meth c H locs 0 0 Q (F0 m 92 ls []) := by
    intro I_92 J_92 R_92 L_92 H locs ls hvI hvR hsI hsR z0_92 z1_92 z2_92 z3_92 z4_92 hP hD hS hl
    have hv_I_92 := hvI
    have w_I_92_1 := rg (hvI 1 (by decide)) (0) (1800) rfl rfl
    have v_I_92_1 : (I_92 1).toInt = (I0 1).toInt := congrArg Int32.toInt (hsI 1 rfl)
    have w_I_92_2 := rg (hvI 2 (by decide)) (0) (3) rfl rfl
    have w_I_92_3 := rg (hvI 3 (by decide)) (0) (1800) rfl rfl
    have w_I_92_4 := rg (hvI 4 (by decide)) (0) (1800) rfl rfl
    have w_I_92_6 := rg (hvI 6 (by decide)) (0) (5) rfl rfl
    refine lv_aload_n hx hb dX12_fresh_92 rfl (lv_at hl 0 rfl) ?_
    refine g_get F hK hP 0 (Wm_at0 G g q I_92 J_92 R_92 L_92) clX12 7 (by decide) flX12_32 rfl dX12_fresh_93 ?_
    refine lv_lstore_n (lv' := [(1, .long (J_92 0)), (0, .ref (g 45))]) hx hb dX12_fresh_96 rfl hl (by decide) rfl (fun ls hl => ?_)
    refine lv_aload_n hx hb dX12_fresh_97 rfl (lv_at hl 1 rfl) ?_
    refine g_get F hK hP 0 (Wm_at0 G g q I_92 J_92 R_92 L_92) clX12 8 (by decide) flX12_36 rfl dX12_fresh_98 ?_
    have w_I_92_6 := rg (hv_I_92 6 (by decide)) (0) (5) rfl rfl
    refine lv_if_ne (tgt := 108) hx hb dX12_fresh_101 (by decide) (fun c1 => ?_) (fun c1 => ?_)
    · have gc1 : ¬ ((I_92 6).toInt = 0) := fun q0 => c1 (Int32.toInt_inj.mp q0)
      refine lv_lload_n hx hb dX12_fresh_108 rfl (lv_at hl 0 rfl) ?_
      rw [hQ]
      exact q_l F hr hlk (I_92, J_92, R_92, L_92) hP hD hS ⟨hvI, hvR, hsI, hsR, (show ((I_92 3).toInt ≤ (I_92 4).toInt) from by omega), (show ((I_92 4).toInt ≤ (I0 1).toInt) from by omega), (show ((¬ (I_92 2).toInt = 0) → (I_92 3).toInt < (I_92 4).toInt) from by omega), (show ((¬ (I0 6).toInt = 0) → (¬ (I_92 6).toInt = 0)) from by omega), (show ((I0 3).toInt ≤ (I_92 3).toInt) from by omega)⟩ dX12_fresh_109 (Nat.le_of_ble_eq_true rfl) (Nat.le_of_ble_eq_true rfl)
    · have gc1 : (I_92 6).toInt = 0 := congrArg Int32.toInt c1
      refine lv_aload_n hx hb dX12_fresh_104 rfl (lv_at hl 1 rfl) ?_
      refine wvv (As := []) (rest := []) (b := (g 45)) (d := 2) F hK hP hD hS hA (s_X12_ahead l G g q I_92 J_92 R_92 L_92 hvI hvR   (by omega) (by omega) (by omega)) kmV_X12_ahead mlX12_247 clX12 rfl 0 (Wm_at0 G g q I_92 J_92 R_92 L_92) ⟨(Nat.le_of_ble_eq_true rfl), (Nat.le_of_ble_eq_true rfl)⟩ hl.1 rfl (Nat.le_of_ble_eq_true rfl) dX12_fresh_105 (fun u3 H locs hwr2 hP hD hS => ?_)
      obtain ⟨I4, J5, R6, L7⟩ := u3
      replace hP : va_P G.1 vwCl (Wm G g q I4 J5 R6 L7) H := hP
      replace hD : va_D A (Wm G g q I4 J5 R6 L7) := hD
      obtain ⟨hvI, hvR, tIr2, tRr2, F0r2, F1r2, F2r2, F3r2, F4r2, F5r2⟩ := hwr2
      replace F0r2 : ((I_92 4).toInt ≤ (I4 3).toInt) := F0r2
      replace F1r2 : ((I4 3).toInt ≤ (I4 4).toInt) := F1r2
      replace F2r2 : ((I4 4).toInt ≤ (I_92 1).toInt) := F2r2
      replace F3r2 : ((¬ (I4 2).toInt = 0) → (I4 3).toInt < (I4 4).toInt) := F3r2
      replace F4r2 : ((¬ (I_92 6).toInt = 0) → (¬ (I4 6).toInt = 0)) := F4r2
      replace F5r2 : ((I_92 3).toInt ≤ (I4 3).toInt) := F5r2
      replace hvI : InvI Wm_lo Wm_hi I4 := hvI
      replace hvR : InvR Wm_rl R6 := hvR
      replace tIr2 : SmF ([2, 3, 4, 5, 6, 7] : List Nat) I_92 I4 := tIr2
      replace tRr2 : SmF ([] : List Nat) R_92 R6 := tRr2
      have hv_I4 := hvI
      have hsI := smF_tr hsI tIr2 (by decide)
      have hsR := smF_tr hsR tRr2 (by decide)
      have u_I4_1 : (I4 1).toInt = (I_92 1).toInt := congrArg Int32.toInt (tIr2 1 rfl)
      have w_I4_2 := rg (hvI 2 (by decide)) (0) (3) rfl rfl
      have w_I4_3 := rg (hvI 3 (by decide)) (0) (1800) rfl rfl
      have w_I4_4 := rg (hvI 4 (by decide)) (0) (1800) rfl rfl
      have w_I4_6 := rg (hvI 6 (by decide)) (0) (5) rfl rfl
      have nr2_0 : ((I4 3).toInt ≤ (I4 4).toInt) := by omega
      have nr2_1 : ((I4 4).toInt ≤ (I0 1).toInt) := by omega
      have nr2_2 : ((¬ (I4 2).toInt = 0) → (I4 3).toInt < (I4 4).toInt) := by omega
      have nr2_3 : ((¬ (I0 6).toInt = 0) → (¬ (I4 6).toInt = 0)) := by omega
      have nr2_4 : ((I0 3).toInt ≤ (I4 3).toInt) := by omega
      clear z0_92 z1_92 z2_92 z3_92 z4_92 F1r2 F2r2 F3r2 F4r2 F5r2
      refine lv_lload_n hx hb dX12_fresh_108 rfl (lv_at hl 0 rfl) ?_
      rw [hQ]
      exact q_l F hr hlk (I4, J5, R6, L7) hP hD hS ⟨hvI, hvR, hsI, hsR, (show ((I4 3).toInt ≤ (I4 4).toInt) from by omega), (show ((I4 4).toInt ≤ (I0 1).toInt) from by omega), (show ((¬ (I4 2).toInt = 0) → (I4 3).toInt < (I4 4).toInt) from by omega), (show ((¬ (I0 6).toInt = 0) → (¬ (I4 6).toInt = 0)) from by omega), (show ((I0 3).toInt ≤ (I4 3).toInt) from by omega)⟩ dX12_fresh_109 (Nat.le_of_ble_eq_true rfl) (Nat.le_of_ble_eq_true rfl)
  have lab_83 : ∀  (I_83 : Nat → Int32) (J_83 : Nat → Int64) (R_83 : Nat → Nat → Int32) (L_83 : Nat → Nat → Int64) (H : Heap) (locs : List Loc) (ls : Array Slot), InvI Wm_lo Wm_hi I_83 → InvR Wm_rl R_83 → SmF ([2, 3, 4, 5, 6, 7] : List Nat) I0 I_83 → SmF ([] : List Nat) R0 R_83 → ((I_83 3).toInt ≤ (I_83 4).toInt) → ((I_83 4).toInt ≤ (I0 1).toInt) → ((¬ (I_83 2).toInt = 0) → (I_83 3).toInt < (I_83 4).toInt) → ((¬ (I0 6).toInt = 0) → (¬ (I_83 6).toInt = 0)) → ((I0 3).toInt ≤ (I_83 3).toInt) → va_P G.1 vwCl (Wm G g q I_83 J_83 R_83 L_83) H → va_D A (Wm G g q I_83 J_83 R_83 L_83) → va_S A s.heap H locs → lv_has ls 3 [(0, .ref (g 45))] → W p l e (rmD 3 0 0) s m [.ref (g 45)].toArray below meth c H locs 0 0 Q (F0 m 83 ls []) := by
    intro I_83 J_83 R_83 L_83 H locs ls hvI hvR hsI hsR z0_83 z1_83 z2_83 z3_83 z4_83 hP hD hS hl
    have hv_I_83 := hvI
    have w_I_83_1 := rg (hvI 1 (by decide)) (0) (1800) rfl rfl
    have v_I_83_1 : (I_83 1).toInt = (I0 1).toInt := congrArg Int32.toInt (hsI 1 rfl)
    have w_I_83_2 := rg (hvI 2 (by decide)) (0) (3) rfl rfl
    have w_I_83_3 := rg (hvI 3 (by decide)) (0) (1800) rfl rfl
    have w_I_83_4 := rg (hvI 4 (by decide)) (0) (1800) rfl rfl
    have w_I_83_6 := rg (hvI 6 (by decide)) (0) (5) rfl rfl
    refine lv_aload_n hx hb dX12_fresh_83 rfl (lv_at hl 0 rfl) ?_
    refine lv_iconst (v := 2) hx hb dX12_fresh_84 (by decide) ?_
    refine lv_aload_n hx hb dX12_fresh_85 rfl (lv_at hl 0 rfl) ?_
    refine g_get F hK hP 0 (Wm_at0 G g q I_83 J_83 R_83 L_83) clX12 4 (by decide) flX12_23 rfl dX12_fresh_86 ?_
    have w_I_83_3 := rg (hv_I_83 3 (by decide)) (0) (1800) rfl rfl
    refine wvv (As := [.int 2, .int (I_83 3)]) (rest := []) (b := (g 45)) (d := 1) F hK hP hD hS hA (s_X12_blame l G g q I_83 J_83 R_83 L_83 hvI hvR  2 ((I_83 3)) (by decide) (show ((0 : Int) ≤ (I_83 3).toInt ∧ (I_83 3).toInt ≤ (1800 : Int)) from by omega)) kmV_X12_blame mlX12_240 clX12 rfl 0 (Wm_at0 G g q I_83 J_83 R_83 L_83) ⟨(Nat.le_of_ble_eq_true rfl), (Nat.le_of_ble_eq_true rfl)⟩ hl.1 rfl (Nat.le_of_ble_eq_true rfl) dX12_fresh_89 (fun u9 H locs hwr8 hP hD hS => ?_)
    obtain ⟨I10, J11, R12, L13⟩ := u9
    replace hP : va_P G.1 vwCl (Wm G g q I10 J11 R12 L13) H := hP
    replace hD : va_D A (Wm G g q I10 J11 R12 L13) := hD
    obtain ⟨hvI, hvR, tIr8, tRr8, F0r8⟩ := hwr8
    replace F0r8 : (¬ (I10 6).toInt = 0) := F0r8
    replace hvI : InvI Wm_lo Wm_hi I10 := hvI
    replace hvR : InvR Wm_rl R12 := hvR
    replace tIr8 : SmF ([6, 7] : List Nat) I_83 I10 := tIr8
    replace tRr8 : SmF ([] : List Nat) R_83 R12 := tRr8
    have hv_I10 := hvI
    have hsI := smF_tr hsI tIr8 (by decide)
    have hsR := smF_tr hsR tRr8 (by decide)
    have u_I10_1 : (I10 1).toInt = (I_83 1).toInt := congrArg Int32.toInt (tIr8 1 rfl)
    have u_I10_2 : (I10 2).toInt = (I_83 2).toInt := congrArg Int32.toInt (tIr8 2 rfl)
    have u_I10_3 : (I10 3).toInt = (I_83 3).toInt := congrArg Int32.toInt (tIr8 3 rfl)
    have u_I10_4 : (I10 4).toInt = (I_83 4).toInt := congrArg Int32.toInt (tIr8 4 rfl)
    have w_I10_6 := rg (hvI 6 (by decide)) (0) (5) rfl rfl
    have nr8_0 : ((I10 3).toInt ≤ (I10 4).toInt) := by omega
    have nr8_1 : ((I10 4).toInt ≤ (I0 1).toInt) := by omega
    have nr8_2 : ((¬ (I10 2).toInt = 0) → (I10 3).toInt < (I10 4).toInt) := by omega
    have nr8_3 : ((¬ (I0 6).toInt = 0) → (¬ (I10 6).toInt = 0)) := by omega
    have nr8_4 : ((I0 3).toInt ≤ (I10 3).toInt) := by omega
    clear z0_83 z1_83 z2_83 z3_83 z4_83
    exact lab_92  I10 J11 R12 L13 _ _ _ hvI hvR hsI hsR (show ((I10 3).toInt ≤ (I10 4).toInt) from by omega) (show ((I10 4).toInt ≤ (I0 1).toInt) from by omega) (show ((¬ (I10 2).toInt = 0) → (I10 3).toInt < (I10 4).toInt) from by omega) (show ((¬ (I0 6).toInt = 0) → (¬ (I10 6).toInt = 0)) from by omega) (show ((I0 3).toInt ≤ (I10 3).toInt) from by omega) hP hD hS (lv_sub hl [0] rfl)
  have lab_37 : ∀  (I_37 : Nat → Int32) (J_37 : Nat → Int64) (R_37 : Nat → Nat → Int32) (L_37 : Nat → Nat → Int64) (H : Heap) (locs : List Loc) (ls : Array Slot), InvI Wm_lo Wm_hi I_37 → InvR Wm_rl R_37 → SmF ([2, 3, 4, 5, 6, 7] : List Nat) I0 I_37 → SmF ([] : List Nat) R0 R_37 → ((I_37 3).toInt ≤ (I_37 4).toInt) → ((I_37 4).toInt ≤ (I0 1).toInt) → ((¬ (I_37 2).toInt = 0) → (I_37 3).toInt < (I_37 4).toInt) → ((¬ (I0 6).toInt = 0) → (¬ (I_37 6).toInt = 0)) → ((I0 3).toInt ≤ (I_37 3).toInt) → va_P G.1 vwCl (Wm G g q I_37 J_37 R_37 L_37) H → va_D A (Wm G g q I_37 J_37 R_37 L_37) → va_S A s.heap H locs → lv_has ls 3 [(0, .ref (g 45))] → W p l e (rmD 3 0 0) s m [.ref (g 45)].toArray below meth c H locs 0 0 Q (F0 m 37 ls []) := by
    intro I_37 J_37 R_37 L_37 H locs ls hvI hvR hsI hsR z0_37 z1_37 z2_37 z3_37 z4_37 hP hD hS hl
    have hv_I_37 := hvI
    have w_I_37_1 := rg (hvI 1 (by decide)) (0) (1800) rfl rfl
    have v_I_37_1 : (I_37 1).toInt = (I0 1).toInt := congrArg Int32.toInt (hsI 1 rfl)
    have w_I_37_2 := rg (hvI 2 (by decide)) (0) (3) rfl rfl
    have w_I_37_3 := rg (hvI 3 (by decide)) (0) (1800) rfl rfl
    have w_I_37_4 := rg (hvI 4 (by decide)) (0) (1800) rfl rfl
    have w_I_37_6 := rg (hvI 6 (by decide)) (0) (5) rfl rfl
    refine lv_aload_n hx hb dX12_fresh_37 rfl (lv_at hl 0 rfl) ?_
    refine g_get F hK hP 0 (Wm_at0 G g q I_37 J_37 R_37 L_37) clX12 8 (by decide) flX12_36 rfl dX12_fresh_38 ?_
    have w_I_37_6 := rg (hv_I_37 6 (by decide)) (0) (5) rfl rfl
    refine lv_if_ne (tgt := 92) hx hb dX12_fresh_41 (by decide) (fun c14 => ?_) (fun c14 => ?_)
    · have gc14 : ¬ ((I_37 6).toInt = 0) := fun q0 => c14 (Int32.toInt_inj.mp q0)
      exact lab_92  I_37 J_37 R_37 L_37 _ _ _ hvI hvR hsI hsR (show ((I_37 3).toInt ≤ (I_37 4).toInt) from by omega) (show ((I_37 4).toInt ≤ (I0 1).toInt) from by omega) (show ((¬ (I_37 2).toInt = 0) → (I_37 3).toInt < (I_37 4).toInt) from by omega) (show ((¬ (I0 6).toInt = 0) → (¬ (I_37 6).toInt = 0)) from by omega) (show ((I0 3).toInt ≤ (I_37 3).toInt) from by omega) hP hD hS (lv_sub hl [0] rfl)
    · have gc14 : (I_37 6).toInt = 0 := congrArg Int32.toInt c14
      refine lv_aload_n hx hb dX12_fresh_44 rfl (lv_at hl 0 rfl) ?_
      refine lv_iconst (v := 0) hx hb dX12_fresh_45 (by decide) ?_
      refine lv_aload_n hx hb dX12_fresh_46 rfl (lv_at hl 0 rfl) ?_
      refine g_get F hK hP 0 (Wm_at0 G g q I_37 J_37 R_37 L_37) clX12 7 (by decide) flX12_32 rfl dX12_fresh_47 ?_
      refine wvi (As := [.int 0, .long (J_37 0)]) (rest := []) (b := (g 45)) (d := 1) F hK hP hD hS hA (s_X12_named l G g q I_37 J_37 R_37 L_37 hvI hvR  0 ((J_37 0)) (by decide)) kmV_X12_named mlX12_354 clX12 rfl 0 (Wm_at0 G g q I_37 J_37 R_37 L_37) ⟨(Nat.le_of_ble_eq_true rfl), (Nat.le_of_ble_eq_true rfl)⟩ hl.1 rfl (Nat.le_of_ble_eq_true rfl) dX12_fresh_50 (fun r15 u16 H locs hwr15 hP hD hS => ?_)
      obtain ⟨F0r15, F1r15, F2r15⟩ := hwr15
      replace F0r15 : ((-1 : Int) ≤ r15.toInt ∧ r15.toInt ≤ (11 : Int)) := F0r15
      replace F1r15 : ((0 : Int) = 0 → r15.toInt ≤ 4) := F1r15
      replace F2r15 : ((0 : Int) = 1 → r15.toInt ≤ 5) := F2r15
      refine lv_iconst (v := (-1)) hx hb dX12_fresh_53 (by decide) ?_
      refine lv_icmp_ne (tgt := 83) hx hb dX12_fresh_54 (by decide) (fun c17 => ?_) (fun c17 => ?_)
      · have gc17 : ¬ (r15.toInt = (-1)) := fun q0 => c17 (Int32.toInt_inj.mp q0)
        exact lab_83  I_37 J_37 R_37 L_37 _ _ _ hvI hvR hsI hsR (show ((I_37 3).toInt ≤ (I_37 4).toInt) from by omega) (show ((I_37 4).toInt ≤ (I0 1).toInt) from by omega) (show ((¬ (I_37 2).toInt = 0) → (I_37 3).toInt < (I_37 4).toInt) from by omega) (show ((¬ (I0 6).toInt = 0) → (¬ (I_37 6).toInt = 0)) from by omega) (show ((I0 3).toInt ≤ (I_37 3).toInt) from by omega) hP hD hS (lv_sub hl [0] rfl)
      · have gc17 : r15.toInt = (-1) := congrArg Int32.toInt c17
        refine lv_aload_n hx hb dX12_fresh_57 rfl (lv_at hl 0 rfl) ?_
        refine lv_iconst (v := 1) hx hb dX12_fresh_58 (by decide) ?_
        refine lv_aload_n hx hb dX12_fresh_59 rfl (lv_at hl 0 rfl) ?_
        refine g_get F hK hP 0 (Wm_at0 G g q I_37 J_37 R_37 L_37) clX12 7 (by decide) flX12_32 rfl dX12_fresh_60 ?_
        refine wvi (As := [.int 1, .long (J_37 0)]) (rest := []) (b := (g 45)) (d := 1) F hK hP hD hS hA (s_X12_named l G g q I_37 J_37 R_37 L_37 hvI hvR  1 ((J_37 0)) (by decide)) kmV_X12_named mlX12_354 clX12 rfl 0 (Wm_at0 G g q I_37 J_37 R_37 L_37) ⟨(Nat.le_of_ble_eq_true rfl), (Nat.le_of_ble_eq_true rfl)⟩ hl.1 rfl (Nat.le_of_ble_eq_true rfl) dX12_fresh_63 (fun r18 u19 H locs hwr18 hP hD hS => ?_)
        obtain ⟨F0r18, F1r18, F2r18⟩ := hwr18
        replace F0r18 : ((-1 : Int) ≤ r18.toInt ∧ r18.toInt ≤ (11 : Int)) := F0r18
        replace F1r18 : ((1 : Int) = 0 → r18.toInt ≤ 4) := F1r18
        replace F2r18 : ((1 : Int) = 1 → r18.toInt ≤ 5) := F2r18
        refine lv_iconst (v := (-1)) hx hb dX12_fresh_66 (by decide) ?_
        refine lv_icmp_ne (tgt := 83) hx hb dX12_fresh_67 (by decide) (fun c20 => ?_) (fun c20 => ?_)
        · have gc20 : ¬ (r18.toInt = (-1)) := fun q0 => c20 (Int32.toInt_inj.mp q0)
          exact lab_83  I_37 J_37 R_37 L_37 _ _ _ hvI hvR hsI hsR (show ((I_37 3).toInt ≤ (I_37 4).toInt) from by omega) (show ((I_37 4).toInt ≤ (I0 1).toInt) from by omega) (show ((¬ (I_37 2).toInt = 0) → (I_37 3).toInt < (I_37 4).toInt) from by omega) (show ((¬ (I0 6).toInt = 0) → (¬ (I_37 6).toInt = 0)) from by omega) (show ((I0 3).toInt ≤ (I_37 3).toInt) from by omega) hP hD hS (lv_sub hl [0] rfl)
        · have gc20 : r18.toInt = (-1) := congrArg Int32.toInt c20
          refine lv_aload_n hx hb dX12_fresh_70 rfl (lv_at hl 0 rfl) ?_
          refine lv_iconst (v := 2) hx hb dX12_fresh_71 (by decide) ?_
          refine lv_aload_n hx hb dX12_fresh_72 rfl (lv_at hl 0 rfl) ?_
          refine g_get F hK hP 0 (Wm_at0 G g q I_37 J_37 R_37 L_37) clX12 7 (by decide) flX12_32 rfl dX12_fresh_73 ?_
          refine wvi (As := [.int 2, .long (J_37 0)]) (rest := []) (b := (g 45)) (d := 1) F hK hP hD hS hA (s_X12_named l G g q I_37 J_37 R_37 L_37 hvI hvR  2 ((J_37 0)) (by decide)) kmV_X12_named mlX12_354 clX12 rfl 0 (Wm_at0 G g q I_37 J_37 R_37 L_37) ⟨(Nat.le_of_ble_eq_true rfl), (Nat.le_of_ble_eq_true rfl)⟩ hl.1 rfl (Nat.le_of_ble_eq_true rfl) dX12_fresh_76 (fun r21 u22 H locs hwr21 hP hD hS => ?_)
          obtain ⟨F0r21, F1r21, F2r21⟩ := hwr21
          replace F0r21 : ((-1 : Int) ≤ r21.toInt ∧ r21.toInt ≤ (11 : Int)) := F0r21
          replace F1r21 : ((2 : Int) = 0 → r21.toInt ≤ 4) := F1r21
          replace F2r21 : ((2 : Int) = 1 → r21.toInt ≤ 5) := F2r21
          refine lv_iconst (v := (-1)) hx hb dX12_fresh_79 (by decide) ?_
          refine lv_icmp_eq (tgt := 92) hx hb dX12_fresh_80 (by decide) (fun c23 => ?_) (fun c23 => ?_)
          · have gc23 : r21.toInt = (-1) := congrArg Int32.toInt c23
            exact lab_92  I_37 J_37 R_37 L_37 _ _ _ hvI hvR hsI hsR (show ((I_37 3).toInt ≤ (I_37 4).toInt) from by omega) (show ((I_37 4).toInt ≤ (I0 1).toInt) from by omega) (show ((¬ (I_37 2).toInt = 0) → (I_37 3).toInt < (I_37 4).toInt) from by omega) (show ((¬ (I0 6).toInt = 0) → (¬ (I_37 6).toInt = 0)) from by omega) (show ((I0 3).toInt ≤ (I_37 3).toInt) from by omega) hP hD hS (lv_sub hl [0] rfl)
          · have gc23 : ¬ (r21.toInt = (-1)) := fun q0 => c23 (Int32.toInt_inj.mp q0)
            exact lab_83  I_37 J_37 R_37 L_37 _ _ _ hvI hvR hsI hsR (show ((I_37 3).toInt ≤ (I_37 4).toInt) from by omega) (show ((I_37 4).toInt ≤ (I0 1).toInt) from by omega) (show ((¬ (I_37 2).toInt = 0) → (I_37 3).toInt < (I_37 4).toInt) from by omega) (show ((¬ (I0 6).toInt = 0) → (¬ (I_37 6).toInt = 0)) from by omega) (show ((I0 3).toInt ≤ (I_37 3).toInt) from by omega) hP hD hS (lv_sub hl [0] rfl)
  have lab_28 : ∀  (I_28 : Nat → Int32) (J_28 : Nat → Int64) (R_28 : Nat → Nat → Int32) (L_28 : Nat → Nat → Int64) (H : Heap) (locs : List Loc) (ls : Array Slot), InvI Wm_lo Wm_hi I_28 → InvR Wm_rl R_28 → SmF ([2, 3, 4, 5, 6, 7] : List Nat) I0 I_28 → SmF ([] : List Nat) R0 R_28 → ((I_28 3).toInt ≤ (I_28 4).toInt) → ((I_28 4).toInt ≤ (I0 1).toInt) → ((¬ (I_28 2).toInt = 0) → (I_28 3).toInt < (I_28 4).toInt) → ((¬ (I0 6).toInt = 0) → (¬ (I_28 6).toInt = 0)) → ((I0 3).toInt ≤ (I_28 3).toInt) → va_P G.1 vwCl (Wm G g q I_28 J_28 R_28 L_28) H → va_D A (Wm G g q I_28 J_28 R_28 L_28) → va_S A s.heap H locs → lv_has ls 3 [(0, .ref (g 45))] → W p l e (rmD 3 0 0) s m [.ref (g 45)].toArray below meth c H locs 0 0 Q (F0 m 28 ls []) := by
    intro I_28 J_28 R_28 L_28 H locs ls hvI hvR hsI hsR z0_28 z1_28 z2_28 z3_28 z4_28 hP hD hS hl
    have hv_I_28 := hvI
    have w_I_28_1 := rg (hvI 1 (by decide)) (0) (1800) rfl rfl
    have v_I_28_1 : (I_28 1).toInt = (I0 1).toInt := congrArg Int32.toInt (hsI 1 rfl)
    have w_I_28_2 := rg (hvI 2 (by decide)) (0) (3) rfl rfl
    have w_I_28_3 := rg (hvI 3 (by decide)) (0) (1800) rfl rfl
    have w_I_28_4 := rg (hvI 4 (by decide)) (0) (1800) rfl rfl
    have w_I_28_6 := rg (hvI 6 (by decide)) (0) (5) rfl rfl
    refine lv_aload_n hx hb dX12_fresh_28 rfl (lv_at hl 0 rfl) ?_
    refine lv_iconst (v := 1) hx hb dX12_fresh_29 (by decide) ?_
    refine lv_aload_n hx hb dX12_fresh_30 rfl (lv_at hl 0 rfl) ?_
    refine g_get F hK hP 0 (Wm_at0 G g q I_28 J_28 R_28 L_28) clX12 4 (by decide) flX12_23 rfl dX12_fresh_31 ?_
    have w_I_28_3 := rg (hv_I_28 3 (by decide)) (0) (1800) rfl rfl
    refine wvv (As := [.int 1, .int (I_28 3)]) (rest := []) (b := (g 45)) (d := 1) F hK hP hD hS hA (s_X12_blame l G g q I_28 J_28 R_28 L_28 hvI hvR  1 ((I_28 3)) (by decide) (show ((0 : Int) ≤ (I_28 3).toInt ∧ (I_28 3).toInt ≤ (1800 : Int)) from by omega)) kmV_X12_blame mlX12_240 clX12 rfl 0 (Wm_at0 G g q I_28 J_28 R_28 L_28) ⟨(Nat.le_of_ble_eq_true rfl), (Nat.le_of_ble_eq_true rfl)⟩ hl.1 rfl (Nat.le_of_ble_eq_true rfl) dX12_fresh_34 (fun u25 H locs hwr24 hP hD hS => ?_)
    obtain ⟨I26, J27, R28, L29⟩ := u25
    replace hP : va_P G.1 vwCl (Wm G g q I26 J27 R28 L29) H := hP
    replace hD : va_D A (Wm G g q I26 J27 R28 L29) := hD
    obtain ⟨hvI, hvR, tIr24, tRr24, F0r24⟩ := hwr24
    replace F0r24 : (¬ (I26 6).toInt = 0) := F0r24
    replace hvI : InvI Wm_lo Wm_hi I26 := hvI
    replace hvR : InvR Wm_rl R28 := hvR
    replace tIr24 : SmF ([6, 7] : List Nat) I_28 I26 := tIr24
    replace tRr24 : SmF ([] : List Nat) R_28 R28 := tRr24
    have hv_I26 := hvI
    have hsI := smF_tr hsI tIr24 (by decide)
    have hsR := smF_tr hsR tRr24 (by decide)
    have u_I26_1 : (I26 1).toInt = (I_28 1).toInt := congrArg Int32.toInt (tIr24 1 rfl)
    have u_I26_2 : (I26 2).toInt = (I_28 2).toInt := congrArg Int32.toInt (tIr24 2 rfl)
    have u_I26_3 : (I26 3).toInt = (I_28 3).toInt := congrArg Int32.toInt (tIr24 3 rfl)
    have u_I26_4 : (I26 4).toInt = (I_28 4).toInt := congrArg Int32.toInt (tIr24 4 rfl)
    have w_I26_6 := rg (hvI 6 (by decide)) (0) (5) rfl rfl
    have nr24_0 : ((I26 3).toInt ≤ (I26 4).toInt) := by omega
    have nr24_1 : ((I26 4).toInt ≤ (I0 1).toInt) := by omega
    have nr24_2 : ((¬ (I26 2).toInt = 0) → (I26 3).toInt < (I26 4).toInt) := by omega
    have nr24_3 : ((¬ (I0 6).toInt = 0) → (¬ (I26 6).toInt = 0)) := by omega
    have nr24_4 : ((I0 3).toInt ≤ (I26 3).toInt) := by omega
    clear z0_28 z1_28 z2_28 z3_28 z4_28
    exact lab_37  I26 J27 R28 L29 _ _ _ hvI hvR hsI hsR (show ((I26 3).toInt ≤ (I26 4).toInt) from by omega) (show ((I26 4).toInt ≤ (I0 1).toInt) from by omega) (show ((¬ (I26 2).toInt = 0) → (I26 3).toInt < (I26 4).toInt) from by omega) (show ((¬ (I0 6).toInt = 0) → (¬ (I26 6).toInt = 0)) from by omega) (show ((I0 3).toInt ≤ (I26 3).toInt) from by omega) hP hD hS (lv_sub hl [0] rfl)
  have w_I0_1 := rg (hvI 1 (by decide)) (0) (1800) rfl rfl
  have w_I0_2 := rg (hvI 2 (by decide)) (0) (3) rfl rfl
  have w_I0_3 := rg (hvI 3 (by decide)) (0) (1800) rfl rfl
  have w_I0_4 := rg (hvI 4 (by decide)) (0) (1800) rfl rfl
  have w_I0_6 := rg (hvI 6 (by decide)) (0) (5) rfl rfl
  refine lv_aload_n hx hb dX12_fresh_0 rfl (lv_at hl 0 rfl) ?_
  refine g_get F hK hP 0 (Wm_at0 G g q I0 J0 R0 L0) clX12 8 (by decide) flX12_36 rfl dX12_fresh_1 ?_
  have w_I0_6 := rg (hvI0 6 (by decide)) (0) (5) rfl rfl
  refine lv_if_le (tgt := 9) hx hb dX12_fresh_4 (by decide) (fun c30 => ?_) (fun c30 => ?_)
  · have gc30 : (I0 6).toInt ≤ 0 := (tle _ _).mp c30
    refine lv_aload_n hx hb dX12_fresh_9 rfl (lv_at hl 0 rfl) ?_
    refine g_get F hK hP 0 (Wm_at0 G g q I0 J0 R0 L0) clX12 3 (by decide) flX12_20 rfl dX12_fresh_10 ?_
    have w_I0_2 := rg (hvI0 2 (by decide)) (0) (3) rfl rfl
    refine lv_iconst (v := 1) hx hb dX12_fresh_13 (by decide) ?_
    refine lv_icmp_ne (tgt := 28) hx hb dX12_fresh_14 (by decide) (fun c31 => ?_) (fun c31 => ?_)
    · have gc31 : ¬ ((I0 2).toInt = 1) := fun q0 => c31 (Int32.toInt_inj.mp q0)
      exact lab_28  I0 J0 R0 L0 _ _ _ hvI hvR hsI hsR (show ((I0 3).toInt ≤ (I0 4).toInt) from by omega) (show ((I0 4).toInt ≤ (I0 1).toInt) from by omega) (show ((¬ (I0 2).toInt = 0) → (I0 3).toInt < (I0 4).toInt) from by omega) (show ((¬ (I0 6).toInt = 0) → (¬ (I0 6).toInt = 0)) from by omega) (show ((I0 3).toInt ≤ (I0 3).toInt) from by omega) hP hD hS (lv_sub hl [0] rfl)
    · have gc31 : (I0 2).toInt = 1 := congrArg Int32.toInt c31
      refine lv_aload_n hx hb dX12_fresh_17 rfl (lv_at hl 0 rfl) ?_
      refine lv_aload_n hx hb dX12_fresh_18 rfl (lv_at hl 0 rfl) ?_
      refine g_get F hK hP 0 (Wm_at0 G g q I0 J0 R0 L0) clX12 7 (by decide) flX12_32 rfl dX12_fresh_19 ?_
      refine wvi (As := [.long (J0 0)]) (rest := []) (b := (g 45)) (d := 1) F hK hP hD hS hA (s_X12_isOwn l G g q I0 J0 R0 L0 hvI hvR  ((J0 0)) ) kmV_X12_isOwn mlX12_351 clX12 rfl 0 (Wm_at0 G g q I0 J0 R0 L0) ⟨(Nat.le_of_ble_eq_true rfl), (Nat.le_of_ble_eq_true rfl)⟩ hl.1 rfl (Nat.le_of_ble_eq_true rfl) dX12_fresh_22 (fun r32 u33 H locs hwr32 hP hD hS => ?_)
      have F0r32 := hwr32
      replace F0r32 : ((0 : Int) ≤ r32.toInt ∧ r32.toInt ≤ (1 : Int)) := F0r32
      refine lv_if_eq (tgt := 37) hx hb dX12_fresh_25 (by decide) (fun c34 => ?_) (fun c34 => ?_)
      · have gc34 : r32.toInt = 0 := congrArg Int32.toInt c34
        exact lab_37  I0 J0 R0 L0 _ _ _ hvI hvR hsI hsR (show ((I0 3).toInt ≤ (I0 4).toInt) from by omega) (show ((I0 4).toInt ≤ (I0 1).toInt) from by omega) (show ((¬ (I0 2).toInt = 0) → (I0 3).toInt < (I0 4).toInt) from by omega) (show ((¬ (I0 6).toInt = 0) → (¬ (I0 6).toInt = 0)) from by omega) (show ((I0 3).toInt ≤ (I0 3).toInt) from by omega) hP hD hS (lv_sub hl [0] rfl)
      · have gc34 : ¬ (r32.toInt = 0) := fun q0 => c34 (Int32.toInt_inj.mp q0)
        exact lab_28  I0 J0 R0 L0 _ _ _ hvI hvR hsI hsR (show ((I0 3).toInt ≤ (I0 4).toInt) from by omega) (show ((I0 4).toInt ≤ (I0 1).toInt) from by omega) (show ((¬ (I0 2).toInt = 0) → (I0 3).toInt < (I0 4).toInt) from by omega) (show ((¬ (I0 6).toInt = 0) → (¬ (I0 6).toInt = 0)) from by omega) (show ((I0 3).toInt ≤ (I0 3).toInt) from by omega) hP hD hS (lv_sub hl [0] rfl)
  · have gc30 : ¬ ((I0 6).toInt ≤ 0) := fun q0 => c30 ((tle _ _).mpr q0)
    refine lv_lconst (v := 0) hx hb dX12_fresh_7 (by decide) ?_
    rw [hQ]
    exact q_l F hr hlk (I0, J0, R0, L0) hP hD hS ⟨hvI, hvR, hsI, hsR, (show ((I0 3).toInt ≤ (I0 4).toInt) from by omega), (show ((I0 4).toInt ≤ (I0 1).toInt) from by omega), (show ((¬ (I0 2).toInt = 0) → (I0 3).toInt < (I0 4).toInt) from by omega), (show ((¬ (I0 6).toInt = 0) → (¬ (I0 6).toInt = 0)) from by omega), (show ((I0 3).toInt ≤ (I0 3).toInt) from by omega)⟩ dX12_fresh_8 (Nat.le_of_ble_eq_true rfl) (Nat.le_of_ble_eq_true rfl)
set_option maxHeartbeats 4000000 in
set_option maxRecDepth 100000 in
theorem s_X12_must_ (l : Launch) (G : Gx) (g q : Nat → Nat) (I0 : Nat → Int32) (J0 : Nat → Int64) (R0 : Nat → Nat → Int32) (L0 : Nat → Nat → Int64) (hvI : InvI Wm_lo Wm_hi I0) (hvR : InvR Wm_rl R0)  (p1 : Int64) (hpre0 : ((I0 3).toInt ≤ (I0 4).toInt)) (hpre1 : ((I0 4).toInt ≤ (I0 1).toInt)) (hpre2 : ((¬ (I0 2).toInt = 0) → (I0 3).toInt < (I0 4).toInt)) : CtV (S := St) l yX12_must_ cX12_must_ 3 none (rmD 3 0 0) G [.ref (g 45), .long p1] (Wm G g q I0 J0 R0 L0) (fun u => InvI Wm_lo Wm_hi u.1 ∧ InvR Wm_rl u.2.2.1 ∧ SmF ([2, 3, 4, 5, 6, 7] : List Nat) I0 u.1 ∧ SmF ([] : List Nat) R0 u.2.2.1 ∧ ((u.1 3).toInt ≤ (u.1 4).toInt) ∧ ((u.1 4).toInt ≤ (I0 1).toInt) ∧ ((¬ (u.1 2).toInt = 0) → (u.1 3).toInt < (u.1 4).toInt) ∧ ((¬ (I0 6).toInt = 0) → (¬ (u.1 6).toInt = 0)) ∧ ((I0 3).toInt ≤ (u.1 3).toInt)) (fun u => Wm G g q u.1 u.2.1 u.2.2.1 u.2.2.2) := by
  refine ctV_of (own := RX12) (by decide +kernel) rfl (Nat.le_of_ble_eq_true rfl) ?_
  intro p e s m below meth c A ls F hr hlk hnm hK hP hD hA hS hl
  have hx := F.1
  have hb := F.2.1
  have hown := F.2.2.2.1
  have hl : lv_has ls 3 [(0, .ref (g 45)), (1, .long p1)] := hl
  obtain ⟨Q, hQ⟩ : ∃ Q : State → Prop, Q = MQ below (va_Qv (S := St) (fun u => InvI Wm_lo Wm_hi u.1 ∧ InvR Wm_rl u.2.2.1 ∧ SmF ([2, 3, 4, 5, 6, 7] : List Nat) I0 u.1 ∧ SmF ([] : List Nat) R0 u.2.2.1 ∧ ((u.1 3).toInt ≤ (u.1 4).toInt) ∧ ((u.1 4).toInt ≤ (I0 1).toInt) ∧ ((¬ (u.1 2).toInt = 0) → (u.1 3).toInt < (u.1 4).toInt) ∧ ((¬ (I0 6).toInt = 0) → (¬ (u.1 6).toInt = 0)) ∧ ((I0 3).toInt ≤ (u.1 3).toInt)) (BX G A (fun u => Wm G g q u.1 u.2.1 u.2.2.1 u.2.2.2)) A) [.ref (g 45), .long p1].toArray s 0 0 A := ⟨_, rfl⟩
  rw [show (MQ below (va_Qv (S := St) (fun u => InvI Wm_lo Wm_hi u.1 ∧ InvR Wm_rl u.2.2.1 ∧ SmF ([2, 3, 4, 5, 6, 7] : List Nat) I0 u.1 ∧ SmF ([] : List Nat) R0 u.2.2.1 ∧ ((u.1 3).toInt ≤ (u.1 4).toInt) ∧ ((u.1 4).toInt ≤ (I0 1).toInt) ∧ ((¬ (u.1 2).toInt = 0) → (u.1 3).toInt < (u.1 4).toInt) ∧ ((¬ (I0 6).toInt = 0) → (¬ (u.1 6).toInt = 0)) ∧ ((I0 3).toInt ≤ (u.1 3).toInt)) (BX G A (fun u => Wm G g q u.1 u.2.1 u.2.2.1 u.2.2.2)) A) [.ref (g 45), .long p1].toArray s (rmD 3 0 0).cells (rmD 3 0 0).slots A) = Q from hQ.symm]
  have hsI := smF_rf ([2, 3, 4, 5, 6, 7] : List Nat) I0
  have hsR := smF_rf ([] : List Nat) R0
  have hvI0 := hvI
  have lab_25 : ∀  (I_25 : Nat → Int32) (J_25 : Nat → Int64) (R_25 : Nat → Nat → Int32) (L_25 : Nat → Nat → Int64) (H : Heap) (locs : List Loc) (ls : Array Slot), InvI Wm_lo Wm_hi I_25 → InvR Wm_rl R_25 → SmF ([2, 3, 4, 5, 6, 7] : List Nat) I0 I_25 → SmF ([] : List Nat) R0 R_25 → ((I_25 3).toInt ≤ (I_25 4).toInt) → ((I_25 4).toInt ≤ (I0 1).toInt) → ((¬ (I_25 2).toInt = 0) → (I_25 3).toInt < (I_25 4).toInt) → ((¬ (I0 6).toInt = 0) → (¬ (I_25 6).toInt = 0)) → ((I0 3).toInt ≤ (I_25 3).toInt) → va_P G.1 vwCl (Wm G g q I_25 J_25 R_25 L_25) H → va_D A (Wm G g q I_25 J_25 R_25 L_25) → va_S A s.heap H locs → lv_has ls 3 [(0, .ref (g 45))] → W p l e (rmD 3 0 0) s m [.ref (g 45), .long p1].toArray below meth c H locs 0 0 Q (F0 m 25 ls []) := by
    intro I_25 J_25 R_25 L_25 H locs ls hvI hvR hsI hsR z0_25 z1_25 z2_25 z3_25 z4_25 hP hD hS hl
    have hv_I_25 := hvI
    have w_I_25_1 := rg (hvI 1 (by decide)) (0) (1800) rfl rfl
    have v_I_25_1 : (I_25 1).toInt = (I0 1).toInt := congrArg Int32.toInt (hsI 1 rfl)
    have w_I_25_2 := rg (hvI 2 (by decide)) (0) (3) rfl rfl
    have w_I_25_3 := rg (hvI 3 (by decide)) (0) (1800) rfl rfl
    have w_I_25_4 := rg (hvI 4 (by decide)) (0) (1800) rfl rfl
    have w_I_25_6 := rg (hvI 6 (by decide)) (0) (5) rfl rfl
    refine lv_aload_n hx hb dX12_must__25 rfl (lv_at hl 0 rfl) ?_
    refine g_get F hK hP 0 (Wm_at0 G g q I_25 J_25 R_25 L_25) clX12 8 (by decide) flX12_36 rfl dX12_must__26 ?_
    have w_I_25_6 := rg (hv_I_25 6 (by decide)) (0) (5) rfl rfl
    refine lv_if_ne (tgt := 36) hx hb dX12_must__29 (by decide) (fun c1 => ?_) (fun c1 => ?_)
    · have gc1 : ¬ ((I_25 6).toInt = 0) := fun q0 => c1 (Int32.toInt_inj.mp q0)
      rw [hQ]
      exact q_v F hr hlk (I_25, J_25, R_25, L_25) hP hD hS ⟨hvI, hvR, hsI, hsR, (show ((I_25 3).toInt ≤ (I_25 4).toInt) from by omega), (show ((I_25 4).toInt ≤ (I0 1).toInt) from by omega), (show ((¬ (I_25 2).toInt = 0) → (I_25 3).toInt < (I_25 4).toInt) from by omega), (show ((¬ (I0 6).toInt = 0) → (¬ (I_25 6).toInt = 0)) from by omega), (show ((I0 3).toInt ≤ (I_25 3).toInt) from by omega)⟩ dX12_must__36 (Nat.le_of_ble_eq_true rfl) (Nat.le_of_ble_eq_true rfl)
    · have gc1 : (I_25 6).toInt = 0 := congrArg Int32.toInt c1
      refine lv_aload_n hx hb dX12_must__32 rfl (lv_at hl 0 rfl) ?_
      refine wvv (As := []) (rest := []) (b := (g 45)) (d := 2) F hK hP hD hS hA (s_X12_ahead l G g q I_25 J_25 R_25 L_25 hvI hvR   (by omega) (by omega) (by omega)) kmV_X12_ahead mlX12_247 clX12 rfl 0 (Wm_at0 G g q I_25 J_25 R_25 L_25) ⟨(Nat.le_of_ble_eq_true rfl), (Nat.le_of_ble_eq_true rfl)⟩ hl.1 rfl (Nat.le_of_ble_eq_true rfl) dX12_must__33 (fun u3 H locs hwr2 hP hD hS => ?_)
      obtain ⟨I4, J5, R6, L7⟩ := u3
      replace hP : va_P G.1 vwCl (Wm G g q I4 J5 R6 L7) H := hP
      replace hD : va_D A (Wm G g q I4 J5 R6 L7) := hD
      obtain ⟨hvI, hvR, tIr2, tRr2, F0r2, F1r2, F2r2, F3r2, F4r2, F5r2⟩ := hwr2
      replace F0r2 : ((I_25 4).toInt ≤ (I4 3).toInt) := F0r2
      replace F1r2 : ((I4 3).toInt ≤ (I4 4).toInt) := F1r2
      replace F2r2 : ((I4 4).toInt ≤ (I_25 1).toInt) := F2r2
      replace F3r2 : ((¬ (I4 2).toInt = 0) → (I4 3).toInt < (I4 4).toInt) := F3r2
      replace F4r2 : ((¬ (I_25 6).toInt = 0) → (¬ (I4 6).toInt = 0)) := F4r2
      replace F5r2 : ((I_25 3).toInt ≤ (I4 3).toInt) := F5r2
      replace hvI : InvI Wm_lo Wm_hi I4 := hvI
      replace hvR : InvR Wm_rl R6 := hvR
      replace tIr2 : SmF ([2, 3, 4, 5, 6, 7] : List Nat) I_25 I4 := tIr2
      replace tRr2 : SmF ([] : List Nat) R_25 R6 := tRr2
      have hv_I4 := hvI
      have hsI := smF_tr hsI tIr2 (by decide)
      have hsR := smF_tr hsR tRr2 (by decide)
      have u_I4_1 : (I4 1).toInt = (I_25 1).toInt := congrArg Int32.toInt (tIr2 1 rfl)
      have w_I4_2 := rg (hvI 2 (by decide)) (0) (3) rfl rfl
      have w_I4_3 := rg (hvI 3 (by decide)) (0) (1800) rfl rfl
      have w_I4_4 := rg (hvI 4 (by decide)) (0) (1800) rfl rfl
      have w_I4_6 := rg (hvI 6 (by decide)) (0) (5) rfl rfl
      have nr2_0 : ((I4 3).toInt ≤ (I4 4).toInt) := by omega
      have nr2_1 : ((I4 4).toInt ≤ (I0 1).toInt) := by omega
      have nr2_2 : ((¬ (I4 2).toInt = 0) → (I4 3).toInt < (I4 4).toInt) := by omega
      have nr2_3 : ((¬ (I0 6).toInt = 0) → (¬ (I4 6).toInt = 0)) := by omega
      have nr2_4 : ((I0 3).toInt ≤ (I4 3).toInt) := by omega
      clear z0_25 z1_25 z2_25 z3_25 z4_25 F1r2 F2r2 F3r2 F4r2 F5r2
      rw [hQ]
      exact q_v F hr hlk (I4, J5, R6, L7) hP hD hS ⟨hvI, hvR, hsI, hsR, (show ((I4 3).toInt ≤ (I4 4).toInt) from by omega), (show ((I4 4).toInt ≤ (I0 1).toInt) from by omega), (show ((¬ (I4 2).toInt = 0) → (I4 3).toInt < (I4 4).toInt) from by omega), (show ((¬ (I0 6).toInt = 0) → (¬ (I4 6).toInt = 0)) from by omega), (show ((I0 3).toInt ≤ (I4 3).toInt) from by omega)⟩ dX12_must__36 (Nat.le_of_ble_eq_true rfl) (Nat.le_of_ble_eq_true rfl)
  have w_I0_1 := rg (hvI 1 (by decide)) (0) (1800) rfl rfl
  have w_I0_2 := rg (hvI 2 (by decide)) (0) (3) rfl rfl
  have w_I0_3 := rg (hvI 3 (by decide)) (0) (1800) rfl rfl
  have w_I0_4 := rg (hvI 4 (by decide)) (0) (1800) rfl rfl
  have w_I0_6 := rg (hvI 6 (by decide)) (0) (5) rfl rfl
  refine lv_aload_n hx hb dX12_must__0 rfl (lv_at hl 0 rfl) ?_
  refine g_get F hK hP 0 (Wm_at0 G g q I0 J0 R0 L0) clX12 8 (by decide) flX12_36 rfl dX12_must__1 ?_
  have w_I0_6 := rg (hvI0 6 (by decide)) (0) (5) rfl rfl
  refine lv_if_le (tgt := 8) hx hb dX12_must__4 (by decide) (fun c8 => ?_) (fun c8 => ?_)
  · have gc8 : (I0 6).toInt ≤ 0 := (tle _ _).mp c8
    refine lv_aload_n hx hb dX12_must__8 rfl (lv_at hl 0 rfl) ?_
    refine lv_lload_n hx hb dX12_must__9 rfl (lv_at hl 1 rfl) ?_
    refine wvi (As := [.long p1]) (rest := []) (b := (g 45)) (d := 1) F hK hP hD hS hA (s_X12_isWord l G g q I0 J0 R0 L0 hvI hvR  p1 ) kmV_X12_isWord mlX12_332 clX12 rfl 0 (Wm_at0 G g q I0 J0 R0 L0) ⟨(Nat.le_of_ble_eq_true rfl), (Nat.le_of_ble_eq_true rfl)⟩ hl.1 rfl (Nat.le_of_ble_eq_true rfl) dX12_must__10 (fun r9 u10 H locs hwr9 hP hD hS => ?_)
    have F0r9 := hwr9
    replace F0r9 : ((0 : Int) ≤ r9.toInt ∧ r9.toInt ≤ (1 : Int)) := F0r9
    refine lv_if_ne (tgt := 25) hx hb dX12_must__13 (by decide) (fun c11 => ?_) (fun c11 => ?_)
    · have gc11 : ¬ (r9.toInt = 0) := fun q0 => c11 (Int32.toInt_inj.mp q0)
      exact lab_25  I0 J0 R0 L0 _ _ _ hvI hvR hsI hsR (show ((I0 3).toInt ≤ (I0 4).toInt) from by omega) (show ((I0 4).toInt ≤ (I0 1).toInt) from by omega) (show ((¬ (I0 2).toInt = 0) → (I0 3).toInt < (I0 4).toInt) from by omega) (show ((¬ (I0 6).toInt = 0) → (¬ (I0 6).toInt = 0)) from by omega) (show ((I0 3).toInt ≤ (I0 3).toInt) from by omega) hP hD hS (lv_sub hl [0] rfl)
    · have gc11 : r9.toInt = 0 := congrArg Int32.toInt c11
      refine lv_aload_n hx hb dX12_must__16 rfl (lv_at hl 0 rfl) ?_
      refine lv_iconst (v := 1) hx hb dX12_must__17 (by decide) ?_
      refine lv_aload_n hx hb dX12_must__18 rfl (lv_at hl 0 rfl) ?_
      refine g_get F hK hP 0 (Wm_at0 G g q I0 J0 R0 L0) clX12 4 (by decide) flX12_23 rfl dX12_must__19 ?_
      have w_I0_3 := rg (hvI0 3 (by decide)) (0) (1800) rfl rfl
      refine wvv (As := [.int 1, .int (I0 3)]) (rest := []) (b := (g 45)) (d := 1) F hK hP hD hS hA (s_X12_blame l G g q I0 J0 R0 L0 hvI hvR  1 ((I0 3)) (by decide) (show ((0 : Int) ≤ (I0 3).toInt ∧ (I0 3).toInt ≤ (1800 : Int)) from by omega)) kmV_X12_blame mlX12_240 clX12 rfl 0 (Wm_at0 G g q I0 J0 R0 L0) ⟨(Nat.le_of_ble_eq_true rfl), (Nat.le_of_ble_eq_true rfl)⟩ hl.1 rfl (Nat.le_of_ble_eq_true rfl) dX12_must__22 (fun u13 H locs hwr12 hP hD hS => ?_)
      obtain ⟨I14, J15, R16, L17⟩ := u13
      replace hP : va_P G.1 vwCl (Wm G g q I14 J15 R16 L17) H := hP
      replace hD : va_D A (Wm G g q I14 J15 R16 L17) := hD
      obtain ⟨hvI, hvR, tIr12, tRr12, F0r12⟩ := hwr12
      replace F0r12 : (¬ (I14 6).toInt = 0) := F0r12
      replace hvI : InvI Wm_lo Wm_hi I14 := hvI
      replace hvR : InvR Wm_rl R16 := hvR
      replace tIr12 : SmF ([6, 7] : List Nat) I0 I14 := tIr12
      replace tRr12 : SmF ([] : List Nat) R0 R16 := tRr12
      have hv_I14 := hvI
      have hsI := smF_tr hsI tIr12 (by decide)
      have hsR := smF_tr hsR tRr12 (by decide)
      have u_I14_1 : (I14 1).toInt = (I0 1).toInt := congrArg Int32.toInt (tIr12 1 rfl)
      have u_I14_2 : (I14 2).toInt = (I0 2).toInt := congrArg Int32.toInt (tIr12 2 rfl)
      have u_I14_3 : (I14 3).toInt = (I0 3).toInt := congrArg Int32.toInt (tIr12 3 rfl)
      have u_I14_4 : (I14 4).toInt = (I0 4).toInt := congrArg Int32.toInt (tIr12 4 rfl)
      have w_I14_6 := rg (hvI 6 (by decide)) (0) (5) rfl rfl
      have nr12_0 : ((I14 3).toInt ≤ (I14 4).toInt) := by omega
      have nr12_1 : ((I14 4).toInt ≤ (I0 1).toInt) := by omega
      have nr12_2 : ((¬ (I14 2).toInt = 0) → (I14 3).toInt < (I14 4).toInt) := by omega
      have nr12_3 : ((¬ (I0 6).toInt = 0) → (¬ (I14 6).toInt = 0)) := by omega
      have nr12_4 : ((I0 3).toInt ≤ (I14 3).toInt) := by omega
      exact lab_25  I14 J15 R16 L17 _ _ _ hvI hvR hsI hsR (show ((I14 3).toInt ≤ (I14 4).toInt) from by omega) (show ((I14 4).toInt ≤ (I0 1).toInt) from by omega) (show ((¬ (I14 2).toInt = 0) → (I14 3).toInt < (I14 4).toInt) from by omega) (show ((¬ (I0 6).toInt = 0) → (¬ (I14 6).toInt = 0)) from by omega) (show ((I0 3).toInt ≤ (I14 3).toInt) from by omega) hP hD hS (lv_sub hl [0] rfl)
  · have gc8 : ¬ ((I0 6).toInt ≤ 0) := fun q0 => c8 ((tle _ _).mpr q0)
    rw [hQ]
    exact q_v F hr hlk (I0, J0, R0, L0) hP hD hS ⟨hvI, hvR, hsI, hsR, (show ((I0 3).toInt ≤ (I0 4).toInt) from by omega), (show ((I0 4).toInt ≤ (I0 1).toInt) from by omega), (show ((¬ (I0 2).toInt = 0) → (I0 3).toInt < (I0 4).toInt) from by omega), (show ((¬ (I0 6).toInt = 0) → (¬ (I0 6).toInt = 0)) from by omega), (show ((I0 3).toInt ≤ (I0 3).toInt) from by omega)⟩ dX12_must__7 (Nat.le_of_ble_eq_true rfl) (Nat.le_of_ble_eq_true rfl)
set_option maxHeartbeats 4000000 in
set_option maxRecDepth 100000 in
theorem s_X12_must (l : Launch) (G : Gx) (g q : Nat → Nat) (I0 : Nat → Int32) (J0 : Nat → Int64) (R0 : Nat → Nat → Int32) (L0 : Nat → Nat → Int64) (hvI : InvI Wm_lo Wm_hi I0) (hvR : InvR Wm_rl R0)  (p1 : Int32) (hp1 : ((59 : Int) ≤ p1.toInt ∧ p1.toInt ≤ (59 : Int))) (hpre0 : ((I0 3).toInt ≤ (I0 4).toInt)) (hpre1 : ((I0 4).toInt ≤ (I0 1).toInt)) (hpre2 : ((¬ (I0 2).toInt = 0) → (I0 3).toInt < (I0 4).toInt)) : CtV (S := St) l yX12_must cX12_must 2 none (rmD 3 0 0) G [.ref (g 45), .int p1] (Wm G g q I0 J0 R0 L0) (fun u => InvI Wm_lo Wm_hi u.1 ∧ InvR Wm_rl u.2.2.1 ∧ SmF ([2, 3, 4, 5, 6, 7] : List Nat) I0 u.1 ∧ SmF ([] : List Nat) R0 u.2.2.1 ∧ ((u.1 3).toInt ≤ (u.1 4).toInt) ∧ ((u.1 4).toInt ≤ (I0 1).toInt) ∧ ((¬ (u.1 2).toInt = 0) → (u.1 3).toInt < (u.1 4).toInt) ∧ ((¬ (I0 6).toInt = 0) → (¬ (u.1 6).toInt = 0)) ∧ ((I0 3).toInt ≤ (u.1 3).toInt)) (fun u => Wm G g q u.1 u.2.1 u.2.2.1 u.2.2.2) := by
  refine ctV_of (own := RX12) (by decide +kernel) rfl (Nat.le_of_ble_eq_true rfl) ?_
  intro p e s m below meth c A ls F hr hlk hnm hK hP hD hA hS hl
  have hx := F.1
  have hb := F.2.1
  have hown := F.2.2.2.1
  have hl : lv_has ls 2 [(0, .ref (g 45)), (1, .int p1)] := hl
  obtain ⟨Q, hQ⟩ : ∃ Q : State → Prop, Q = MQ below (va_Qv (S := St) (fun u => InvI Wm_lo Wm_hi u.1 ∧ InvR Wm_rl u.2.2.1 ∧ SmF ([2, 3, 4, 5, 6, 7] : List Nat) I0 u.1 ∧ SmF ([] : List Nat) R0 u.2.2.1 ∧ ((u.1 3).toInt ≤ (u.1 4).toInt) ∧ ((u.1 4).toInt ≤ (I0 1).toInt) ∧ ((¬ (u.1 2).toInt = 0) → (u.1 3).toInt < (u.1 4).toInt) ∧ ((¬ (I0 6).toInt = 0) → (¬ (u.1 6).toInt = 0)) ∧ ((I0 3).toInt ≤ (u.1 3).toInt)) (BX G A (fun u => Wm G g q u.1 u.2.1 u.2.2.1 u.2.2.2)) A) [.ref (g 45), .int p1].toArray s 0 0 A := ⟨_, rfl⟩
  rw [show (MQ below (va_Qv (S := St) (fun u => InvI Wm_lo Wm_hi u.1 ∧ InvR Wm_rl u.2.2.1 ∧ SmF ([2, 3, 4, 5, 6, 7] : List Nat) I0 u.1 ∧ SmF ([] : List Nat) R0 u.2.2.1 ∧ ((u.1 3).toInt ≤ (u.1 4).toInt) ∧ ((u.1 4).toInt ≤ (I0 1).toInt) ∧ ((¬ (u.1 2).toInt = 0) → (u.1 3).toInt < (u.1 4).toInt) ∧ ((¬ (I0 6).toInt = 0) → (¬ (u.1 6).toInt = 0)) ∧ ((I0 3).toInt ≤ (u.1 3).toInt)) (BX G A (fun u => Wm G g q u.1 u.2.1 u.2.2.1 u.2.2.2)) A) [.ref (g 45), .int p1].toArray s (rmD 3 0 0).cells (rmD 3 0 0).slots A) = Q from hQ.symm]
  have hsI := smF_rf ([2, 3, 4, 5, 6, 7] : List Nat) I0
  have hsR := smF_rf ([] : List Nat) R0
  have hvI0 := hvI
  have lab_17 : ∀  (I_17 : Nat → Int32) (J_17 : Nat → Int64) (R_17 : Nat → Nat → Int32) (L_17 : Nat → Nat → Int64) (H : Heap) (locs : List Loc) (ls : Array Slot), InvI Wm_lo Wm_hi I_17 → InvR Wm_rl R_17 → SmF ([2, 3, 4, 5, 6, 7] : List Nat) I0 I_17 → SmF ([] : List Nat) R0 R_17 → ((I_17 3).toInt ≤ (I_17 4).toInt) → ((I_17 4).toInt ≤ (I0 1).toInt) → ((¬ (I_17 2).toInt = 0) → (I_17 3).toInt < (I_17 4).toInt) → ((¬ (I0 6).toInt = 0) → (¬ (I_17 6).toInt = 0)) → ((I0 3).toInt ≤ (I_17 3).toInt) → va_P G.1 vwCl (Wm G g q I_17 J_17 R_17 L_17) H → va_D A (Wm G g q I_17 J_17 R_17 L_17) → va_S A s.heap H locs → lv_has ls 2 [(0, .ref (g 45))] → W p l e (rmD 3 0 0) s m [.ref (g 45), .int p1].toArray below meth c H locs 0 0 Q (F0 m 17 ls []) := by
    intro I_17 J_17 R_17 L_17 H locs ls hvI hvR hsI hsR z0_17 z1_17 z2_17 z3_17 z4_17 hP hD hS hl
    have hv_I_17 := hvI
    have w_I_17_1 := rg (hvI 1 (by decide)) (0) (1800) rfl rfl
    have v_I_17_1 : (I_17 1).toInt = (I0 1).toInt := congrArg Int32.toInt (hsI 1 rfl)
    have w_I_17_2 := rg (hvI 2 (by decide)) (0) (3) rfl rfl
    have w_I_17_3 := rg (hvI 3 (by decide)) (0) (1800) rfl rfl
    have w_I_17_4 := rg (hvI 4 (by decide)) (0) (1800) rfl rfl
    have w_I_17_6 := rg (hvI 6 (by decide)) (0) (5) rfl rfl
    refine lv_aload_n hx hb dX12_must_17 rfl (lv_at hl 0 rfl) ?_
    refine g_get F hK hP 0 (Wm_at0 G g q I_17 J_17 R_17 L_17) clX12 8 (by decide) flX12_36 rfl dX12_must_18 ?_
    have w_I_17_6 := rg (hv_I_17 6 (by decide)) (0) (5) rfl rfl
    refine lv_if_ne (tgt := 28) hx hb dX12_must_21 (by decide) (fun c1 => ?_) (fun c1 => ?_)
    · have gc1 : ¬ ((I_17 6).toInt = 0) := fun q0 => c1 (Int32.toInt_inj.mp q0)
      rw [hQ]
      exact q_v F hr hlk (I_17, J_17, R_17, L_17) hP hD hS ⟨hvI, hvR, hsI, hsR, (show ((I_17 3).toInt ≤ (I_17 4).toInt) from by omega), (show ((I_17 4).toInt ≤ (I0 1).toInt) from by omega), (show ((¬ (I_17 2).toInt = 0) → (I_17 3).toInt < (I_17 4).toInt) from by omega), (show ((¬ (I0 6).toInt = 0) → (¬ (I_17 6).toInt = 0)) from by omega), (show ((I0 3).toInt ≤ (I_17 3).toInt) from by omega)⟩ dX12_must_28 (Nat.le_of_ble_eq_true rfl) (Nat.le_of_ble_eq_true rfl)
    · have gc1 : (I_17 6).toInt = 0 := congrArg Int32.toInt c1
      refine lv_aload_n hx hb dX12_must_24 rfl (lv_at hl 0 rfl) ?_
      refine wvv (As := []) (rest := []) (b := (g 45)) (d := 2) F hK hP hD hS hA (s_X12_ahead l G g q I_17 J_17 R_17 L_17 hvI hvR   (by omega) (by omega) (by omega)) kmV_X12_ahead mlX12_247 clX12 rfl 0 (Wm_at0 G g q I_17 J_17 R_17 L_17) ⟨(Nat.le_of_ble_eq_true rfl), (Nat.le_of_ble_eq_true rfl)⟩ hl.1 rfl (Nat.le_of_ble_eq_true rfl) dX12_must_25 (fun u3 H locs hwr2 hP hD hS => ?_)
      obtain ⟨I4, J5, R6, L7⟩ := u3
      replace hP : va_P G.1 vwCl (Wm G g q I4 J5 R6 L7) H := hP
      replace hD : va_D A (Wm G g q I4 J5 R6 L7) := hD
      obtain ⟨hvI, hvR, tIr2, tRr2, F0r2, F1r2, F2r2, F3r2, F4r2, F5r2⟩ := hwr2
      replace F0r2 : ((I_17 4).toInt ≤ (I4 3).toInt) := F0r2
      replace F1r2 : ((I4 3).toInt ≤ (I4 4).toInt) := F1r2
      replace F2r2 : ((I4 4).toInt ≤ (I_17 1).toInt) := F2r2
      replace F3r2 : ((¬ (I4 2).toInt = 0) → (I4 3).toInt < (I4 4).toInt) := F3r2
      replace F4r2 : ((¬ (I_17 6).toInt = 0) → (¬ (I4 6).toInt = 0)) := F4r2
      replace F5r2 : ((I_17 3).toInt ≤ (I4 3).toInt) := F5r2
      replace hvI : InvI Wm_lo Wm_hi I4 := hvI
      replace hvR : InvR Wm_rl R6 := hvR
      replace tIr2 : SmF ([2, 3, 4, 5, 6, 7] : List Nat) I_17 I4 := tIr2
      replace tRr2 : SmF ([] : List Nat) R_17 R6 := tRr2
      have hv_I4 := hvI
      have hsI := smF_tr hsI tIr2 (by decide)
      have hsR := smF_tr hsR tRr2 (by decide)
      have u_I4_1 : (I4 1).toInt = (I_17 1).toInt := congrArg Int32.toInt (tIr2 1 rfl)
      have w_I4_2 := rg (hvI 2 (by decide)) (0) (3) rfl rfl
      have w_I4_3 := rg (hvI 3 (by decide)) (0) (1800) rfl rfl
      have w_I4_4 := rg (hvI 4 (by decide)) (0) (1800) rfl rfl
      have w_I4_6 := rg (hvI 6 (by decide)) (0) (5) rfl rfl
      have nr2_0 : ((I4 3).toInt ≤ (I4 4).toInt) := by omega
      have nr2_1 : ((I4 4).toInt ≤ (I0 1).toInt) := by omega
      have nr2_2 : ((¬ (I4 2).toInt = 0) → (I4 3).toInt < (I4 4).toInt) := by omega
      have nr2_3 : ((¬ (I0 6).toInt = 0) → (¬ (I4 6).toInt = 0)) := by omega
      have nr2_4 : ((I0 3).toInt ≤ (I4 3).toInt) := by omega
      clear z0_17 z1_17 z2_17 z3_17 z4_17 F1r2 F2r2 F3r2 F4r2 F5r2
      rw [hQ]
      exact q_v F hr hlk (I4, J5, R6, L7) hP hD hS ⟨hvI, hvR, hsI, hsR, (show ((I4 3).toInt ≤ (I4 4).toInt) from by omega), (show ((I4 4).toInt ≤ (I0 1).toInt) from by omega), (show ((¬ (I4 2).toInt = 0) → (I4 3).toInt < (I4 4).toInt) from by omega), (show ((¬ (I0 6).toInt = 0) → (¬ (I4 6).toInt = 0)) from by omega), (show ((I0 3).toInt ≤ (I4 3).toInt) from by omega)⟩ dX12_must_28 (Nat.le_of_ble_eq_true rfl) (Nat.le_of_ble_eq_true rfl)
  have w_I0_1 := rg (hvI 1 (by decide)) (0) (1800) rfl rfl
  have w_I0_2 := rg (hvI 2 (by decide)) (0) (3) rfl rfl
  have w_I0_3 := rg (hvI 3 (by decide)) (0) (1800) rfl rfl
  have w_I0_4 := rg (hvI 4 (by decide)) (0) (1800) rfl rfl
  have w_I0_6 := rg (hvI 6 (by decide)) (0) (5) rfl rfl
  refine lv_aload_n hx hb dX12_must_0 rfl (lv_at hl 0 rfl) ?_
  refine lv_iload_n hx hb dX12_must_1 rfl (lv_at hl 1 rfl) ?_
  refine wvi (As := [.int p1]) (rest := []) (b := (g 45)) (d := 1) F hK hP hD hS hA (s_X12_isSign l G g q I0 J0 R0 L0 hvI hvR  p1 (show ((37 : Int) ≤ p1.toInt ∧ p1.toInt ≤ (93 : Int)) from by omega)) kmV_X12_isSign mlX12_244 clX12 rfl 0 (Wm_at0 G g q I0 J0 R0 L0) ⟨(Nat.le_of_ble_eq_true rfl), (Nat.le_of_ble_eq_true rfl)⟩ hl.1 rfl (Nat.le_of_ble_eq_true rfl) dX12_must_2 (fun r8 u9 H locs hwr8 hP hD hS => ?_)
  have F0r8 := hwr8
  replace F0r8 : ((0 : Int) ≤ r8.toInt ∧ r8.toInt ≤ (1 : Int)) := F0r8
  refine lv_if_ne (tgt := 17) hx hb dX12_must_5 (by decide) (fun c10 => ?_) (fun c10 => ?_)
  · have gc10 : ¬ (r8.toInt = 0) := fun q0 => c10 (Int32.toInt_inj.mp q0)
    exact lab_17  I0 J0 R0 L0 _ _ _ hvI hvR hsI hsR (show ((I0 3).toInt ≤ (I0 4).toInt) from by omega) (show ((I0 4).toInt ≤ (I0 1).toInt) from by omega) (show ((¬ (I0 2).toInt = 0) → (I0 3).toInt < (I0 4).toInt) from by omega) (show ((¬ (I0 6).toInt = 0) → (¬ (I0 6).toInt = 0)) from by omega) (show ((I0 3).toInt ≤ (I0 3).toInt) from by omega) hP hD hS (lv_sub hl [0] rfl)
  · have gc10 : r8.toInt = 0 := congrArg Int32.toInt c10
    refine lv_aload_n hx hb dX12_must_8 rfl (lv_at hl 0 rfl) ?_
    refine lv_iconst (v := 1) hx hb dX12_must_9 (by decide) ?_
    refine lv_aload_n hx hb dX12_must_10 rfl (lv_at hl 0 rfl) ?_
    refine g_get F hK hP 0 (Wm_at0 G g q I0 J0 R0 L0) clX12 4 (by decide) flX12_23 rfl dX12_must_11 ?_
    have w_I0_3 := rg (hvI0 3 (by decide)) (0) (1800) rfl rfl
    refine wvv (As := [.int 1, .int (I0 3)]) (rest := []) (b := (g 45)) (d := 1) F hK hP hD hS hA (s_X12_blame l G g q I0 J0 R0 L0 hvI hvR  1 ((I0 3)) (by decide) (show ((0 : Int) ≤ (I0 3).toInt ∧ (I0 3).toInt ≤ (1800 : Int)) from by omega)) kmV_X12_blame mlX12_240 clX12 rfl 0 (Wm_at0 G g q I0 J0 R0 L0) ⟨(Nat.le_of_ble_eq_true rfl), (Nat.le_of_ble_eq_true rfl)⟩ hl.1 rfl (Nat.le_of_ble_eq_true rfl) dX12_must_14 (fun u12 H locs hwr11 hP hD hS => ?_)
    obtain ⟨I13, J14, R15, L16⟩ := u12
    replace hP : va_P G.1 vwCl (Wm G g q I13 J14 R15 L16) H := hP
    replace hD : va_D A (Wm G g q I13 J14 R15 L16) := hD
    obtain ⟨hvI, hvR, tIr11, tRr11, F0r11⟩ := hwr11
    replace F0r11 : (¬ (I13 6).toInt = 0) := F0r11
    replace hvI : InvI Wm_lo Wm_hi I13 := hvI
    replace hvR : InvR Wm_rl R15 := hvR
    replace tIr11 : SmF ([6, 7] : List Nat) I0 I13 := tIr11
    replace tRr11 : SmF ([] : List Nat) R0 R15 := tRr11
    have hv_I13 := hvI
    have hsI := smF_tr hsI tIr11 (by decide)
    have hsR := smF_tr hsR tRr11 (by decide)
    have u_I13_1 : (I13 1).toInt = (I0 1).toInt := congrArg Int32.toInt (tIr11 1 rfl)
    have u_I13_2 : (I13 2).toInt = (I0 2).toInt := congrArg Int32.toInt (tIr11 2 rfl)
    have u_I13_3 : (I13 3).toInt = (I0 3).toInt := congrArg Int32.toInt (tIr11 3 rfl)
    have u_I13_4 : (I13 4).toInt = (I0 4).toInt := congrArg Int32.toInt (tIr11 4 rfl)
    have w_I13_6 := rg (hvI 6 (by decide)) (0) (5) rfl rfl
    have nr11_0 : ((I13 3).toInt ≤ (I13 4).toInt) := by omega
    have nr11_1 : ((I13 4).toInt ≤ (I0 1).toInt) := by omega
    have nr11_2 : ((¬ (I13 2).toInt = 0) → (I13 3).toInt < (I13 4).toInt) := by omega
    have nr11_3 : ((¬ (I0 6).toInt = 0) → (¬ (I13 6).toInt = 0)) := by omega
    have nr11_4 : ((I0 3).toInt ≤ (I13 3).toInt) := by omega
    exact lab_17  I13 J14 R15 L16 _ _ _ hvI hvR hsI hsR (show ((I13 3).toInt ≤ (I13 4).toInt) from by omega) (show ((I13 4).toInt ≤ (I0 1).toInt) from by omega) (show ((¬ (I13 2).toInt = 0) → (I13 3).toInt < (I13 4).toInt) from by omega) (show ((¬ (I0 6).toInt = 0) → (¬ (I13 6).toInt = 0)) from by omega) (show ((I0 3).toInt ≤ (I13 3).toInt) from by omega) hP hD hS (lv_sub hl [0] rfl)
