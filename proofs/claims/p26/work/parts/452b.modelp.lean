set_option maxHeartbeats 4000000 in
set_option maxRecDepth 100000 in
theorem s_X12_asked (l : Launch) (G : Gx) (g q : Nat → Nat) (I0 : Nat → Int32) (J0 : Nat → Int64) (R0 : Nat → Nat → Int32) (L0 : Nat → Nat → Int64) (hvI : InvI Wm_lo Wm_hi I0) (hvR : InvR Wm_rl R0)  (p1 : Int32) (hp1 : ((0 : Int) ≤ p1.toInt ∧ p1.toInt ≤ (2 : Int))) (hpre0 : ((I0 3).toInt ≤ (I0 4).toInt)) (hpre1 : ((I0 4).toInt ≤ (I0 1).toInt)) (hpre2 : ((¬ (I0 2).toInt = 0) → (I0 3).toInt < (I0 4).toInt)) : CtI (S := St) l yX12_asked cX12_asked 3 (some .int) (rmD 3 0 0) G [.ref (g 45), .int p1] (Wm G g q I0 J0 R0 L0) (fun r u => InvI Wm_lo Wm_hi u.1 ∧ InvR Wm_rl u.2.2.1 ∧ SmF ([2, 3, 4, 5, 6, 7] : List Nat) I0 u.1 ∧ SmF ([] : List Nat) R0 u.2.2.1 ∧ ((0 : Int) ≤ r.toInt ∧ r.toInt ≤ (11 : Int)) ∧ (p1.toInt = 0 → r.toInt ≤ 4) ∧ (p1.toInt = 1 → r.toInt ≤ 5) ∧ ((u.1 3).toInt ≤ (u.1 4).toInt) ∧ ((u.1 4).toInt ≤ (I0 1).toInt) ∧ ((¬ (u.1 2).toInt = 0) → (u.1 3).toInt < (u.1 4).toInt) ∧ ((¬ (I0 6).toInt = 0) → (¬ (u.1 6).toInt = 0)) ∧ ((I0 3).toInt ≤ (u.1 3).toInt)) (fun u => Wm G g q u.1 u.2.1 u.2.2.1 u.2.2.2) := by
  refine ctI_of (own := RX12) (by decide +kernel) rfl (Nat.le_of_ble_eq_true rfl) ?_
  intro p e s m below meth c A ls F hr hlk hnm hK hP hD hA hS hl
  have hx := F.1
  have hb := F.2.1
  have hown := F.2.2.2.1
  have hl : lv_has ls 3 [(0, .ref (g 45)), (1, .int p1)] := hl
  obtain ⟨Q, hQ⟩ : ∃ Q : State → Prop, Q = MQ below (va_Qi (S := St) (fun r u => InvI Wm_lo Wm_hi u.1 ∧ InvR Wm_rl u.2.2.1 ∧ SmF ([2, 3, 4, 5, 6, 7] : List Nat) I0 u.1 ∧ SmF ([] : List Nat) R0 u.2.2.1 ∧ ((0 : Int) ≤ r.toInt ∧ r.toInt ≤ (11 : Int)) ∧ (p1.toInt = 0 → r.toInt ≤ 4) ∧ (p1.toInt = 1 → r.toInt ≤ 5) ∧ ((u.1 3).toInt ≤ (u.1 4).toInt) ∧ ((u.1 4).toInt ≤ (I0 1).toInt) ∧ ((¬ (u.1 2).toInt = 0) → (u.1 3).toInt < (u.1 4).toInt) ∧ ((¬ (I0 6).toInt = 0) → (¬ (u.1 6).toInt = 0)) ∧ ((I0 3).toInt ≤ (u.1 3).toInt)) (BX G A (fun u => Wm G g q u.1 u.2.1 u.2.2.1 u.2.2.2)) A) [.ref (g 45), .int p1].toArray s 0 0 A := ⟨_, rfl⟩
  rw [show (MQ below (va_Qi (S := St) (fun r u => InvI Wm_lo Wm_hi u.1 ∧ InvR Wm_rl u.2.2.1 ∧ SmF ([2, 3, 4, 5, 6, 7] : List Nat) I0 u.1 ∧ SmF ([] : List Nat) R0 u.2.2.1 ∧ ((0 : Int) ≤ r.toInt ∧ r.toInt ≤ (11 : Int)) ∧ (p1.toInt = 0 → r.toInt ≤ 4) ∧ (p1.toInt = 1 → r.toInt ≤ 5) ∧ ((u.1 3).toInt ≤ (u.1 4).toInt) ∧ ((u.1 4).toInt ≤ (I0 1).toInt) ∧ ((¬ (u.1 2).toInt = 0) → (u.1 3).toInt < (u.1 4).toInt) ∧ ((¬ (I0 6).toInt = 0) → (¬ (u.1 6).toInt = 0)) ∧ ((I0 3).toInt ≤ (u.1 3).toInt)) (BX G A (fun u => Wm G g q u.1 u.2.1 u.2.2.1 u.2.2.2)) A) [.ref (g 45), .int p1].toArray s (rmD 3 0 0).cells (rmD 3 0 0).slots A) = Q from hQ.symm]
  have hsI := smF_rf ([2, 3, 4, 5, 6, 7] : List Nat) I0
  have hsR := smF_rf ([] : List Nat) R0
  have hvI0 := hvI
  have lab_90 : ∀ (a2_90 : Int32) (I_90 : Nat → Int32) (J_90 : Nat → Int64) (R_90 : Nat → Nat → Int32) (L_90 : Nat → Nat → Int64) (H : Heap) (locs : List Loc) (ls : Array Slot), InvI Wm_lo Wm_hi I_90 → InvR Wm_rl R_90 → SmF ([2, 3, 4, 5, 6, 7] : List Nat) I0 I_90 → SmF ([] : List Nat) R0 R_90 → ((-1 : Int) ≤ a2_90.toInt ∧ a2_90.toInt ≤ (11 : Int)) → (p1.toInt = 0 → a2_90.toInt ≤ 4) → (p1.toInt = 1 → a2_90.toInt ≤ 5) → ((I_90 6).toInt = 0 → 0 ≤ a2_90.toInt) → ((I_90 3).toInt ≤ (I_90 4).toInt) → ((I_90 4).toInt ≤ (I0 1).toInt) → ((¬ (I_90 2).toInt = 0) → (I_90 3).toInt < (I_90 4).toInt) → ((¬ (I0 6).toInt = 0) → (¬ (I_90 6).toInt = 0)) → ((I0 3).toInt ≤ (I_90 3).toInt) → va_P G.1 vwCl (Wm G g q I_90 J_90 R_90 L_90) H → va_D A (Wm G g q I_90 J_90 R_90 L_90) → va_S A s.heap H locs → lv_has ls 3 [(0, .ref (g 45)), (2, .int a2_90)] → W p l e (rmD 3 0 0) s m [.ref (g 45), .int p1].toArray below meth c H locs 0 0 Q (F0 m 90 ls []) := by
    intro a2_90 I_90 J_90 R_90 L_90 H locs ls hvI hvR hsI hsR y0_90 z0_90 z1_90 z2_90 z3_90 z4_90 z5_90 z6_90 z7_90 hP hD hS hl
    have hv_I_90 := hvI
    have w_I_90_1 := rg (hvI 1 (by decide)) (0) (1800) rfl rfl
    have v_I_90_1 : (I_90 1).toInt = (I0 1).toInt := congrArg Int32.toInt (hsI 1 rfl)
    have w_I_90_2 := rg (hvI 2 (by decide)) (0) (3) rfl rfl
    have w_I_90_3 := rg (hvI 3 (by decide)) (0) (1800) rfl rfl
    have w_I_90_4 := rg (hvI 4 (by decide)) (0) (1800) rfl rfl
    have w_I_90_6 := rg (hvI 6 (by decide)) (0) (5) rfl rfl
    refine lv_aload_n hx hb dX12_asked_90 rfl (lv_at hl 0 rfl) ?_
    refine g_get F hK hP 0 (Wm_at0 G g q I_90 J_90 R_90 L_90) clX12 8 (by decide) flX12_36 rfl dX12_asked_91 ?_
    have w_I_90_6 := rg (hv_I_90 6 (by decide)) (0) (5) rfl rfl
    refine lv_if_le (tgt := 101) hx hb dX12_asked_94 (by decide) (fun c1 => ?_) (fun c1 => ?_)
    · have gc1 : (I_90 6).toInt ≤ 0 := (tle _ _).mp c1
      refine lv_iload_n hx hb dX12_asked_101 rfl (lv_at hl 1 rfl) ?_
      rw [hQ]
      exact q_i F hr hlk (I_90, J_90, R_90, L_90) hP hD hS ⟨hvI, hvR, hsI, hsR, (show ((0 : Int) ≤ a2_90.toInt ∧ a2_90.toInt ≤ (11 : Int)) from by omega), (show (p1.toInt = 0 → a2_90.toInt ≤ 4) from by omega), (show (p1.toInt = 1 → a2_90.toInt ≤ 5) from by omega), (show ((I_90 3).toInt ≤ (I_90 4).toInt) from by omega), (show ((I_90 4).toInt ≤ (I0 1).toInt) from by omega), (show ((¬ (I_90 2).toInt = 0) → (I_90 3).toInt < (I_90 4).toInt) from by omega), (show ((¬ (I0 6).toInt = 0) → (¬ (I_90 6).toInt = 0)) from by omega), (show ((I0 3).toInt ≤ (I_90 3).toInt) from by omega)⟩ dX12_asked_102 (Nat.le_of_ble_eq_true rfl) (Nat.le_of_ble_eq_true rfl)
    · have gc1 : ¬ ((I_90 6).toInt ≤ 0) := fun q0 => c1 ((tle _ _).mpr q0)
      refine lv_iconst (v := 0) hx hb dX12_asked_97 (by decide) ?_
      refine lv_goto (tgt := 102) hx hb dX12_asked_98 (by decide) ?_
      rw [hQ]
      exact q_i F hr hlk (I_90, J_90, R_90, L_90) hP hD hS ⟨hvI, hvR, hsI, hsR, (show ((0 : Int) ≤ 0 ∧ 0 ≤ (11 : Int)) from by omega), (show (p1.toInt = 0 → 0 ≤ 4) from by omega), (show (p1.toInt = 1 → 0 ≤ 5) from by omega), (show ((I_90 3).toInt ≤ (I_90 4).toInt) from by omega), (show ((I_90 4).toInt ≤ (I0 1).toInt) from by omega), (show ((¬ (I_90 2).toInt = 0) → (I_90 3).toInt < (I_90 4).toInt) from by omega), (show ((¬ (I0 6).toInt = 0) → (¬ (I_90 6).toInt = 0)) from by omega), (show ((I0 3).toInt ≤ (I_90 3).toInt) from by omega)⟩ dX12_asked_102 (Nat.le_of_ble_eq_true rfl) (Nat.le_of_ble_eq_true rfl)
  have lab_79 : ∀ (a2_79 : Int32) (I_79 : Nat → Int32) (J_79 : Nat → Int64) (R_79 : Nat → Nat → Int32) (L_79 : Nat → Nat → Int64) (H : Heap) (locs : List Loc) (ls : Array Slot), InvI Wm_lo Wm_hi I_79 → InvR Wm_rl R_79 → SmF ([2, 3, 4, 5, 6, 7] : List Nat) I0 I_79 → SmF ([] : List Nat) R0 R_79 → ((-1 : Int) ≤ a2_79.toInt ∧ a2_79.toInt ≤ (11 : Int)) → (p1.toInt = 0 → a2_79.toInt ≤ 4) → (p1.toInt = 1 → a2_79.toInt ≤ 5) → ((I_79 6).toInt = 0 → 0 ≤ a2_79.toInt) → ((I_79 3).toInt ≤ (I_79 4).toInt) → ((I_79 4).toInt ≤ (I0 1).toInt) → ((¬ (I_79 2).toInt = 0) → (I_79 3).toInt < (I_79 4).toInt) → ((¬ (I0 6).toInt = 0) → (¬ (I_79 6).toInt = 0)) → ((I0 3).toInt ≤ (I_79 3).toInt) → va_P G.1 vwCl (Wm G g q I_79 J_79 R_79 L_79) H → va_D A (Wm G g q I_79 J_79 R_79 L_79) → va_S A s.heap H locs → lv_has ls 3 [(0, .ref (g 45)), (2, .int a2_79)] → W p l e (rmD 3 0 0) s m [.ref (g 45), .int p1].toArray below meth c H locs 0 0 Q (F0 m 79 ls []) := by
    intro a2_79 I_79 J_79 R_79 L_79 H locs ls hvI hvR hsI hsR y0_79 z0_79 z1_79 z2_79 z3_79 z4_79 z5_79 z6_79 z7_79 hP hD hS hl
    have hv_I_79 := hvI
    have w_I_79_1 := rg (hvI 1 (by decide)) (0) (1800) rfl rfl
    have v_I_79_1 : (I_79 1).toInt = (I0 1).toInt := congrArg Int32.toInt (hsI 1 rfl)
    have w_I_79_2 := rg (hvI 2 (by decide)) (0) (3) rfl rfl
    have w_I_79_3 := rg (hvI 3 (by decide)) (0) (1800) rfl rfl
    have w_I_79_4 := rg (hvI 4 (by decide)) (0) (1800) rfl rfl
    have w_I_79_6 := rg (hvI 6 (by decide)) (0) (5) rfl rfl
    refine lv_aload_n hx hb dX12_asked_79 rfl (lv_at hl 0 rfl) ?_
    refine g_get F hK hP 0 (Wm_at0 G g q I_79 J_79 R_79 L_79) clX12 8 (by decide) flX12_36 rfl dX12_asked_80 ?_
    have w_I_79_6 := rg (hv_I_79 6 (by decide)) (0) (5) rfl rfl
    refine lv_if_ne (tgt := 90) hx hb dX12_asked_83 (by decide) (fun c2 => ?_) (fun c2 => ?_)
    · have gc2 : ¬ ((I_79 6).toInt = 0) := fun q0 => c2 (Int32.toInt_inj.mp q0)
      exact lab_90 a2_79 I_79 J_79 R_79 L_79 _ _ _ hvI hvR hsI hsR (show ((-1 : Int) ≤ a2_79.toInt ∧ a2_79.toInt ≤ (11 : Int)) from by omega) (show (p1.toInt = 0 → a2_79.toInt ≤ 4) from by omega) (show (p1.toInt = 1 → a2_79.toInt ≤ 5) from by omega) (show ((I_79 6).toInt = 0 → 0 ≤ a2_79.toInt) from by omega) (show ((I_79 3).toInt ≤ (I_79 4).toInt) from by omega) (show ((I_79 4).toInt ≤ (I0 1).toInt) from by omega) (show ((¬ (I_79 2).toInt = 0) → (I_79 3).toInt < (I_79 4).toInt) from by omega) (show ((¬ (I0 6).toInt = 0) → (¬ (I_79 6).toInt = 0)) from by omega) (show ((I0 3).toInt ≤ (I_79 3).toInt) from by omega) hP hD hS (lv_sub hl [0, 1] rfl)
    · have gc2 : (I_79 6).toInt = 0 := congrArg Int32.toInt c2
      refine lv_aload_n hx hb dX12_asked_86 rfl (lv_at hl 0 rfl) ?_
      refine wvv (As := []) (rest := []) (b := (g 45)) (d := 2) F hK hP hD hS hA (s_X12_ahead l G g q I_79 J_79 R_79 L_79 hvI hvR   (by omega) (by omega) (by omega)) kmV_X12_ahead mlX12_247 clX12 rfl 0 (Wm_at0 G g q I_79 J_79 R_79 L_79) ⟨(Nat.le_of_ble_eq_true rfl), (Nat.le_of_ble_eq_true rfl)⟩ hl.1 rfl (Nat.le_of_ble_eq_true rfl) dX12_asked_87 (fun u4 H locs hwr3 hP hD hS => ?_)
      obtain ⟨I5, J6, R7, L8⟩ := u4
      replace hP : va_P G.1 vwCl (Wm G g q I5 J6 R7 L8) H := hP
      replace hD : va_D A (Wm G g q I5 J6 R7 L8) := hD
      obtain ⟨hvI, hvR, tIr3, tRr3, F0r3, F1r3, F2r3, F3r3, F4r3, F5r3⟩ := hwr3
      replace F0r3 : ((I_79 4).toInt ≤ (I5 3).toInt) := F0r3
      replace F1r3 : ((I5 3).toInt ≤ (I5 4).toInt) := F1r3
      replace F2r3 : ((I5 4).toInt ≤ (I_79 1).toInt) := F2r3
      replace F3r3 : ((¬ (I5 2).toInt = 0) → (I5 3).toInt < (I5 4).toInt) := F3r3
      replace F4r3 : ((¬ (I_79 6).toInt = 0) → (¬ (I5 6).toInt = 0)) := F4r3
      replace F5r3 : ((I_79 3).toInt ≤ (I5 3).toInt) := F5r3
      replace hvI : InvI Wm_lo Wm_hi I5 := hvI
      replace hvR : InvR Wm_rl R7 := hvR
      replace tIr3 : SmF ([2, 3, 4, 5, 6, 7] : List Nat) I_79 I5 := tIr3
      replace tRr3 : SmF ([] : List Nat) R_79 R7 := tRr3
      have hv_I5 := hvI
      have hsI := smF_tr hsI tIr3 (by decide)
      have hsR := smF_tr hsR tRr3 (by decide)
      have u_I5_1 : (I5 1).toInt = (I_79 1).toInt := congrArg Int32.toInt (tIr3 1 rfl)
      have w_I5_2 := rg (hvI 2 (by decide)) (0) (3) rfl rfl
      have w_I5_3 := rg (hvI 3 (by decide)) (0) (1800) rfl rfl
      have w_I5_4 := rg (hvI 4 (by decide)) (0) (1800) rfl rfl
      have w_I5_6 := rg (hvI 6 (by decide)) (0) (5) rfl rfl
      have nr3_0 : ((I5 3).toInt ≤ (I5 4).toInt) := by omega
      have nr3_1 : ((I5 4).toInt ≤ (I0 1).toInt) := by omega
      have nr3_2 : ((¬ (I5 2).toInt = 0) → (I5 3).toInt < (I5 4).toInt) := by omega
      have nr3_3 : ((¬ (I0 6).toInt = 0) → (¬ (I5 6).toInt = 0)) := by omega
      have nr3_4 : ((I0 3).toInt ≤ (I5 3).toInt) := by omega
      clear z3_79 z4_79 z5_79 z6_79 z7_79 F1r3 F2r3 F3r3 F4r3 F5r3
      exact lab_90 a2_79 I5 J6 R7 L8 _ _ _ hvI hvR hsI hsR (show ((-1 : Int) ≤ a2_79.toInt ∧ a2_79.toInt ≤ (11 : Int)) from by omega) (show (p1.toInt = 0 → a2_79.toInt ≤ 4) from by omega) (show (p1.toInt = 1 → a2_79.toInt ≤ 5) from by omega) (show ((I5 6).toInt = 0 → 0 ≤ a2_79.toInt) from by omega) (show ((I5 3).toInt ≤ (I5 4).toInt) from by omega) (show ((I5 4).toInt ≤ (I0 1).toInt) from by omega) (show ((¬ (I5 2).toInt = 0) → (I5 3).toInt < (I5 4).toInt) from by omega) (show ((¬ (I0 6).toInt = 0) → (¬ (I5 6).toInt = 0)) from by omega) (show ((I0 3).toInt ≤ (I5 3).toInt) from by omega) hP hD hS (lv_sub hl [0, 1] rfl)
  have lab_57 : ∀ (b0_57 : Int32) (I_57 : Nat → Int32) (J_57 : Nat → Int64) (R_57 : Nat → Nat → Int32) (L_57 : Nat → Nat → Int64) (H : Heap) (locs : List Loc) (ls : Array Slot), InvI Wm_lo Wm_hi I_57 → InvR Wm_rl R_57 → SmF ([2, 3, 4, 5, 6, 7] : List Nat) I0 I_57 → SmF ([] : List Nat) R0 R_57 → ((-1 : Int) ≤ b0_57.toInt ∧ b0_57.toInt ≤ (11 : Int)) → (p1.toInt = 0 → b0_57.toInt ≤ 4) → (p1.toInt = 1 → b0_57.toInt ≤ 5) → ((I_57 3).toInt ≤ (I_57 4).toInt) → ((I_57 4).toInt ≤ (I0 1).toInt) → ((¬ (I_57 2).toInt = 0) → (I_57 3).toInt < (I_57 4).toInt) → ((¬ (I0 6).toInt = 0) → (¬ (I_57 6).toInt = 0)) → ((I0 3).toInt ≤ (I_57 3).toInt) → va_P G.1 vwCl (Wm G g q I_57 J_57 R_57 L_57) H → va_D A (Wm G g q I_57 J_57 R_57 L_57) → va_S A s.heap H locs → lv_has ls 3 [(0, .ref (g 45))] → W p l e (rmD 3 0 0) s m [.ref (g 45), .int p1].toArray below meth c H locs 0 0 Q (F0 m 57 ls [.int b0_57]) := by
    intro b0_57 I_57 J_57 R_57 L_57 H locs ls hvI hvR hsI hsR y0_57 z0_57 z1_57 z2_57 z3_57 z4_57 z5_57 z6_57 hP hD hS hl
    have hv_I_57 := hvI
    have w_I_57_1 := rg (hvI 1 (by decide)) (0) (1800) rfl rfl
    have v_I_57_1 : (I_57 1).toInt = (I0 1).toInt := congrArg Int32.toInt (hsI 1 rfl)
    have w_I_57_2 := rg (hvI 2 (by decide)) (0) (3) rfl rfl
    have w_I_57_3 := rg (hvI 3 (by decide)) (0) (1800) rfl rfl
    have w_I_57_4 := rg (hvI 4 (by decide)) (0) (1800) rfl rfl
    have w_I_57_6 := rg (hvI 6 (by decide)) (0) (5) rfl rfl
    refine lv_istore_n (lv' := [(2, .int b0_57), (0, .ref (g 45))]) hx hb dX12_asked_57 rfl hl (by decide) rfl (fun ls hl => ?_)
    refine lv_aload_n hx hb dX12_asked_58 rfl (lv_at hl 1 rfl) ?_
    refine g_get F hK hP 0 (Wm_at0 G g q I_57 J_57 R_57 L_57) clX12 8 (by decide) flX12_36 rfl dX12_asked_59 ?_
    have w_I_57_6 := rg (hv_I_57 6 (by decide)) (0) (5) rfl rfl
    refine lv_if_ne (tgt := 79) hx hb dX12_asked_62 (by decide) (fun c9 => ?_) (fun c9 => ?_)
    · have gc9 : ¬ ((I_57 6).toInt = 0) := fun q0 => c9 (Int32.toInt_inj.mp q0)
      exact lab_79 b0_57 I_57 J_57 R_57 L_57 _ _ _ hvI hvR hsI hsR (show ((-1 : Int) ≤ b0_57.toInt ∧ b0_57.toInt ≤ (11 : Int)) from by omega) (show (p1.toInt = 0 → b0_57.toInt ≤ 4) from by omega) (show (p1.toInt = 1 → b0_57.toInt ≤ 5) from by omega) (show ((I_57 6).toInt = 0 → 0 ≤ b0_57.toInt) from by omega) (show ((I_57 3).toInt ≤ (I_57 4).toInt) from by omega) (show ((I_57 4).toInt ≤ (I0 1).toInt) from by omega) (show ((¬ (I_57 2).toInt = 0) → (I_57 3).toInt < (I_57 4).toInt) from by omega) (show ((¬ (I0 6).toInt = 0) → (¬ (I_57 6).toInt = 0)) from by omega) (show ((I0 3).toInt ≤ (I_57 3).toInt) from by omega) hP hD hS (lv_sub hl [1, 0] rfl)
    · have gc9 : (I_57 6).toInt = 0 := congrArg Int32.toInt c9
      refine lv_iload_n hx hb dX12_asked_65 rfl (lv_at hl 0 rfl) ?_
      refine lv_iconst (v := (-1)) hx hb dX12_asked_66 (by decide) ?_
      refine lv_icmp_ne (tgt := 79) hx hb dX12_asked_67 (by decide) (fun c10 => ?_) (fun c10 => ?_)
      · have gc10 : ¬ (b0_57.toInt = (-1)) := fun q0 => c10 (Int32.toInt_inj.mp q0)
        exact lab_79 b0_57 I_57 J_57 R_57 L_57 _ _ _ hvI hvR hsI hsR (show ((-1 : Int) ≤ b0_57.toInt ∧ b0_57.toInt ≤ (11 : Int)) from by omega) (show (p1.toInt = 0 → b0_57.toInt ≤ 4) from by omega) (show (p1.toInt = 1 → b0_57.toInt ≤ 5) from by omega) (show ((I_57 6).toInt = 0 → 0 ≤ b0_57.toInt) from by omega) (show ((I_57 3).toInt ≤ (I_57 4).toInt) from by omega) (show ((I_57 4).toInt ≤ (I0 1).toInt) from by omega) (show ((¬ (I_57 2).toInt = 0) → (I_57 3).toInt < (I_57 4).toInt) from by omega) (show ((¬ (I0 6).toInt = 0) → (¬ (I_57 6).toInt = 0)) from by omega) (show ((I0 3).toInt ≤ (I_57 3).toInt) from by omega) hP hD hS (lv_sub hl [1, 0] rfl)
      · have gc10 : b0_57.toInt = (-1) := congrArg Int32.toInt c10
        refine lv_aload_n hx hb dX12_asked_70 rfl (lv_at hl 1 rfl) ?_
        refine lv_iconst (v := 3) hx hb dX12_asked_71 (by decide) ?_
        refine lv_aload_n hx hb dX12_asked_72 rfl (lv_at hl 1 rfl) ?_
        refine g_get F hK hP 0 (Wm_at0 G g q I_57 J_57 R_57 L_57) clX12 4 (by decide) flX12_23 rfl dX12_asked_73 ?_
        have w_I_57_3 := rg (hv_I_57 3 (by decide)) (0) (1800) rfl rfl
        refine wvv (As := [.int 3, .int (I_57 3)]) (rest := []) (b := (g 45)) (d := 1) F hK hP hD hS hA (s_X12_blame l G g q I_57 J_57 R_57 L_57 hvI hvR  3 ((I_57 3)) (by decide) (show ((0 : Int) ≤ (I_57 3).toInt ∧ (I_57 3).toInt ≤ (1800 : Int)) from by omega)) kmV_X12_blame mlX12_240 clX12 rfl 0 (Wm_at0 G g q I_57 J_57 R_57 L_57) ⟨(Nat.le_of_ble_eq_true rfl), (Nat.le_of_ble_eq_true rfl)⟩ hl.1 rfl (Nat.le_of_ble_eq_true rfl) dX12_asked_76 (fun u12 H locs hwr11 hP hD hS => ?_)
        obtain ⟨I13, J14, R15, L16⟩ := u12
        replace hP : va_P G.1 vwCl (Wm G g q I13 J14 R15 L16) H := hP
        replace hD : va_D A (Wm G g q I13 J14 R15 L16) := hD
        obtain ⟨hvI, hvR, tIr11, tRr11, F0r11⟩ := hwr11
        replace F0r11 : (¬ (I13 6).toInt = 0) := F0r11
        replace hvI : InvI Wm_lo Wm_hi I13 := hvI
        replace hvR : InvR Wm_rl R15 := hvR
        replace tIr11 : SmF ([6, 7] : List Nat) I_57 I13 := tIr11
        replace tRr11 : SmF ([] : List Nat) R_57 R15 := tRr11
        have hv_I13 := hvI
        have hsI := smF_tr hsI tIr11 (by decide)
        have hsR := smF_tr hsR tRr11 (by decide)
        have u_I13_1 : (I13 1).toInt = (I_57 1).toInt := congrArg Int32.toInt (tIr11 1 rfl)
        have u_I13_2 : (I13 2).toInt = (I_57 2).toInt := congrArg Int32.toInt (tIr11 2 rfl)
        have u_I13_3 : (I13 3).toInt = (I_57 3).toInt := congrArg Int32.toInt (tIr11 3 rfl)
        have u_I13_4 : (I13 4).toInt = (I_57 4).toInt := congrArg Int32.toInt (tIr11 4 rfl)
        have w_I13_6 := rg (hvI 6 (by decide)) (0) (5) rfl rfl
        have nr11_0 : ((I13 3).toInt ≤ (I13 4).toInt) := by omega
        have nr11_1 : ((I13 4).toInt ≤ (I0 1).toInt) := by omega
        have nr11_2 : ((¬ (I13 2).toInt = 0) → (I13 3).toInt < (I13 4).toInt) := by omega
        have nr11_3 : ((¬ (I0 6).toInt = 0) → (¬ (I13 6).toInt = 0)) := by omega
        have nr11_4 : ((I0 3).toInt ≤ (I13 3).toInt) := by omega
        clear z2_57 z3_57 z4_57 z5_57 z6_57
        exact lab_79 b0_57 I13 J14 R15 L16 _ _ _ hvI hvR hsI hsR (show ((-1 : Int) ≤ b0_57.toInt ∧ b0_57.toInt ≤ (11 : Int)) from by omega) (show (p1.toInt = 0 → b0_57.toInt ≤ 4) from by omega) (show (p1.toInt = 1 → b0_57.toInt ≤ 5) from by omega) (show ((I13 6).toInt = 0 → 0 ≤ b0_57.toInt) from by omega) (show ((I13 3).toInt ≤ (I13 4).toInt) from by omega) (show ((I13 4).toInt ≤ (I0 1).toInt) from by omega) (show ((¬ (I13 2).toInt = 0) → (I13 3).toInt < (I13 4).toInt) from by omega) (show ((¬ (I0 6).toInt = 0) → (¬ (I13 6).toInt = 0)) from by omega) (show ((I0 3).toInt ≤ (I13 3).toInt) from by omega) hP hD hS (lv_sub hl [1, 0] rfl)
  have lab_37 : ∀  (I_37 : Nat → Int32) (J_37 : Nat → Int64) (R_37 : Nat → Nat → Int32) (L_37 : Nat → Nat → Int64) (H : Heap) (locs : List Loc) (ls : Array Slot), InvI Wm_lo Wm_hi I_37 → InvR Wm_rl R_37 → SmF ([2, 3, 4, 5, 6, 7] : List Nat) I0 I_37 → SmF ([] : List Nat) R0 R_37 → ((I_37 3).toInt ≤ (I_37 4).toInt) → ((I_37 4).toInt ≤ (I0 1).toInt) → ((¬ (I_37 2).toInt = 0) → (I_37 3).toInt < (I_37 4).toInt) → ((¬ (I0 6).toInt = 0) → (¬ (I_37 6).toInt = 0)) → ((I0 3).toInt ≤ (I_37 3).toInt) → va_P G.1 vwCl (Wm G g q I_37 J_37 R_37 L_37) H → va_D A (Wm G g q I_37 J_37 R_37 L_37) → va_S A s.heap H locs → lv_has ls 3 [(0, .ref (g 45)), (1, .int p1)] → W p l e (rmD 3 0 0) s m [.ref (g 45), .int p1].toArray below meth c H locs 0 0 Q (F0 m 37 ls []) := by
    intro I_37 J_37 R_37 L_37 H locs ls hvI hvR hsI hsR z0_37 z1_37 z2_37 z3_37 z4_37 hP hD hS hl
    have hv_I_37 := hvI
    have w_I_37_1 := rg (hvI 1 (by decide)) (0) (1800) rfl rfl
    have v_I_37_1 : (I_37 1).toInt = (I0 1).toInt := congrArg Int32.toInt (hsI 1 rfl)
    have w_I_37_2 := rg (hvI 2 (by decide)) (0) (3) rfl rfl
    have w_I_37_3 := rg (hvI 3 (by decide)) (0) (1800) rfl rfl
    have w_I_37_4 := rg (hvI 4 (by decide)) (0) (1800) rfl rfl
    have w_I_37_6 := rg (hvI 6 (by decide)) (0) (5) rfl rfl
    refine lv_aload_n hx hb dX12_asked_37 rfl (lv_at hl 0 rfl) ?_
    refine g_get F hK hP 0 (Wm_at0 G g q I_37 J_37 R_37 L_37) clX12 8 (by decide) flX12_36 rfl dX12_asked_38 ?_
    have w_I_37_6 := rg (hv_I_37 6 (by decide)) (0) (5) rfl rfl
    refine lv_if_le (tgt := 48) hx hb dX12_asked_41 (by decide) (fun c17 => ?_) (fun c17 => ?_)
    · have gc17 : (I_37 6).toInt ≤ 0 := (tle _ _).mp c17
      refine lv_aload_n hx hb dX12_asked_48 rfl (lv_at hl 0 rfl) ?_
      refine lv_iload_n hx hb dX12_asked_49 rfl (lv_at hl 1 rfl) ?_
      refine lv_aload_n hx hb dX12_asked_50 rfl (lv_at hl 0 rfl) ?_
      refine g_get F hK hP 0 (Wm_at0 G g q I_37 J_37 R_37 L_37) clX12 7 (by decide) flX12_32 rfl dX12_asked_51 ?_
      refine wvi (As := [.int p1, .long (J_37 0)]) (rest := []) (b := (g 45)) (d := 1) F hK hP hD hS hA (s_X12_named l G g q I_37 J_37 R_37 L_37 hvI hvR  p1 ((J_37 0)) (show ((0 : Int) ≤ p1.toInt ∧ p1.toInt ≤ (2 : Int)) from by omega)) kmV_X12_named mlX12_354 clX12 rfl 0 (Wm_at0 G g q I_37 J_37 R_37 L_37) ⟨(Nat.le_of_ble_eq_true rfl), (Nat.le_of_ble_eq_true rfl)⟩ hl.1 rfl (Nat.le_of_ble_eq_true rfl) dX12_asked_54 (fun r18 u19 H locs hwr18 hP hD hS => ?_)
      obtain ⟨F0r18, F1r18, F2r18⟩ := hwr18
      replace F0r18 : ((-1 : Int) ≤ r18.toInt ∧ r18.toInt ≤ (11 : Int)) := F0r18
      replace F1r18 : (p1.toInt = 0 → r18.toInt ≤ 4) := F1r18
      replace F2r18 : (p1.toInt = 1 → r18.toInt ≤ 5) := F2r18
      exact lab_57 r18 I_37 J_37 R_37 L_37 _ _ _ hvI hvR hsI hsR (show ((-1 : Int) ≤ r18.toInt ∧ r18.toInt ≤ (11 : Int)) from by omega) (show (p1.toInt = 0 → r18.toInt ≤ 4) from by omega) (show (p1.toInt = 1 → r18.toInt ≤ 5) from by omega) (show ((I_37 3).toInt ≤ (I_37 4).toInt) from by omega) (show ((I_37 4).toInt ≤ (I0 1).toInt) from by omega) (show ((¬ (I_37 2).toInt = 0) → (I_37 3).toInt < (I_37 4).toInt) from by omega) (show ((¬ (I0 6).toInt = 0) → (¬ (I_37 6).toInt = 0)) from by omega) (show ((I0 3).toInt ≤ (I_37 3).toInt) from by omega) hP hD hS (lv_sub hl [0] rfl)
    · have gc17 : ¬ ((I_37 6).toInt ≤ 0) := fun q0 => c17 ((tle _ _).mpr q0)
      refine lv_iconst (v := 0) hx hb dX12_asked_44 (by decide) ?_
      refine lv_goto (tgt := 57) hx hb dX12_asked_45 (by decide) ?_
      exact lab_57 0 I_37 J_37 R_37 L_37 _ _ _ hvI hvR hsI hsR (by decide) (show (p1.toInt = 0 → 0 ≤ 4) from by omega) (show (p1.toInt = 1 → 0 ≤ 5) from by omega) (show ((I_37 3).toInt ≤ (I_37 4).toInt) from by omega) (show ((I_37 4).toInt ≤ (I0 1).toInt) from by omega) (show ((¬ (I_37 2).toInt = 0) → (I_37 3).toInt < (I_37 4).toInt) from by omega) (show ((¬ (I0 6).toInt = 0) → (¬ (I_37 6).toInt = 0)) from by omega) (show ((I0 3).toInt ≤ (I_37 3).toInt) from by omega) hP hD hS (lv_sub hl [0] rfl)
  have lab_28 : ∀  (I_28 : Nat → Int32) (J_28 : Nat → Int64) (R_28 : Nat → Nat → Int32) (L_28 : Nat → Nat → Int64) (H : Heap) (locs : List Loc) (ls : Array Slot), InvI Wm_lo Wm_hi I_28 → InvR Wm_rl R_28 → SmF ([2, 3, 4, 5, 6, 7] : List Nat) I0 I_28 → SmF ([] : List Nat) R0 R_28 → ((I_28 3).toInt ≤ (I_28 4).toInt) → ((I_28 4).toInt ≤ (I0 1).toInt) → ((¬ (I_28 2).toInt = 0) → (I_28 3).toInt < (I_28 4).toInt) → ((¬ (I0 6).toInt = 0) → (¬ (I_28 6).toInt = 0)) → ((I0 3).toInt ≤ (I_28 3).toInt) → va_P G.1 vwCl (Wm G g q I_28 J_28 R_28 L_28) H → va_D A (Wm G g q I_28 J_28 R_28 L_28) → va_S A s.heap H locs → lv_has ls 3 [(0, .ref (g 45)), (1, .int p1)] → W p l e (rmD 3 0 0) s m [.ref (g 45), .int p1].toArray below meth c H locs 0 0 Q (F0 m 28 ls []) := by
    intro I_28 J_28 R_28 L_28 H locs ls hvI hvR hsI hsR z0_28 z1_28 z2_28 z3_28 z4_28 hP hD hS hl
    have hv_I_28 := hvI
    have w_I_28_1 := rg (hvI 1 (by decide)) (0) (1800) rfl rfl
    have v_I_28_1 : (I_28 1).toInt = (I0 1).toInt := congrArg Int32.toInt (hsI 1 rfl)
    have w_I_28_2 := rg (hvI 2 (by decide)) (0) (3) rfl rfl
    have w_I_28_3 := rg (hvI 3 (by decide)) (0) (1800) rfl rfl
    have w_I_28_4 := rg (hvI 4 (by decide)) (0) (1800) rfl rfl
    have w_I_28_6 := rg (hvI 6 (by decide)) (0) (5) rfl rfl
    refine lv_aload_n hx hb dX12_asked_28 rfl (lv_at hl 0 rfl) ?_
    refine lv_iconst (v := 1) hx hb dX12_asked_29 (by decide) ?_
    refine lv_aload_n hx hb dX12_asked_30 rfl (lv_at hl 0 rfl) ?_
    refine g_get F hK hP 0 (Wm_at0 G g q I_28 J_28 R_28 L_28) clX12 4 (by decide) flX12_23 rfl dX12_asked_31 ?_
    have w_I_28_3 := rg (hv_I_28 3 (by decide)) (0) (1800) rfl rfl
    refine wvv (As := [.int 1, .int (I_28 3)]) (rest := []) (b := (g 45)) (d := 1) F hK hP hD hS hA (s_X12_blame l G g q I_28 J_28 R_28 L_28 hvI hvR  1 ((I_28 3)) (by decide) (show ((0 : Int) ≤ (I_28 3).toInt ∧ (I_28 3).toInt ≤ (1800 : Int)) from by omega)) kmV_X12_blame mlX12_240 clX12 rfl 0 (Wm_at0 G g q I_28 J_28 R_28 L_28) ⟨(Nat.le_of_ble_eq_true rfl), (Nat.le_of_ble_eq_true rfl)⟩ hl.1 rfl (Nat.le_of_ble_eq_true rfl) dX12_asked_34 (fun u21 H locs hwr20 hP hD hS => ?_)
    obtain ⟨I22, J23, R24, L25⟩ := u21
    replace hP : va_P G.1 vwCl (Wm G g q I22 J23 R24 L25) H := hP
    replace hD : va_D A (Wm G g q I22 J23 R24 L25) := hD
    obtain ⟨hvI, hvR, tIr20, tRr20, F0r20⟩ := hwr20
    replace F0r20 : (¬ (I22 6).toInt = 0) := F0r20
    replace hvI : InvI Wm_lo Wm_hi I22 := hvI
    replace hvR : InvR Wm_rl R24 := hvR
    replace tIr20 : SmF ([6, 7] : List Nat) I_28 I22 := tIr20
    replace tRr20 : SmF ([] : List Nat) R_28 R24 := tRr20
    have hv_I22 := hvI
    have hsI := smF_tr hsI tIr20 (by decide)
    have hsR := smF_tr hsR tRr20 (by decide)
    have u_I22_1 : (I22 1).toInt = (I_28 1).toInt := congrArg Int32.toInt (tIr20 1 rfl)
    have u_I22_2 : (I22 2).toInt = (I_28 2).toInt := congrArg Int32.toInt (tIr20 2 rfl)
    have u_I22_3 : (I22 3).toInt = (I_28 3).toInt := congrArg Int32.toInt (tIr20 3 rfl)
    have u_I22_4 : (I22 4).toInt = (I_28 4).toInt := congrArg Int32.toInt (tIr20 4 rfl)
    have w_I22_6 := rg (hvI 6 (by decide)) (0) (5) rfl rfl
    have nr20_0 : ((I22 3).toInt ≤ (I22 4).toInt) := by omega
    have nr20_1 : ((I22 4).toInt ≤ (I0 1).toInt) := by omega
    have nr20_2 : ((¬ (I22 2).toInt = 0) → (I22 3).toInt < (I22 4).toInt) := by omega
    have nr20_3 : ((¬ (I0 6).toInt = 0) → (¬ (I22 6).toInt = 0)) := by omega
    have nr20_4 : ((I0 3).toInt ≤ (I22 3).toInt) := by omega
    clear z0_28 z1_28 z2_28 z3_28 z4_28
    exact lab_37  I22 J23 R24 L25 _ _ _ hvI hvR hsI hsR (show ((I22 3).toInt ≤ (I22 4).toInt) from by omega) (show ((I22 4).toInt ≤ (I0 1).toInt) from by omega) (show ((¬ (I22 2).toInt = 0) → (I22 3).toInt < (I22 4).toInt) from by omega) (show ((¬ (I0 6).toInt = 0) → (¬ (I22 6).toInt = 0)) from by omega) (show ((I0 3).toInt ≤ (I22 3).toInt) from by omega) hP hD hS (lv_sub hl [0, 1] rfl)
  have w_I0_1 := rg (hvI 1 (by decide)) (0) (1800) rfl rfl
  have w_I0_2 := rg (hvI 2 (by decide)) (0) (3) rfl rfl
  have w_I0_3 := rg (hvI 3 (by decide)) (0) (1800) rfl rfl
  have w_I0_4 := rg (hvI 4 (by decide)) (0) (1800) rfl rfl
  have w_I0_6 := rg (hvI 6 (by decide)) (0) (5) rfl rfl
  refine lv_aload_n hx hb dX12_asked_0 rfl (lv_at hl 0 rfl) ?_
  refine g_get F hK hP 0 (Wm_at0 G g q I0 J0 R0 L0) clX12 8 (by decide) flX12_36 rfl dX12_asked_1 ?_
  have w_I0_6 := rg (hvI0 6 (by decide)) (0) (5) rfl rfl
  refine lv_if_le (tgt := 9) hx hb dX12_asked_4 (by decide) (fun c26 => ?_) (fun c26 => ?_)
  · have gc26 : (I0 6).toInt ≤ 0 := (tle _ _).mp c26
    refine lv_aload_n hx hb dX12_asked_9 rfl (lv_at hl 0 rfl) ?_
    refine g_get F hK hP 0 (Wm_at0 G g q I0 J0 R0 L0) clX12 3 (by decide) flX12_20 rfl dX12_asked_10 ?_
    have w_I0_2 := rg (hvI0 2 (by decide)) (0) (3) rfl rfl
    refine lv_iconst (v := 1) hx hb dX12_asked_13 (by decide) ?_
    refine lv_icmp_ne (tgt := 28) hx hb dX12_asked_14 (by decide) (fun c27 => ?_) (fun c27 => ?_)
    · have gc27 : ¬ ((I0 2).toInt = 1) := fun q0 => c27 (Int32.toInt_inj.mp q0)
      exact lab_28  I0 J0 R0 L0 _ _ _ hvI hvR hsI hsR (show ((I0 3).toInt ≤ (I0 4).toInt) from by omega) (show ((I0 4).toInt ≤ (I0 1).toInt) from by omega) (show ((¬ (I0 2).toInt = 0) → (I0 3).toInt < (I0 4).toInt) from by omega) (show ((¬ (I0 6).toInt = 0) → (¬ (I0 6).toInt = 0)) from by omega) (show ((I0 3).toInt ≤ (I0 3).toInt) from by omega) hP hD hS (lv_sub hl [0, 1] rfl)
    · have gc27 : (I0 2).toInt = 1 := congrArg Int32.toInt c27
      refine lv_aload_n hx hb dX12_asked_17 rfl (lv_at hl 0 rfl) ?_
      refine lv_aload_n hx hb dX12_asked_18 rfl (lv_at hl 0 rfl) ?_
      refine g_get F hK hP 0 (Wm_at0 G g q I0 J0 R0 L0) clX12 7 (by decide) flX12_32 rfl dX12_asked_19 ?_
      refine wvi (As := [.long (J0 0)]) (rest := []) (b := (g 45)) (d := 1) F hK hP hD hS hA (s_X12_isOwn l G g q I0 J0 R0 L0 hvI hvR  ((J0 0)) ) kmV_X12_isOwn mlX12_351 clX12 rfl 0 (Wm_at0 G g q I0 J0 R0 L0) ⟨(Nat.le_of_ble_eq_true rfl), (Nat.le_of_ble_eq_true rfl)⟩ hl.1 rfl (Nat.le_of_ble_eq_true rfl) dX12_asked_22 (fun r28 u29 H locs hwr28 hP hD hS => ?_)
      have F0r28 := hwr28
      replace F0r28 : ((0 : Int) ≤ r28.toInt ∧ r28.toInt ≤ (1 : Int)) := F0r28
      refine lv_if_eq (tgt := 37) hx hb dX12_asked_25 (by decide) (fun c30 => ?_) (fun c30 => ?_)
      · have gc30 : r28.toInt = 0 := congrArg Int32.toInt c30
        exact lab_37  I0 J0 R0 L0 _ _ _ hvI hvR hsI hsR (show ((I0 3).toInt ≤ (I0 4).toInt) from by omega) (show ((I0 4).toInt ≤ (I0 1).toInt) from by omega) (show ((¬ (I0 2).toInt = 0) → (I0 3).toInt < (I0 4).toInt) from by omega) (show ((¬ (I0 6).toInt = 0) → (¬ (I0 6).toInt = 0)) from by omega) (show ((I0 3).toInt ≤ (I0 3).toInt) from by omega) hP hD hS (lv_sub hl [0, 1] rfl)
      · have gc30 : ¬ (r28.toInt = 0) := fun q0 => c30 (Int32.toInt_inj.mp q0)
        exact lab_28  I0 J0 R0 L0 _ _ _ hvI hvR hsI hsR (show ((I0 3).toInt ≤ (I0 4).toInt) from by omega) (show ((I0 4).toInt ≤ (I0 1).toInt) from by omega) (show ((¬ (I0 2).toInt = 0) → (I0 3).toInt < (I0 4).toInt) from by omega) (show ((¬ (I0 6).toInt = 0) → (¬ (I0 6).toInt = 0)) from by omega) (show ((I0 3).toInt ≤ (I0 3).toInt) from by omega) hP hD hS (lv_sub hl [0, 1] rfl)
  · have gc26 : ¬ ((I0 6).toInt ≤ 0) := fun q0 => c26 ((tle _ _).mpr q0)
    refine lv_iconst (v := 0) hx hb dX12_asked_7 (by decide) ?_
    rw [hQ]
    exact q_i F hr hlk (I0, J0, R0, L0) hP hD hS ⟨hvI, hvR, hsI, hsR, (show ((0 : Int) ≤ 0 ∧ 0 ≤ (11 : Int)) from by omega), (show (p1.toInt = 0 → 0 ≤ 4) from by omega), (show (p1.toInt = 1 → 0 ≤ 5) from by omega), (show ((I0 3).toInt ≤ (I0 4).toInt) from by omega), (show ((I0 4).toInt ≤ (I0 1).toInt) from by omega), (show ((¬ (I0 2).toInt = 0) → (I0 3).toInt < (I0 4).toInt) from by omega), (show ((¬ (I0 6).toInt = 0) → (¬ (I0 6).toInt = 0)) from by omega), (show ((I0 3).toInt ≤ (I0 3).toInt) from by omega)⟩ dX12_asked_8 (Nat.le_of_ble_eq_true rfl) (Nat.le_of_ble_eq_true rfl)
