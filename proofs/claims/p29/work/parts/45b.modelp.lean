set_option maxHeartbeats 4000000 in
set_option maxRecDepth 100000 in
theorem s_X12_asked (l : Launch) (G : Gx) (g q : Nat → Nat) (I0 : Nat → Int32) (J0 : Nat → Int64) (R0 : Nat → Nat → Int32) (L0 : Nat → Nat → Int64) (hvI : InvI Wm_lo Wm_hi I0) (hvR : InvR Wm_rl R0)  (p1 : Int32) (hp1 : ((0 : Int) ≤ p1.toInt ∧ p1.toInt ≤ (2 : Int))) (hpre0 : ((I0 3).toInt ≤ (I0 4).toInt)) (hpre1 : ((I0 4).toInt ≤ (I0 1).toInt)) (hpre2 : ((¬ (I0 2).toInt = 0) → (I0 3).toInt < (I0 4).toInt)) : CtI (S := St) l yX12_asked cX12_asked 3 (some .int) (rmD 3 0 0) G [.ref (g 45), .int p1] (Wm G g q I0 J0 R0 L0) (fun r u => InvI Wm_lo Wm_hi u.1 ∧ InvR Wm_rl u.2.2.1 ∧ SmF ([2, 3, 4, 5, 6, 7] : List Nat) I0 u.1 ∧ SmF ([] : List Nat) R0 u.2.2.1 ∧ ((0 : Int) ≤ r.toInt ∧ r.toInt ≤ (11 : Int)) ∧ (p1.toInt = 0 → r.toInt ≤ 4) ∧ (p1.toInt = 1 → r.toInt ≤ 5) ∧ ((u.1 3).toInt ≤ (u.1 4).toInt) ∧ ((u.1 4).toInt ≤ (I0 1).toInt) ∧ ((¬ (u.1 2).toInt = 0) → (u.1 3).toInt < (u.1 4).toInt) ∧ ((¬ (I0 6).toInt = 0) → (¬ (u.1 6).toInt = 0)) ∧ ((I0 3).toInt ≤ (u.1 3).toInt)) (fun u => Wm G g q u.1 u.2.1 u.2.2.1 u.2.2.2) := by
  refine ctI_of (own := RX12) (by decide +kernel) rfl (Nat.le_of_ble_eq_true rfl) ?_
  intro p e s m below meth c A ls F hr hlk hnm hK hP hD hA hS hl
  have hx := F.1
  have hb := F.2.1
  have hown := F.2.2.2.1
  have hl : lv_has ls 3 [(0, .ref (g 45)), (1, .int p1)] := hl
  obtain ⟨Q, hQ⟩ : ∃ Q : State → Prop, Q = MQ below (va_Qi (S := St) (fun r u => InvI Wm_lo Wm_hi u.1 ∧ InvR Wm_rl u.2.2.1 ∧ SmF ([2, 3, 4, 5, 6, 7] : List Nat) I0 u.1 ∧ SmF ([] : List Nat) R0 u.2.2.1 ∧ ((0 : Int) ≤ r.toInt ∧ r.toInt ≤ (11 : Int)) ∧ (p1.toInt = 0 → r.toInt ≤ 4) ∧ (p1.toInt = 1 → r.toInt ≤ 5) ∧ ((u.1 3).toInt ≤ (u.1 4).toInt) ∧ ((u.1 4).toInt ≤ (I0 1).toInt) ∧ ((¬ (u.1 2).toInt = 0) → (u.1 3).toInt < (u.1 4).toInt) ∧ ((¬ (I0 6).toInt = 0) → (¬ (u.1 6).toInt = 0)) ∧ ((I0 3).toInt ≤ (u.1 3).toInt)) (BX G A (fun u => Wm G g q u.1 u.2.1 u.2.2.1 u.2.2.2)) A) [.ref (g 45), .int p1].toArray s 0 0 A := ⟨_, rfl⟩
  rw [show (MQ below (va_Qi (S := St) (fun r u => InvI Wm_lo Wm_hi u.1 ∧ InvR Wm_rl u.2.2.1 ∧ SmF ([2, 3, 4, 5, 6, 7] : List Nat) I0 u.1 ∧ SmF ([] : List Nat) R0 u.2.2.1 ∧ ((0 : Int) ≤ r.toInt ∧ r.toInt ≤ (11 : Int)) ∧ (p1.toInt = 0 → r.toInt ≤ 4) ∧ (p1.toInt = 1 → r.toInt ≤ 5) ∧ ((u.1 3).toInt ≤ (u.1 4).toInt) ∧ ((u.1 4).toInt ≤ (I0 1).toInt) ∧ ((¬ (u.1 2).toInt = 0) → (u.1 3).toInt < (u.1 4).toInt) ∧ ((¬ (I0 6).toInt = 0) → (¬ (u.1 6).toInt = 0)) ∧ ((I0 3).toInt ≤ (u.1 3).toInt)) (BX G A (fun u => Wm G g q u.1 u.2.1 u.2.2.1 u.2.2.2)) A) [.ref (g 45), .int p1].toArray s (rmD 3 0 0).cells (rmD 3 0 0).slots A) = Q from hQ.symm]
  have hsI := smF_rf ([2, 3, 4, 5, 6, 7] : List Nat) I0
  have hsR := smF_rf ([] : List Nat) R0
  have hvI0 := hvI
  have lab_90 : ∀ (a2_90 : Int32) (I_90 : Nat → Int32) (J_90 : Nat → Int64) (R_90 : Nat → Nat → Int32) (L_90 : Nat → Nat → Int64) (H : Heap) (locs : List Loc) (ls : Array Slot), InvI Wm_lo Wm_hi I_90 → InvR Wm_rl R_90 → SmF ([2, 3, 4, 5, 6, 7] : List Nat) I0 I_90 → SmF ([] : List Nat) R0 R_90 → ((-1 : Int) ≤ a2_90.toInt ∧ a2_90.toInt ≤ (11 : Int)) → (p1.toInt = 0 → a2_90.toInt ≤ 4) → (p1.toInt = 1 → a2_90.toInt ≤ 5) → ((I_90 6).toInt = 0 → 0 ≤ a2_90.toInt) → ((I_90 3).toInt ≤ (I_90 4).toInt) → ((I_90 4).toInt ≤ (I0 1).toInt) → ((¬ (I_90 2).toInt = 0) → (I_90 3).toInt < (I_90 4).toInt) → ((¬ (I0 6).toInt = 0) → (¬ (I_90 6).toInt = 0)) → ((I0 3).toInt ≤ (I_90 3).toInt) → va_P G.1 vwCl (Wm G g q I_90 J_90 R_90 L_90) H → va_D A (Wm G g q I_90 J_90 R_90 L_90) → va_S A s.heap H locs → lv_has ls 3 [(0, .ref (g 45)), (2, .int a2_90)] → W p l e (rmD 3 0 0) s m [.ref (g 45), .int p1].toArray below meth c H locs 0 0 Q (F0 m 90 ls []) := by
    intro a2_90 I_90 J_90 R_90 L_90 H locs ls hvI hvR hsI hsR y0_90 z0_90 z1_90 z2_90 z3_90 z4_90 z5_90 z6_90 z7_90 hP hD hS hl
    have hv_I_90 := hvI
    have w_I_90_1 := rg (hvI 1 (by decide)) (0) (1800) rfl rfl
    have v_I_90_1 : (I_90 1).toInt = (I0 1).toInt := congrArg Int32.toInt (hsI 1 rfl)
    have w_I_90_2 := rg (hvI 2 (by decide)) (0) (3) rfl rfl
    have w_I_90_3 := rg (hvI 3 (by decide)) (0) (1800) rfl rfl
    have w_I_90_4 := rg (hvI 4 (by decide)) (0) (1800) rfl rfl
    have w_I_90_6 := rg (hvI 6 (by decide)) (0) (5) rfl rfl
    refine lv_aload_n hx hb dX12_asked_90 rfl (lv_at hl 0 rfl) ?_
    refine g_get F hK hP 0 (Wm_at0 G g q I_90 J_90 R_90 L_90) clX12 8 (by decide) flX12_36 rfl dX12_asked_91 ?_
    have w_I_90_6 := rg (hv_I_90 6 (by decide)) (0) (5) rfl rfl
    refine lv_if_le (tgt := 101) hx hb dX12_asked_94 (by decide) (fun c1 => ?_) (fun c1 => ?_)
    · have gc1 : (I_90 6).toInt ≤ 0 := (tle _ _).mp c1
      refine lv_iload_n hx hb dX12_asked_101 rfl (lv_at hl 1 rfl) ?_
      rw [hQ]
      exact q_i F hr hlk (I_90, J_90, R_90, L_90) hP hD hS ⟨hvI, hvR, hsI, hsR, (show ((0 : Int) ≤ a2_90.toInt ∧ a2_90.toInt ≤ (11 : Int)) from by omega), (show (p1.toInt = 0 → a2_90.toInt ≤ 4) from by omega), (show (p1.toInt = 1 → a2_90.toInt ≤ 5) from by omega), (show ((I_90 3).toInt ≤ (I_90 4).toInt) from by omega), (show ((I_90 4).toInt ≤ (I0 1).toInt) from by omega), (show ((¬ (I_90 2).toInt = 0) → (I_90 3).toInt < (I_90 4).toInt) from by omega), (show ((¬ (I0 6).toInt = 0) → (¬ (I_90 6).toInt = 0)) from by omega), (show ((I0 3).toInt ≤ (I_90 3).toInt) from by omega)⟩ dX12_asked_102 (Nat.le_of_ble_eq_true rfl) (Nat.le_of_ble_eq_true rfl)
    · have gc1 : ¬ ((I_90 6).toInt ≤ 0) := fun q0 => c1 ((tle _ _).mpr q0)
      refine lv_iconst (v := 0) hx hb dX12_asked_97 (by decide) ?_
      refine lv_goto (tgt := 102) hx hb dX12_asked_98 (by decide) ?_
      rw [hQ]
      exact q_i F hr hlk (I_90, J_90, R_90, L_90) hP hD hS ⟨hvI, hvR, hsI, hsR, (show ((0 : Int) ≤ 0 ∧ 0 ≤ (11 : Int)) from by omega), (show (p1.toInt = 0 → 0 ≤ 4) from by omega), (show (p1.toInt = 1 → 0 ≤ 5) from by omega), (show ((I_90 3).toInt ≤ (I_90 4).toInt) from by omega), (show ((I_90 4).toInt ≤ (I0 1).toInt) from by omega), (show ((¬ (I_90 2).toInt = 0) → (I_90 3).toInt < (I_90 4).toInt) from by omega), (show ((¬ (I0 6).toInt = 0) → (¬ (I_90 6).toInt = 0)) from by omega), (show ((I0 3).toInt ≤ (I_90 3).toInt) from by omega)⟩ dX12_asked_102 (Nat.le_of_ble_eq_true rfl) (Nat.le_of_ble_eq_true rfl)
  have lab_79 : ∀ (a2_79 : Int32) (I_79 : Nat → Int32) (J_79 : Nat → Int64) (R_79 : Nat → Nat → Int32) (L_79 : Nat → Nat → Int64) (H : Heap) (locs : List Loc) (ls : Array Slot), InvI Wm_lo Wm_hi I_79 → InvR Wm_rl R_79 → SmF ([2, 3, 4, 5, 6, 7] : List Nat) I0 I_79 → SmF ([] : List Nat) R0 R_79 → ((-1 : Int) ≤ a2_79.toInt ∧ a2_79.toInt ≤ (11 : Int)) → (p1.toInt = 0 → a2_79.toInt ≤ 4) → (p1.toInt = 1 → a2_79.toInt ≤ 5) → ((I_79 6).toInt = 0 → 0 ≤ a2_79.toInt) → ((I_79 3).toInt ≤ (I_79 4).toInt) → ((I_79 4).toInt ≤ (I0 1).toInt) → ((¬ (I_79 2).toInt = 0) → (I_79 3).toInt < (I_79 4).toInt) → ((¬ (I0 6).toInt = 0) → (¬ (I_79 6).toInt = 0)) → ((I0 3).toInt ≤ (I_79 3).toInt) → va_P G.1 vwCl (Wm G g q I_79 J_79 R_79 L_79) H → va_D A (Wm G g q I_79 J_79 R_79 L_79) → va_S A s.heap H locs → lv_has ls 3 [(0, .ref (g 45)), (2, .int a2_79)] → W p l e (rmD 3 0 0) s m [.ref (g 45), .int p1].toArray below meth c H locs 0 0 Q (F0 m 79 ls []) := by
    intro a2_79 I_79 J_79 R_79 L_79 H locs ls hvI hvR hsI hsR y0_79 z0_79 z1_79 z2_79 z3_79 z4_79 z5_79 z6_79 z7_79 hP hD hS hl
    have hv_I_79 := hvI
    have w_I_79_1 := rg (hvI 1 (by decide)) (0) (1800) rfl rfl
    have v_I_79_1 : (I_79 1).toInt = (I0 1).toInt := congrArg Int32.toInt (hsI 1 rfl)
    have w_I_79_2 := rg (hvI 2 (by decide)) (0) (3) rfl rfl
    have w_I_79_3 := rg (hvI 3 (by decide)) (0) (1800) rfl rfl
    have w_I_79_4 := rg (hvI 4 (by decide)) (0) (1800) rfl rfl
    have w_I_79_6 := rg (hvI 6 (by decide)) (0) (5) rfl rfl
    refine lv_aload_n hx hb dX12_asked_79 rfl (lv_at hl 0 rfl) ?_
    refine g_get F hK hP 0 (Wm_at0 G g q I_79 J_79 R_79 L_79) clX12 8 (by decide) flX12_36 rfl dX12_asked_80 ?_
    have w_I_79_6 := rg (hv_I_79 6 (by decide)) (0) (5) rfl rfl
    refine lv_if_ne (tgt := 90) hx hb dX12_asked_83 (by decide) (fun c2 => ?_) (fun c2 => ?_)
    · have gc2 : ¬ ((I_79 6).toInt = 0) := fun q0 => c2 (Int32.toInt_inj.mp q0)
      exact lab_90 a2_79 I_79 J_79 R_79 L_79 _ _ _ hvI hvR hsI hsR (show ((-1 : Int) ≤ a2_79.toInt ∧ a2_79.toInt ≤ (11 : Int)) from by omega) (show (p1.toInt = 0 → a2_79.toInt ≤ 4) from by omega) (show (p1.toInt = 1 → a2_79.toInt ≤ 5) from by omega) (show ((I_79 6).toInt = 0 → 0 ≤ a2_79.toInt) from by omega) (show ((I_79 3).toInt ≤ (I_79 4).toInt) from by omega) (show ((I_79 4).toInt ≤ (I0 1).toInt) from by omega) (show ((¬ (I_79 2).toInt = 0) → (I_79 3).toInt < (I_79 4).toInt) from by omega) (show ((¬ (I0 6).toInt = 0) → (¬ (I_79 6).toInt = 0)) from by omega) (show ((I0 3).toInt ≤ (I_79 3).toInt) from by omega) hP hD hS (lv_sub hl [0, 1] rfl)
    · have gc2 : (I_79 6).toInt = 0 := congrArg Int32.toInt c2
      refine lv_aload_n hx hb dX12_asked_86 rfl (lv_at hl 0 rfl) ?_
      refine wvv (As := []) (rest := []) (b := (g 45)) (d := 2) F hK hP hD hS hA (s_X12_ahead l G g q I_79 J_79 R_79 L_79 hvI hvR   (by omega) (by omega) (by omega)) kmV_X12_ahead mlX12_247 clX12 rfl 0 (Wm_at0 G g q I_79 J_79 R_79 L_79) ⟨(Nat.le_of_ble_eq_true rfl), (Nat.le_of_ble_eq_true rfl)⟩ hl.1 rfl (Nat.le_of_ble_eq_true rfl) dX12_asked_87 (fun u4 H locs hwr3 hP hD hS => ?_)
      obtain ⟨I5, J6, R7, L8⟩ := u4
      replace hP : va_P G.1 vwCl (Wm G g q I5 J6 R7 L8) H := hP
      replace hD : va_D A (Wm G g q I5 J6 R7 L8) := hD
      obtain ⟨hvI, hvR, tIr3, tRr3, F0r3, F1r3, F2r3, F3r3, F4r3, F5r3⟩ := hwr3
      replace F0r3 : ((I_79 4).toInt ≤ (I5 3).toInt) := F0r3
      replace F1r3 : ((I5 3).toInt ≤ (I5 4).toInt) := F1r3
      replace F2r3 : ((I5 4).toInt ≤ (I_79 1).toInt) := F2r3
      replace F3r3 : ((¬ (I5 2).toInt = 0) → (I5 3).toInt < (I5 4).toInt) := F3r3
      replace F4r3 : ((¬ (I_79 6).toInt = 0) → (¬ (I5 6).toInt = 0)) := F4r3
      replace F5r3 : ((I_79 3).toInt ≤ (I5 3).toInt) := F5r3
      replace hvI : InvI Wm_lo Wm_hi I5 := hvI
      replace hvR : InvR Wm_rl R7 := hvR
      replace tIr3 : SmF ([2, 3, 4, 5, 6, 7] : List Nat) I_79 I5 := tIr3
      replace tRr3 : SmF ([] : List Nat) R_79 R7 := tRr3
      have hv_I5 := hvI
      have hsI := smF_tr hsI tIr3 (by decide)
      have hsR := smF_tr hsR tRr3 (by decide)
      have u_I5_1 : (I5 1).toInt = (I_79 1).toInt := congrArg Int32.toInt (tIr3 1 rfl)
      have w_I5_2 := rg (hvI 2 (by decide)) (0) (3) rfl rfl
      have w_I5_3 := rg (hvI 3 (by decide)) (0) (1800) rfl rfl
      have w_I5_4 := rg (hvI 4 (by decide)) (0) (1800) rfl rfl
      have w_I5_6 := rg (hvI 6 (by decide)) (0) (5) rfl rfl
      exact lab_90 a2_79 I5 J6 R7 L8 _ _ _ hvI hvR hsI hsR (show ((-1 : Int) ≤ a2_79.toInt ∧ a2_79.toInt ≤ (11 : Int)) from by omega) (show (p1.toInt = 0 → a2_79.toInt ≤ 4) from by omega) (show (p1.toInt = 1 → a2_79.toInt ≤ 5) from by omega) (show ((I5 6).toInt = 0 → 0 ≤ a2_79.toInt) from by omega) (show ((I5 3).toInt ≤ (I5 4).toInt) from by omega) (show ((I5 4).toInt ≤ (I0 1).toInt) from by omega) (show ((¬ (I5 2).toInt = 0) → (I5 3).toInt < (I5 4).toInt) from by omega) (show ((¬ (I0 6).toInt = 0) → (¬ (I5 6).toInt = 0)) from by omega) (show ((I0 3).toInt ≤ (I5 3).toInt) from by omega) hP hD hS (lv_sub hl [0, 1] rfl)
  have lab_57 : ∀ (b0_57 : Int32) (I_57 : Nat → Int32) (J_57 : Nat → Int64) (R_57 : Nat → Nat → Int32) (L_57 : Nat → Nat → Int64) (H : Heap) (locs : List Loc) (ls : Array Slot), InvI Wm_lo Wm_hi I_57 → InvR Wm_rl R_57 → SmF ([2, 3, 4, 5, 6, 7] : List Nat) I0 I_57 → SmF ([] : List Nat) R0 R_57 → ((-1 : Int) ≤ b0_57.toInt ∧ b0_57.toInt ≤ (11 : Int)) → (p1.toInt = 0 → b0_57.toInt ≤ 4) → (p1.toInt = 1 → b0_57.toInt ≤ 5) → ((I_57 3).toInt ≤ (I_57 4).toInt) → ((I_57 4).toInt ≤ (I0 1).toInt) → ((¬ (I_57 2).toInt = 0) → (I_57 3).toInt < (I_57 4).toInt) → ((¬ (I0 6).toInt = 0) → (¬ (I_57 6).toInt = 0)) → ((I0 3).toInt ≤ (I_57 3).toInt) → va_P G.1 vwCl (Wm G g q I_57 J_57 R_57 L_57) H → va_D A (Wm G g q I_57 J_57 R_57 L_57) → va_S A s.heap H locs → lv_has ls 3 [(0, .ref (g 45))] → W p l e (rmD 3 0 0) s m [.ref (g 45), .int p1].toArray below meth c H locs 0 0 Q (F0 m 57 ls [.int b0_57]) := by
    intro b0_57 I_57 J_57 R_57 L_57 H locs ls hvI hvR hsI hsR y0_57 z0_57 z1_57 z2_57 z3_57 z4_57 z5_57 z6_57 hP hD hS hl
    have hv_I_57 := hvI
    have w_I_57_1 := rg (hvI 1 (by decide)) (0) (1800) rfl rfl
    have v_I_57_1 : (I_57 1).toInt = (I0 1).toInt := congrArg Int32.toInt (hsI 1 rfl)
    have w_I_57_2 := rg (hvI 2 (by decide)) (0) (3) rfl rfl
    have w_I_57_3 := rg (hvI 3 (by decide)) (0) (1800) rfl rfl
    have w_I_57_4 := rg (hvI 4 (by decide)) (0) (1800) rfl rfl
    have w_I_57_6 := rg (hvI 6 (by decide)) (0) (5) rfl rfl
    refine lv_istore_n (lv' := [(2, .int b0_57), (0, .ref (g 45))]) hx hb dX12_asked_57 rfl hl (by decide) rfl (fun ls hl => ?_)
    refine lv_aload_n hx hb dX12_asked_58 rfl (lv_at hl 1 rfl) ?_
    refine g_get F hK hP 0 (Wm_at0 G g q I_57 J_57 R_57 L_57) clX12 8 (by decide) flX12_36 rfl dX12_asked_59 ?_
    have w_I_57_6 := rg (hv_I_57 6 (by decide)) (0) (5) rfl rfl
    refine lv_if_ne (tgt := 79) hx hb dX12_asked_62 (by decide) (fun c9 => ?_) (fun c9 => ?_)
    · have gc9 : ¬ ((I_57 6).toInt = 0) := fun q0 => c9 (Int32.toInt_inj.mp q0)
      exact lab_79 b0_57 I_57 J_57 R_57 L_57 _ _ _ hvI hvR hsI hsR (show ((-1 : Int) ≤ b0_57.toInt ∧ b0_57.toInt ≤ (11 : Int)) from by omega) (show (p1.toInt = 0 → b0_57.toInt ≤ 4) from by omega) (show (p1.toInt = 1 → b0_57.toInt ≤ 5) from by omega) (show ((I_57 6).toInt = 0 → 0 ≤ b0_57.toInt) from by omega) (show ((I_57 3).toInt ≤ (I_57 4).toInt) from by omega) (show ((I_57 4).toInt ≤ (I0 1).toInt) from by omega) (show ((¬ (I_57 2).toInt = 0) → (I_57 3).toInt < (I_57 4).toInt) from by omega) (show ((¬ (I0 6).toInt = 0) → (¬ (I_57 6).toInt = 0)) from by omega) (show ((I0 3).toInt ≤ (I_57 3).toInt) from by omega) hP hD hS (lv_sub hl [1, 0] rfl)
    · have gc9 : (I_57 6).toInt = 0 := congrArg Int32.toInt c9
      refine lv_iload_n hx hb dX12_asked_65 rfl (lv_at hl 0 rfl) ?_
      refine lv_iconst (v := (-1)) hx hb dX12_asked_66 (by decide) ?_
      refine lv_icmp_ne (tgt := 79) hx hb dX12_asked_67 (by decide) (fun c10 => ?_) (fun c10 => ?_)
      · have gc10 : ¬ (b0_57.toInt = (-1)) := fun q0 => c10 (Int32.toInt_inj.mp q0)
        exact lab_79 b0_57 I_57 J_57 R_57 L_57 _ _ _ hvI hvR hsI hsR (show ((-1 : Int) ≤ b0_57.toInt ∧ b0_57.toInt ≤ (11 : Int)) from by omega) (show (p1.toInt = 0 → b0_57.toInt ≤ 4) from by omega) (show (p1.toInt = 1 → b0_57.toInt ≤ 5) from by omega) (show ((I_57 6).toInt = 0 → 0 ≤ b0_57.toInt) from by omega) (show ((I_57 3).toInt ≤ (I_57 4).toInt) from by omega) (show ((I_57 4).toInt ≤ (I0 1).toInt) from by omega) (show ((¬ (I_57 2).toInt = 0) → (I_57 3).toInt < (I_57 4).toInt) from by omega) (show ((¬ (I0 6).toInt = 0) → (¬ (I_57 6).toInt = 0)) from by omega) (show ((I0 3).toInt ≤ (I_57 3).toInt) from by omega) hP hD hS (lv_sub hl [1, 0] rfl)
      · have gc10 : b0_57.toInt = (-1) := congrArg Int32.toInt c10
        refine lv_aload_n hx hb dX12_asked_70 rfl (lv_at hl 1 rfl) ?_
        refine lv_iconst (v := 3) hx hb dX12_asked_71 (by decide) ?_
        refine lv_aload_n hx hb dX12_asked_72 rfl (lv_at hl 1 rfl) ?_
        refine g_get F hK hP 0 (Wm_at0 G g q I_57 J_57 R_57 L_57) clX12 4 (by decide) flX12_23 rfl dX12_asked_73 ?_
        have w_I_57_3 := rg (hv_I_57 3 (by decide)) (0) (1800) rfl rfl
        refine wvv (As := [.int 3, .int (I_57 3)]) (rest := []) (b := (g 45)) (d := 1) F hK hP hD hS hA (s_X12_blame l G g q I_57 J_57 R_57 L_57 hvI hvR  3 ((I_57 3)) (by decide) (show ((0 : Int) ≤ (I_57 3).toInt ∧ (I_57 3).toInt ≤ (1800 : Int)) from by omega)) kmV_X12_blame mlX12_240 clX12 rfl 0 (Wm_at0 G g q I_57 J_57 R_57 L_57) ⟨(Nat.le_of_ble_eq_true rfl), (Nat.le_of_ble_eq_true rfl)⟩ hl.1 rfl (Nat.le_of_ble_eq_true rfl) dX12_asked_76 (fun u12 H locs hwr11 hP hD hS => ?_)
        obtain ⟨I13, J14, R15, L16⟩ := u12
        replace hP : va_P G.1 vwCl (Wm G g q I13 J14 R15 L16) H := hP
        replace hD : va_D A (Wm G g q I13 J14 R15 L16) := hD
        obtain ⟨hvI, hvR, tIr11, tRr11, F0r11⟩ := hwr11
        replace F0r11 : (¬ (I13 6).toInt = 0) := F0r11
        replace hvI : InvI Wm_lo Wm_hi I13 := hvI
        replace hvR : InvR Wm_rl R15 := hvR
        replace tIr11 : SmF ([6, 7] : List Nat) I_57 I13 := tIr11
        replace tRr11 : SmF ([] : List Nat) R_57 R15 := tRr11
        have hv_I13 := hvI
        have hsI := smF_tr hsI tIr11 (by decide)
        have hsR := smF_tr hsR tRr11 (by decide)
        have u_I13_1 : (I13 1).toInt = (I_57 1).toInt := congrArg Int32.toInt (tIr11 1 rfl)
        have u_I13_2 : (I13 2).toInt = (I_57 2).toInt := congrArg Int32.toInt (tIr11 2 rfl)
        have u_I13_3 : (I13 3).toInt = (I_57 3).toInt := congrArg Int32.toInt (tIr11 3 rfl)
        have u_I13_4 : (I13 4).toInt = (I_57 4).toInt := congrArg Int32.toInt (tIr11 4 rfl)
        have w_I13_6 := rg (hvI 6 (by decide)) (0) (5) rfl rfl
        exact lab_79 b0_57 I13 J14 R15 L16 _ _ _ hvI hvR hsI hsR (show ((-1 : Int) ≤ b0_57.toInt ∧ b0_57.toInt ≤ (11 : Int)) from by omega) (show (p1.toInt = 0 → b0_57.toInt ≤ 4) from by omega) (show (p1.toInt = 1 → b0_57.toInt ≤ 5) from by omega) (show ((I13 6).toInt = 0 → 0 ≤ b0_57.toInt) from by omega) (show ((I13 3).toInt ≤ (I13 4).toInt) from by omega) (show ((I13 4).toInt ≤ (I0 1).toInt) from by omega) (show ((¬ (I13 2).toInt = 0) → (I13 3).toInt < (I13 4).toInt) from by omega) (show ((¬ (I0 6).toInt = 0) → (¬ (I13 6).toInt = 0)) from by omega) (show ((I0 3).toInt ≤ (I13 3).toInt) from by omega) hP hD hS (lv_sub hl [1, 0] rfl)
  have lab_37 : ∀  (I_37 : Nat → Int32) (J_37 : Nat → Int64) (R_37 : Nat → Nat → Int32) (L_37 : Nat → Nat → Int64) (H : Heap) (locs : List Loc) (ls : Array Slot), InvI Wm_lo Wm_hi I_37 → InvR Wm_rl R_37 → SmF ([2, 3, 4, 5, 6, 7] : List Nat) I0 I_37 → SmF ([] : List Nat) R0 R_37 → ((I_37 3).toInt ≤ (I_37 4).toInt) → ((I_37 4).toInt ≤ (I0 1).toInt) → ((¬ (I_37 2).toInt = 0) → (I_37 3).toInt < (I_37 4).toInt) → ((¬ (I0 6).toInt = 0) → (¬ (I_37 6).toInt = 0)) → ((I0 3).toInt ≤ (I_37 3).toInt) → va_P G.1 vwCl (Wm G g q I_37 J_37 R_37 L_37) H → va_D A (Wm G g q I_37 J_37 R_37 L_37) → va_S A s.heap H locs → lv_has ls 3 [(0, .ref (g 45)), (1, .int p1)] → W p l e (rmD 3 0 0) s m [.ref (g 45), .int p1].toArray below meth c H locs 0 0 Q (F0 m 37 ls []) := by
    intro I_37 J_37 R_37 L_37 H locs ls hvI hvR hsI hsR z0_37 z1_37 z2_37 z3_37 z4_37 hP hD hS hl
    have hv_I_37 := hvI
    have w_I_37_1 := rg (hvI 1 (by decide)) (0) (1800) rfl rfl
    have v_I_37_1 : (I_37 1).toInt = (I0 1).toInt := congrArg Int32.toInt (hsI 1 rfl)
    have w_I_37_2 := rg (hvI 2 (by decide)) (0) (3) rfl rfl
    have w_I_37_3 := rg (hvI 3 (by decide)) (0) (1800) rfl rfl
    have w_I_37_4 := rg (hvI 4 (by decide)) (0) (1800) rfl rfl
    have w_I_37_6 := rg (hvI 6 (by decide)) (0) (5) rfl rfl
    refine lv_aload_n hx hb dX12_asked_37 rfl (lv_at hl 0 rfl) ?_
    refine g_get F hK hP 0 (Wm_at0 G g q I_37 J_37 R_37 L_37) clX12 8 (by decide) flX12_36 rfl dX12_asked_38 ?_
    have w_I_37_6 := rg (hv_I_37 6 (by decide)) (0) (5) rfl rfl
    refine lv_if_le (tgt := 48) hx hb dX12_asked_41 (by decide) (fun c17 => ?_) (fun c17 => ?_)
    · have gc17 : (I_37 6).toInt ≤ 0 := (tle _ _).mp c17
      refine lv_aload_n hx hb dX12_asked_48 rfl (lv_at hl 0 rfl) ?_
      refine lv_iload_n hx hb dX12_asked_49 rfl (lv_at hl 1 rfl) ?_
      refine lv_aload_n hx hb dX12_asked_50 rfl (lv_at hl 0 rfl) ?_
      refine g_get F hK hP 0 (Wm_at0 G g q I_37 J_37 R_37 L_37) clX12 7 (by decide) flX12_32 rfl dX12_asked_51 ?_
      refine wvi (As := [.int p1, .long (J_37 0)]) (rest := []) (b := (g 45)) (d := 1) F hK hP hD hS hA (s_X12_named l G g q I_37 J_37 R_37 L_37 hvI hvR  p1 ((J_37 0)) (show ((0 : Int) ≤ p1.toInt ∧ p1.toInt ≤ (2 : Int)) from by omega)) kmV_X12_named mlX12_354 clX12 rfl 0 (Wm_at0 G g q I_37 J_37 R_37 L_37) ⟨(Nat.le_of_ble_eq_true rfl), (Nat.le_of_ble_eq_true rfl)⟩ hl.1 rfl (Nat.le_of_ble_eq_true rfl) dX12_asked_54 (fun r18 u19 H locs hwr18 hP hD hS => ?_)
      obtain ⟨F0r18, F1r18, F2r18⟩ := hwr18
      replace F0r18 : ((-1 : Int) ≤ r18.toInt ∧ r18.toInt ≤ (11 : Int)) := F0r18
      replace F1r18 : (p1.toInt = 0 → r18.toInt ≤ 4) := F1r18
      replace F2r18 : (p1.toInt = 1 → r18.toInt ≤ 5) := F2r18
      exact lab_57 r18 I_37 J_37 R_37 L_37 _ _ _ hvI hvR hsI hsR (show ((-1 : Int) ≤ r18.toInt ∧ r18.toInt ≤ (11 : Int)) from by omega) (show (p1.toInt = 0 → r18.toInt ≤ 4) from by omega) (show (p1.toInt = 1 → r18.toInt ≤ 5) from by omega) (show ((I_37 3).toInt ≤ (I_37 4).toInt) from by omega) (show ((I_37 4).toInt ≤ (I0 1).toInt) from by omega) (show ((¬ (I_37 2).toInt = 0) → (I_37 3).toInt < (I_37 4).toInt) from by omega) (show ((¬ (I0 6).toInt = 0) → (¬ (I_37 6).toInt = 0)) from by omega) (show ((I0 3).toInt ≤ (I_37 3).toInt) from by omega) hP hD hS (lv_sub hl [0] rfl)
    · have gc17 : ¬ ((I_37 6).toInt ≤ 0) := fun q0 => c17 ((tle _ _).mpr q0)
      refine lv_iconst (v := 0) hx hb dX12_asked_44 (by decide) ?_
      refine lv_goto (tgt := 57) hx hb dX12_asked_45 (by decide) ?_
      exact lab_57 0 I_37 J_37 R_37 L_37 _ _ _ hvI hvR hsI hsR (by decide) (show (p1.toInt = 0 → 0 ≤ 4) from by omega) (show (p1.toInt = 1 → 0 ≤ 5) from by omega) (show ((I_37 3).toInt ≤ (I_37 4).toInt) from by omega) (show ((I_37 4).toInt ≤ (I0 1).toInt) from by omega) (show ((¬ (I_37 2).toInt = 0) → (I_37 3).toInt < (I_37 4).toInt) from by omega) (show ((¬ (I0 6).toInt = 0) → (¬ (I_37 6).toInt = 0)) from by omega) (show ((I0 3).toInt ≤ (I_37 3).toInt) from by omega) hP hD hS (lv_sub hl [0] rfl)
  have lab_28 : ∀  (I_28 : Nat → Int32) (J_28 : Nat → Int64) (R_28 : Nat → Nat → Int32) (L_28 : Nat → Nat → Int64) (H : Heap) (locs : List Loc) (ls : Array Slot), InvI Wm_lo Wm_hi I_28 → InvR Wm_rl R_28 → SmF ([2, 3, 4, 5, 6, 7] : List Nat) I0 I_28 → SmF ([] : List Nat) R0 R_28 → ((I_28 3).toInt ≤ (I_28 4).toInt) → ((I_28 4).toInt ≤ (I0 1).toInt) → ((¬ (I_28 2).toInt = 0) → (I_28 3).toInt < (I_28 4).toInt) → ((¬ (I0 6).toInt = 0) → (¬ (I_28 6).toInt = 0)) → ((I0 3).toInt ≤ (I_28 3).toInt) → va_P G.1 vwCl (Wm G g q I_28 J_28 R_28 L_28) H → va_D A (Wm G g q I_28 J_28 R_28 L_28) → va_S A s.heap H locs → lv_has ls 3 [(0, .ref (g 45)), (1, .int p1)] → W p l e (rmD 3 0 0) s m [.ref (g 45), .int p1].toArray below meth c H locs 0 0 Q (F0 m 28 ls []) := by
    intro I_28 J_28 R_28 L_28 H locs ls hvI hvR hsI hsR z0_28 z1_28 z2_28 z3_28 z4_28 hP hD hS hl
    have hv_I_28 := hvI
    have w_I_28_1 := rg (hvI 1 (by decide)) (0) (1800) rfl rfl
    have v_I_28_1 : (I_28 1).toInt = (I0 1).toInt := congrArg Int32.toInt (hsI 1 rfl)
    have w_I_28_2 := rg (hvI 2 (by decide)) (0) (3) rfl rfl
    have w_I_28_3 := rg (hvI 3 (by decide)) (0) (1800) rfl rfl
    have w_I_28_4 := rg (hvI 4 (by decide)) (0) (1800) rfl rfl
    have w_I_28_6 := rg (hvI 6 (by decide)) (0) (5) rfl rfl
    refine lv_aload_n hx hb dX12_asked_28 rfl (lv_at hl 0 rfl) ?_
    refine lv_iconst (v := 1) hx hb dX12_asked_29 (by decide) ?_
    refine lv_aload_n hx hb dX12_asked_30 rfl (lv_at hl 0 rfl) ?_
    refine g_get F hK hP 0 (Wm_at0 G g q I_28 J_28 R_28 L_28) clX12 4 (by decide) flX12_23 rfl dX12_asked_31 ?_
    have w_I_28_3 := rg (hv_I_28 3 (by decide)) (0) (1800) rfl rfl
    refine wvv (As := [.int 1, .int (I_28 3)]) (rest := []) (b := (g 45)) (d := 1) F hK hP hD hS hA (s_X12_blame l G g q I_28 J_28 R_28 L_28 hvI hvR  1 ((I_28 3)) (by decide) (show ((0 : Int) ≤ (I_28 3).toInt ∧ (I_28 3).toInt ≤ (1800 : Int)) from by omega)) kmV_X12_blame mlX12_240 clX12 rfl 0 (Wm_at0 G g q I_28 J_28 R_28 L_28) ⟨(Nat.le_of_ble_eq_true rfl), (Nat.le_of_ble_eq_true rfl)⟩ hl.1 rfl (Nat.le_of_ble_eq_true rfl) dX12_asked_34 (fun u21 H locs hwr20 hP hD hS => ?_)
    obtain ⟨I22, J23, R24, L25⟩ := u21
    replace hP : va_P G.1 vwCl (Wm G g q I22 J23 R24 L25) H := hP
    replace hD : va_D A (Wm G g q I22 J23 R24 L25) := hD
    obtain ⟨hvI, hvR, tIr20, tRr20, F0r20⟩ := hwr20
    replace F0r20 : (¬ (I22 6).toInt = 0) := F0r20
    replace hvI : InvI Wm_lo Wm_hi I22 := hvI
    replace hvR : InvR Wm_rl R24 := hvR
    replace tIr20 : SmF ([6, 7] : List Nat) I_28 I22 := tIr20
    replace tRr20 : SmF ([] : List Nat) R_28 R24 := tRr20
    have hv_I22 := hvI
    have hsI := smF_tr hsI tIr20 (by decide)
    have hsR := smF_tr hsR tRr20 (by decide)
    have u_I22_1 : (I22 1).toInt = (I_28 1).toInt := congrArg Int32.toInt (tIr20 1 rfl)
    have u_I22_2 : (I22 2).toInt = (I_28 2).toInt := congrArg Int32.toInt (tIr20 2 rfl)
    have u_I22_3 : (I22 3).toInt = (I_28 3).toInt := congrArg Int32.toInt (tIr20 3 rfl)
    have u_I22_4 : (I22 4).toInt = (I_28 4).toInt := congrArg Int32.toInt (tIr20 4 rfl)
    have w_I22_6 := rg (hvI 6 (by decide)) (0) (5) rfl rfl
    exact lab_37  I22 J23 R24 L25 _ _ _ hvI hvR hsI hsR (show ((I22 3).toInt ≤ (I22 4).toInt) from by omega) (show ((I22 4).toInt ≤ (I0 1).toInt) from by omega) (show ((¬ (I22 2).toInt = 0) → (I22 3).toInt < (I22 4).toInt) from by omega) (show ((¬ (I0 6).toInt = 0) → (¬ (I22 6).toInt = 0)) from by omega) (show ((I0 3).toInt ≤ (I22 3).toInt) from by omega) hP hD hS (lv_sub hl [0, 1] rfl)
  have w_I0_1 := rg (hvI 1 (by decide)) (0) (1800) rfl rfl
  have w_I0_2 := rg (hvI 2 (by decide)) (0) (3) rfl rfl
  have w_I0_3 := rg (hvI 3 (by decide)) (0) (1800) rfl rfl
  have w_I0_4 := rg (hvI 4 (by decide)) (0) (1800) rfl rfl
  have w_I0_6 := rg (hvI 6 (by decide)) (0) (5) rfl rfl
  refine lv_aload_n hx hb dX12_asked_0 rfl (lv_at hl 0 rfl) ?_
  refine g_get F hK hP 0 (Wm_at0 G g q I0 J0 R0 L0) clX12 8 (by decide) flX12_36 rfl dX12_asked_1 ?_
  have w_I0_6 := rg (hvI0 6 (by decide)) (0) (5) rfl rfl
  refine lv_if_le (tgt := 9) hx hb dX12_asked_4 (by decide) (fun c26 => ?_) (fun c26 => ?_)
  · have gc26 : (I0 6).toInt ≤ 0 := (tle _ _).mp c26
    refine lv_aload_n hx hb dX12_asked_9 rfl (lv_at hl 0 rfl) ?_
    refine g_get F hK hP 0 (Wm_at0 G g q I0 J0 R0 L0) clX12 3 (by decide) flX12_20 rfl dX12_asked_10 ?_
    have w_I0_2 := rg (hvI0 2 (by decide)) (0) (3) rfl rfl
    refine lv_iconst (v := 1) hx hb dX12_asked_13 (by decide) ?_
    refine lv_icmp_ne (tgt := 28) hx hb dX12_asked_14 (by decide) (fun c27 => ?_) (fun c27 => ?_)
    · have gc27 : ¬ ((I0 2).toInt = 1) := fun q0 => c27 (Int32.toInt_inj.mp q0)
      exact lab_28  I0 J0 R0 L0 _ _ _ hvI hvR hsI hsR (show ((I0 3).toInt ≤ (I0 4).toInt) from by omega) (show ((I0 4).toInt ≤ (I0 1).toInt) from by omega) (show ((¬ (I0 2).toInt = 0) → (I0 3).toInt < (I0 4).toInt) from by omega) (show ((¬ (I0 6).toInt = 0) → (¬ (I0 6).toInt = 0)) from by omega) (show ((I0 3).toInt ≤ (I0 3).toInt) from by omega) hP hD hS (lv_sub hl [0, 1] rfl)
    · have gc27 : (I0 2).toInt = 1 := congrArg Int32.toInt c27
      refine lv_aload_n hx hb dX12_asked_17 rfl (lv_at hl 0 rfl) ?_
      refine lv_aload_n hx hb dX12_asked_18 rfl (lv_at hl 0 rfl) ?_
      refine g_get F hK hP 0 (Wm_at0 G g q I0 J0 R0 L0) clX12 7 (by decide) flX12_32 rfl dX12_asked_19 ?_
      refine wvi (As := [.long (J0 0)]) (rest := []) (b := (g 45)) (d := 1) F hK hP hD hS hA (s_X12_isOwn l G g q I0 J0 R0 L0 hvI hvR  ((J0 0)) ) kmV_X12_isOwn mlX12_351 clX12 rfl 0 (Wm_at0 G g q I0 J0 R0 L0) ⟨(Nat.le_of_ble_eq_true rfl), (Nat.le_of_ble_eq_true rfl)⟩ hl.1 rfl (Nat.le_of_ble_eq_true rfl) dX12_asked_22 (fun r28 u29 H locs hwr28 hP hD hS => ?_)
      have F0r28 := hwr28
      replace F0r28 : ((0 : Int) ≤ r28.toInt ∧ r28.toInt ≤ (1 : Int)) := F0r28
      refine lv_if_eq (tgt := 37) hx hb dX12_asked_25 (by decide) (fun c30 => ?_) (fun c30 => ?_)
      · have gc30 : r28.toInt = 0 := congrArg Int32.toInt c30
        exact lab_37  I0 J0 R0 L0 _ _ _ hvI hvR hsI hsR (show ((I0 3).toInt ≤ (I0 4).toInt) from by omega) (show ((I0 4).toInt ≤ (I0 1).toInt) from by omega) (show ((¬ (I0 2).toInt = 0) → (I0 3).toInt < (I0 4).toInt) from by omega) (show ((¬ (I0 6).toInt = 0) → (¬ (I0 6).toInt = 0)) from by omega) (show ((I0 3).toInt ≤ (I0 3).toInt) from by omega) hP hD hS (lv_sub hl [0, 1] rfl)
      · have gc30 : ¬ (r28.toInt = 0) := fun q0 => c30 (Int32.toInt_inj.mp q0)
        exact lab_28  I0 J0 R0 L0 _ _ _ hvI hvR hsI hsR (show ((I0 3).toInt ≤ (I0 4).toInt) from by omega) (show ((I0 4).toInt ≤ (I0 1).toInt) from by omega) (show ((¬ (I0 2).toInt = 0) → (I0 3).toInt < (I0 4).toInt) from by omega) (show ((¬ (I0 6).toInt = 0) → (¬ (I0 6).toInt = 0)) from by omega) (show ((I0 3).toInt ≤ (I0 3).toInt) from by omega) hP hD hS (lv_sub hl [0, 1] rfl)
  · have gc26 : ¬ ((I0 6).toInt ≤ 0) := fun q0 => c26 ((tle _ _).mpr q0)
    refine lv_iconst (v := 0) hx hb dX12_asked_7 (by decide) ?_
    rw [hQ]
    exact q_i F hr hlk (I0, J0, R0, L0) hP hD hS ⟨hvI, hvR, hsI, hsR, (show ((0 : Int) ≤ 0 ∧ 0 ≤ (11 : Int)) from by omega), (show (p1.toInt = 0 → 0 ≤ 4) from by omega), (show (p1.toInt = 1 → 0 ≤ 5) from by omega), (show ((I0 3).toInt ≤ (I0 4).toInt) from by omega), (show ((I0 4).toInt ≤ (I0 1).toInt) from by omega), (show ((¬ (I0 2).toInt = 0) → (I0 3).toInt < (I0 4).toInt) from by omega), (show ((¬ (I0 6).toInt = 0) → (¬ (I0 6).toInt = 0)) from by omega), (show ((I0 3).toInt ≤ (I0 3).toInt) from by omega)⟩ dX12_asked_8 (Nat.le_of_ble_eq_true rfl) (Nat.le_of_ble_eq_true rfl)
set_option maxHeartbeats 4000000 in
set_option maxRecDepth 100000 in
theorem s_X12_counts (l : Launch) (G : Gx) (g q : Nat → Nat) (I0 : Nat → Int32) (J0 : Nat → Int64) (R0 : Nat → Nat → Int32) (L0 : Nat → Nat → Int64) (hvI : InvI Wm_lo Wm_hi I0) (hvR : InvR Wm_rl R0)  (p1 : Int32) (hp1 : ((0 : Int) ≤ p1.toInt ∧ p1.toInt ≤ (1 : Int))) (hpre0 : ((I0 3).toInt ≤ (I0 4).toInt)) (hpre1 : ((I0 4).toInt ≤ (I0 1).toInt)) (hpre2 : ((¬ (I0 2).toInt = 0) → (I0 3).toInt < (I0 4).toInt)) : CtI (S := St) l yX12_counts cX12_counts 2 (some .boolean) (rmD 3 0 0) G [.ref (g 45), .int p1] (Wm G g q I0 J0 R0 L0) (fun r u => InvI Wm_lo Wm_hi u.1 ∧ InvR Wm_rl u.2.2.1 ∧ SmF ([2, 3, 4, 5, 6, 7] : List Nat) I0 u.1 ∧ SmF ([] : List Nat) R0 u.2.2.1 ∧ ((0 : Int) ≤ r.toInt ∧ r.toInt ≤ (1 : Int)) ∧ ((r.toInt = 1 ∧ p1.toInt = 0 ∧ (u.1 6).toInt = 0 ∧ (I0 4).toInt ≤ (u.1 3).toInt) ∨ (r.toInt = 0 ∧ ¬ (u.1 6).toInt = 0)) ∧ ((u.1 3).toInt ≤ (u.1 4).toInt) ∧ ((u.1 4).toInt ≤ (I0 1).toInt) ∧ ((¬ (u.1 2).toInt = 0) → (u.1 3).toInt < (u.1 4).toInt) ∧ ((¬ (I0 6).toInt = 0) → (¬ (u.1 6).toInt = 0)) ∧ ((I0 3).toInt ≤ (u.1 3).toInt)) (fun u => Wm G g q u.1 u.2.1 u.2.2.1 u.2.2.2) := by
  refine ctI_of (own := RX12) (by decide +kernel) rfl (Nat.le_of_ble_eq_true rfl) ?_
  intro p e s m below meth c A ls F hr hlk hnm hK hP hD hA hS hl
  have hx := F.1
  have hb := F.2.1
  have hown := F.2.2.2.1
  have hl : lv_has ls 2 [(0, .ref (g 45)), (1, .int p1)] := hl
  obtain ⟨Q, hQ⟩ : ∃ Q : State → Prop, Q = MQ below (va_Qi (S := St) (fun r u => InvI Wm_lo Wm_hi u.1 ∧ InvR Wm_rl u.2.2.1 ∧ SmF ([2, 3, 4, 5, 6, 7] : List Nat) I0 u.1 ∧ SmF ([] : List Nat) R0 u.2.2.1 ∧ ((0 : Int) ≤ r.toInt ∧ r.toInt ≤ (1 : Int)) ∧ ((r.toInt = 1 ∧ p1.toInt = 0 ∧ (u.1 6).toInt = 0 ∧ (I0 4).toInt ≤ (u.1 3).toInt) ∨ (r.toInt = 0 ∧ ¬ (u.1 6).toInt = 0)) ∧ ((u.1 3).toInt ≤ (u.1 4).toInt) ∧ ((u.1 4).toInt ≤ (I0 1).toInt) ∧ ((¬ (u.1 2).toInt = 0) → (u.1 3).toInt < (u.1 4).toInt) ∧ ((¬ (I0 6).toInt = 0) → (¬ (u.1 6).toInt = 0)) ∧ ((I0 3).toInt ≤ (u.1 3).toInt)) (BX G A (fun u => Wm G g q u.1 u.2.1 u.2.2.1 u.2.2.2)) A) [.ref (g 45), .int p1].toArray s 0 0 A := ⟨_, rfl⟩
  rw [show (MQ below (va_Qi (S := St) (fun r u => InvI Wm_lo Wm_hi u.1 ∧ InvR Wm_rl u.2.2.1 ∧ SmF ([2, 3, 4, 5, 6, 7] : List Nat) I0 u.1 ∧ SmF ([] : List Nat) R0 u.2.2.1 ∧ ((0 : Int) ≤ r.toInt ∧ r.toInt ≤ (1 : Int)) ∧ ((r.toInt = 1 ∧ p1.toInt = 0 ∧ (u.1 6).toInt = 0 ∧ (I0 4).toInt ≤ (u.1 3).toInt) ∨ (r.toInt = 0 ∧ ¬ (u.1 6).toInt = 0)) ∧ ((u.1 3).toInt ≤ (u.1 4).toInt) ∧ ((u.1 4).toInt ≤ (I0 1).toInt) ∧ ((¬ (u.1 2).toInt = 0) → (u.1 3).toInt < (u.1 4).toInt) ∧ ((¬ (I0 6).toInt = 0) → (¬ (u.1 6).toInt = 0)) ∧ ((I0 3).toInt ≤ (u.1 3).toInt)) (BX G A (fun u => Wm G g q u.1 u.2.1 u.2.2.1 u.2.2.2)) A) [.ref (g 45), .int p1].toArray s (rmD 3 0 0).cells (rmD 3 0 0).slots A) = Q from hQ.symm]
  have hsI := smF_rf ([2, 3, 4, 5, 6, 7] : List Nat) I0
  have hsR := smF_rf ([] : List Nat) R0
  have hvI0 := hvI
  have lab_31 : ∀  (I_31 : Nat → Int32) (J_31 : Nat → Int64) (R_31 : Nat → Nat → Int32) (L_31 : Nat → Nat → Int64) (H : Heap) (locs : List Loc) (ls : Array Slot), InvI Wm_lo Wm_hi I_31 → InvR Wm_rl R_31 → SmF ([2, 3, 4, 5, 6, 7] : List Nat) I0 I_31 → SmF ([] : List Nat) R0 R_31 → ((I_31 6).toInt = 0 → (p1.toInt = 0 ∧ (I0 4).toInt ≤ (I_31 3).toInt)) → ((I_31 3).toInt ≤ (I_31 4).toInt) → ((I_31 4).toInt ≤ (I0 1).toInt) → ((¬ (I_31 2).toInt = 0) → (I_31 3).toInt < (I_31 4).toInt) → ((¬ (I0 6).toInt = 0) → (¬ (I_31 6).toInt = 0)) → ((I0 3).toInt ≤ (I_31 3).toInt) → va_P G.1 vwCl (Wm G g q I_31 J_31 R_31 L_31) H → va_D A (Wm G g q I_31 J_31 R_31 L_31) → va_S A s.heap H locs → lv_has ls 2 [(0, .ref (g 45))] → W p l e (rmD 3 0 0) s m [.ref (g 45), .int p1].toArray below meth c H locs 0 0 Q (F0 m 31 ls []) := by
    intro I_31 J_31 R_31 L_31 H locs ls hvI hvR hsI hsR z0_31 z1_31 z2_31 z3_31 z4_31 z5_31 hP hD hS hl
    have hv_I_31 := hvI
    have w_I_31_1 := rg (hvI 1 (by decide)) (0) (1800) rfl rfl
    have v_I_31_1 : (I_31 1).toInt = (I0 1).toInt := congrArg Int32.toInt (hsI 1 rfl)
    have w_I_31_2 := rg (hvI 2 (by decide)) (0) (3) rfl rfl
    have w_I_31_3 := rg (hvI 3 (by decide)) (0) (1800) rfl rfl
    have w_I_31_4 := rg (hvI 4 (by decide)) (0) (1800) rfl rfl
    have w_I_31_6 := rg (hvI 6 (by decide)) (0) (5) rfl rfl
    refine lv_aload_n hx hb dX12_counts_31 rfl (lv_at hl 0 rfl) ?_
    refine g_get F hK hP 0 (Wm_at0 G g q I_31 J_31 R_31 L_31) clX12 8 (by decide) flX12_36 rfl dX12_counts_32 ?_
    have w_I_31_6 := rg (hv_I_31 6 (by decide)) (0) (5) rfl rfl
    refine lv_if_ne (tgt := 42) hx hb dX12_counts_35 (by decide) (fun c1 => ?_) (fun c1 => ?_)
    · have gc1 : ¬ ((I_31 6).toInt = 0) := fun q0 => c1 (Int32.toInt_inj.mp q0)
      refine lv_iconst (v := 0) hx hb dX12_counts_42 (by decide) ?_
      rw [hQ]
      exact q_z F hr hlk (I_31, J_31, R_31, L_31) hP hD hS ⟨hvI, hvR, hsI, hsR, (show ((0 : Int) ≤ 0 ∧ 0 ≤ (1 : Int)) from by omega), (show ((0 = 1 ∧ p1.toInt = 0 ∧ (I_31 6).toInt = 0 ∧ (I0 4).toInt ≤ (I_31 3).toInt) ∨ (0 = 0 ∧ ¬ (I_31 6).toInt = 0)) from by omega), (show ((I_31 3).toInt ≤ (I_31 4).toInt) from by omega), (show ((I_31 4).toInt ≤ (I0 1).toInt) from by omega), (show ((¬ (I_31 2).toInt = 0) → (I_31 3).toInt < (I_31 4).toInt) from by omega), (show ((¬ (I0 6).toInt = 0) → (¬ (I_31 6).toInt = 0)) from by omega), (show ((I0 3).toInt ≤ (I_31 3).toInt) from by omega)⟩ dX12_counts_43 (Nat.le_of_ble_eq_true rfl) (Nat.le_of_ble_eq_true rfl) (nar01 (by decide))
    · have gc1 : (I_31 6).toInt = 0 := congrArg Int32.toInt c1
      refine lv_iconst (v := 1) hx hb dX12_counts_38 (by decide) ?_
      refine lv_goto (tgt := 43) hx hb dX12_counts_39 (by decide) ?_
      rw [hQ]
      exact q_z F hr hlk (I_31, J_31, R_31, L_31) hP hD hS ⟨hvI, hvR, hsI, hsR, (show ((0 : Int) ≤ 1 ∧ 1 ≤ (1 : Int)) from by omega), (show ((1 = 1 ∧ p1.toInt = 0 ∧ (I_31 6).toInt = 0 ∧ (I0 4).toInt ≤ (I_31 3).toInt) ∨ (1 = 0 ∧ ¬ (I_31 6).toInt = 0)) from by omega), (show ((I_31 3).toInt ≤ (I_31 4).toInt) from by omega), (show ((I_31 4).toInt ≤ (I0 1).toInt) from by omega), (show ((¬ (I_31 2).toInt = 0) → (I_31 3).toInt < (I_31 4).toInt) from by omega), (show ((¬ (I0 6).toInt = 0) → (¬ (I_31 6).toInt = 0)) from by omega), (show ((I0 3).toInt ≤ (I_31 3).toInt) from by omega)⟩ dX12_counts_43 (Nat.le_of_ble_eq_true rfl) (Nat.le_of_ble_eq_true rfl) (nar01 (by decide))
  have lab_20 : ∀  (I_20 : Nat → Int32) (J_20 : Nat → Int64) (R_20 : Nat → Nat → Int32) (L_20 : Nat → Nat → Int64) (H : Heap) (locs : List Loc) (ls : Array Slot), InvI Wm_lo Wm_hi I_20 → InvR Wm_rl R_20 → SmF ([2, 3, 4, 5, 6, 7] : List Nat) I0 I_20 → SmF ([] : List Nat) R0 R_20 → ((I_20 6).toInt = 0 → p1.toInt = 0) → ((I_20 4).toInt = (I0 4).toInt) → ((I_20 3).toInt ≤ (I_20 4).toInt) → ((I_20 4).toInt ≤ (I0 1).toInt) → ((¬ (I_20 2).toInt = 0) → (I_20 3).toInt < (I_20 4).toInt) → ((¬ (I0 6).toInt = 0) → (¬ (I_20 6).toInt = 0)) → ((I0 3).toInt ≤ (I_20 3).toInt) → va_P G.1 vwCl (Wm G g q I_20 J_20 R_20 L_20) H → va_D A (Wm G g q I_20 J_20 R_20 L_20) → va_S A s.heap H locs → lv_has ls 2 [(0, .ref (g 45))] → W p l e (rmD 3 0 0) s m [.ref (g 45), .int p1].toArray below meth c H locs 0 0 Q (F0 m 20 ls []) := by
    intro I_20 J_20 R_20 L_20 H locs ls hvI hvR hsI hsR z0_20 z1_20 z2_20 z3_20 z4_20 z5_20 z6_20 hP hD hS hl
    have hv_I_20 := hvI
    have w_I_20_1 := rg (hvI 1 (by decide)) (0) (1800) rfl rfl
    have v_I_20_1 : (I_20 1).toInt = (I0 1).toInt := congrArg Int32.toInt (hsI 1 rfl)
    have w_I_20_2 := rg (hvI 2 (by decide)) (0) (3) rfl rfl
    have w_I_20_3 := rg (hvI 3 (by decide)) (0) (1800) rfl rfl
    have w_I_20_4 := rg (hvI 4 (by decide)) (0) (1800) rfl rfl
    have w_I_20_6 := rg (hvI 6 (by decide)) (0) (5) rfl rfl
    refine lv_aload_n hx hb dX12_counts_20 rfl (lv_at hl 0 rfl) ?_
    refine g_get F hK hP 0 (Wm_at0 G g q I_20 J_20 R_20 L_20) clX12 8 (by decide) flX12_36 rfl dX12_counts_21 ?_
    have w_I_20_6 := rg (hv_I_20 6 (by decide)) (0) (5) rfl rfl
    refine lv_if_ne (tgt := 31) hx hb dX12_counts_24 (by decide) (fun c2 => ?_) (fun c2 => ?_)
    · have gc2 : ¬ ((I_20 6).toInt = 0) := fun q0 => c2 (Int32.toInt_inj.mp q0)
      exact lab_31  I_20 J_20 R_20 L_20 _ _ _ hvI hvR hsI hsR (show ((I_20 6).toInt = 0 → (p1.toInt = 0 ∧ (I0 4).toInt ≤ (I_20 3).toInt)) from by omega) (show ((I_20 3).toInt ≤ (I_20 4).toInt) from by omega) (show ((I_20 4).toInt ≤ (I0 1).toInt) from by omega) (show ((¬ (I_20 2).toInt = 0) → (I_20 3).toInt < (I_20 4).toInt) from by omega) (show ((¬ (I0 6).toInt = 0) → (¬ (I_20 6).toInt = 0)) from by omega) (show ((I0 3).toInt ≤ (I_20 3).toInt) from by omega) hP hD hS (lv_sub hl [0] rfl)
    · have gc2 : (I_20 6).toInt = 0 := congrArg Int32.toInt c2
      refine lv_aload_n hx hb dX12_counts_27 rfl (lv_at hl 0 rfl) ?_
      refine wvv (As := []) (rest := []) (b := (g 45)) (d := 2) F hK hP hD hS hA (s_X12_ahead l G g q I_20 J_20 R_20 L_20 hvI hvR   (by omega) (by omega) (by omega)) kmV_X12_ahead mlX12_247 clX12 rfl 0 (Wm_at0 G g q I_20 J_20 R_20 L_20) ⟨(Nat.le_of_ble_eq_true rfl), (Nat.le_of_ble_eq_true rfl)⟩ hl.1 rfl (Nat.le_of_ble_eq_true rfl) dX12_counts_28 (fun u4 H locs hwr3 hP hD hS => ?_)
      obtain ⟨I5, J6, R7, L8⟩ := u4
      replace hP : va_P G.1 vwCl (Wm G g q I5 J6 R7 L8) H := hP
      replace hD : va_D A (Wm G g q I5 J6 R7 L8) := hD
      obtain ⟨hvI, hvR, tIr3, tRr3, F0r3, F1r3, F2r3, F3r3, F4r3, F5r3⟩ := hwr3
      replace F0r3 : ((I_20 4).toInt ≤ (I5 3).toInt) := F0r3
      replace F1r3 : ((I5 3).toInt ≤ (I5 4).toInt) := F1r3
      replace F2r3 : ((I5 4).toInt ≤ (I_20 1).toInt) := F2r3
      replace F3r3 : ((¬ (I5 2).toInt = 0) → (I5 3).toInt < (I5 4).toInt) := F3r3
      replace F4r3 : ((¬ (I_20 6).toInt = 0) → (¬ (I5 6).toInt = 0)) := F4r3
      replace F5r3 : ((I_20 3).toInt ≤ (I5 3).toInt) := F5r3
      replace hvI : InvI Wm_lo Wm_hi I5 := hvI
      replace hvR : InvR Wm_rl R7 := hvR
      replace tIr3 : SmF ([2, 3, 4, 5, 6, 7] : List Nat) I_20 I5 := tIr3
      replace tRr3 : SmF ([] : List Nat) R_20 R7 := tRr3
      have hv_I5 := hvI
      have hsI := smF_tr hsI tIr3 (by decide)
      have hsR := smF_tr hsR tRr3 (by decide)
      have u_I5_1 : (I5 1).toInt = (I_20 1).toInt := congrArg Int32.toInt (tIr3 1 rfl)
      have w_I5_2 := rg (hvI 2 (by decide)) (0) (3) rfl rfl
      have w_I5_3 := rg (hvI 3 (by decide)) (0) (1800) rfl rfl
      have w_I5_4 := rg (hvI 4 (by decide)) (0) (1800) rfl rfl
      have w_I5_6 := rg (hvI 6 (by decide)) (0) (5) rfl rfl
      exact lab_31  I5 J6 R7 L8 _ _ _ hvI hvR hsI hsR (show ((I5 6).toInt = 0 → (p1.toInt = 0 ∧ (I0 4).toInt ≤ (I5 3).toInt)) from by omega) (show ((I5 3).toInt ≤ (I5 4).toInt) from by omega) (show ((I5 4).toInt ≤ (I0 1).toInt) from by omega) (show ((¬ (I5 2).toInt = 0) → (I5 3).toInt < (I5 4).toInt) from by omega) (show ((¬ (I0 6).toInt = 0) → (¬ (I5 6).toInt = 0)) from by omega) (show ((I0 3).toInt ≤ (I5 3).toInt) from by omega) hP hD hS (lv_sub hl [0] rfl)
  have w_I0_1 := rg (hvI 1 (by decide)) (0) (1800) rfl rfl
  have w_I0_2 := rg (hvI 2 (by decide)) (0) (3) rfl rfl
  have w_I0_3 := rg (hvI 3 (by decide)) (0) (1800) rfl rfl
  have w_I0_4 := rg (hvI 4 (by decide)) (0) (1800) rfl rfl
  have w_I0_6 := rg (hvI 6 (by decide)) (0) (5) rfl rfl
  refine lv_aload_n hx hb dX12_counts_0 rfl (lv_at hl 0 rfl) ?_
  refine g_get F hK hP 0 (Wm_at0 G g q I0 J0 R0 L0) clX12 8 (by decide) flX12_36 rfl dX12_counts_1 ?_
  have w_I0_6 := rg (hvI0 6 (by decide)) (0) (5) rfl rfl
  refine lv_if_ne (tgt := 20) hx hb dX12_counts_4 (by decide) (fun c9 => ?_) (fun c9 => ?_)
  · have gc9 : ¬ ((I0 6).toInt = 0) := fun q0 => c9 (Int32.toInt_inj.mp q0)
    exact lab_20  I0 J0 R0 L0 _ _ _ hvI hvR hsI hsR (show ((I0 6).toInt = 0 → p1.toInt = 0) from by omega) (show ((I0 4).toInt = (I0 4).toInt) from by omega) (show ((I0 3).toInt ≤ (I0 4).toInt) from by omega) (show ((I0 4).toInt ≤ (I0 1).toInt) from by omega) (show ((¬ (I0 2).toInt = 0) → (I0 3).toInt < (I0 4).toInt) from by omega) (show ((¬ (I0 6).toInt = 0) → (¬ (I0 6).toInt = 0)) from by omega) (show ((I0 3).toInt ≤ (I0 3).toInt) from by omega) hP hD hS (lv_sub hl [0] rfl)
  · have gc9 : (I0 6).toInt = 0 := congrArg Int32.toInt c9
    refine lv_iload_n hx hb dX12_counts_7 rfl (lv_at hl 1 rfl) ?_
    refine lv_if_eq (tgt := 20) hx hb dX12_counts_8 (by decide) (fun c10 => ?_) (fun c10 => ?_)
    · have gc10 : p1.toInt = 0 := congrArg Int32.toInt c10
      exact lab_20  I0 J0 R0 L0 _ _ _ hvI hvR hsI hsR (show ((I0 6).toInt = 0 → p1.toInt = 0) from by omega) (show ((I0 4).toInt = (I0 4).toInt) from by omega) (show ((I0 3).toInt ≤ (I0 4).toInt) from by omega) (show ((I0 4).toInt ≤ (I0 1).toInt) from by omega) (show ((¬ (I0 2).toInt = 0) → (I0 3).toInt < (I0 4).toInt) from by omega) (show ((¬ (I0 6).toInt = 0) → (¬ (I0 6).toInt = 0)) from by omega) (show ((I0 3).toInt ≤ (I0 3).toInt) from by omega) hP hD hS (lv_sub hl [0] rfl)
    · have gc10 : ¬ (p1.toInt = 0) := fun q0 => c10 (Int32.toInt_inj.mp q0)
      refine lv_aload_n hx hb dX12_counts_11 rfl (lv_at hl 0 rfl) ?_
      refine lv_iconst (v := 5) hx hb dX12_counts_12 (by decide) ?_
      refine lv_aload_n hx hb dX12_counts_13 rfl (lv_at hl 0 rfl) ?_
      refine g_get F hK hP 0 (Wm_at0 G g q I0 J0 R0 L0) clX12 4 (by decide) flX12_23 rfl dX12_counts_14 ?_
      have w_I0_3 := rg (hvI0 3 (by decide)) (0) (1800) rfl rfl
      refine wvv (As := [.int 5, .int (I0 3)]) (rest := []) (b := (g 45)) (d := 1) F hK hP hD hS hA (s_X12_blame l G g q I0 J0 R0 L0 hvI hvR  5 ((I0 3)) (by decide) (show ((0 : Int) ≤ (I0 3).toInt ∧ (I0 3).toInt ≤ (1800 : Int)) from by omega)) kmV_X12_blame mlX12_240 clX12 rfl 0 (Wm_at0 G g q I0 J0 R0 L0) ⟨(Nat.le_of_ble_eq_true rfl), (Nat.le_of_ble_eq_true rfl)⟩ hl.1 rfl (Nat.le_of_ble_eq_true rfl) dX12_counts_17 (fun u12 H locs hwr11 hP hD hS => ?_)
      obtain ⟨I13, J14, R15, L16⟩ := u12
      replace hP : va_P G.1 vwCl (Wm G g q I13 J14 R15 L16) H := hP
      replace hD : va_D A (Wm G g q I13 J14 R15 L16) := hD
      obtain ⟨hvI, hvR, tIr11, tRr11, F0r11⟩ := hwr11
      replace F0r11 : (¬ (I13 6).toInt = 0) := F0r11
      replace hvI : InvI Wm_lo Wm_hi I13 := hvI
      replace hvR : InvR Wm_rl R15 := hvR
      replace tIr11 : SmF ([6, 7] : List Nat) I0 I13 := tIr11
      replace tRr11 : SmF ([] : List Nat) R0 R15 := tRr11
      have hv_I13 := hvI
      have hsI := smF_tr hsI tIr11 (by decide)
      have hsR := smF_tr hsR tRr11 (by decide)
      have u_I13_1 : (I13 1).toInt = (I0 1).toInt := congrArg Int32.toInt (tIr11 1 rfl)
      have u_I13_2 : (I13 2).toInt = (I0 2).toInt := congrArg Int32.toInt (tIr11 2 rfl)
      have u_I13_3 : (I13 3).toInt = (I0 3).toInt := congrArg Int32.toInt (tIr11 3 rfl)
      have u_I13_4 : (I13 4).toInt = (I0 4).toInt := congrArg Int32.toInt (tIr11 4 rfl)
      have w_I13_6 := rg (hvI 6 (by decide)) (0) (5) rfl rfl
      exact lab_20  I13 J14 R15 L16 _ _ _ hvI hvR hsI hsR (show ((I13 6).toInt = 0 → p1.toInt = 0) from by omega) (show ((I13 4).toInt = (I0 4).toInt) from by omega) (show ((I13 3).toInt ≤ (I13 4).toInt) from by omega) (show ((I13 4).toInt ≤ (I0 1).toInt) from by omega) (show ((¬ (I13 2).toInt = 0) → (I13 3).toInt < (I13 4).toInt) from by omega) (show ((¬ (I0 6).toInt = 0) → (¬ (I13 6).toInt = 0)) from by omega) (show ((I0 3).toInt ≤ (I13 3).toInt) from by omega) hP hD hS (lv_sub hl [0] rfl)
set_option maxHeartbeats 4000000 in
set_option maxRecDepth 100000 in
theorem s_X12_dayHere (l : Launch) (G : Gx) (g q : Nat → Nat) (I0 : Nat → Int32) (J0 : Nat → Int64) (R0 : Nat → Nat → Int32) (L0 : Nat → Nat → Int64) (hvI : InvI Wm_lo Wm_hi I0) (hvR : InvR Wm_rl R0)   (hpre0 : ((I0 3).toInt ≤ (I0 4).toInt)) (hpre1 : ((I0 4).toInt ≤ (I0 1).toInt)) (hpre2 : ((¬ (I0 2).toInt = 0) → (I0 3).toInt < (I0 4).toInt)) : CtI (S := St) l yX12_dayHere cX12_dayHere 2 (some .int) (rmD 3 0 0) G [.ref (g 45)] (Wm G g q I0 J0 R0 L0) (fun r u => InvI Wm_lo Wm_hi u.1 ∧ InvR Wm_rl u.2.2.1 ∧ SmF ([2, 3, 4, 5, 6, 7] : List Nat) I0 u.1 ∧ SmF ([] : List Nat) R0 u.2.2.1 ∧ ((0 : Int) ≤ r.toInt ∧ r.toInt ≤ (4 : Int)) ∧ ((u.1 3).toInt ≤ (u.1 4).toInt) ∧ ((u.1 4).toInt ≤ (I0 1).toInt) ∧ ((¬ (u.1 2).toInt = 0) → (u.1 3).toInt < (u.1 4).toInt) ∧ ((¬ (I0 6).toInt = 0) → (¬ (u.1 6).toInt = 0)) ∧ ((I0 3).toInt ≤ (u.1 3).toInt)) (fun u => Wm G g q u.1 u.2.1 u.2.2.1 u.2.2.2) := by
  refine ctI_of (own := RX12) (by decide +kernel) rfl (Nat.le_of_ble_eq_true rfl) ?_
  intro p e s m below meth c A ls F hr hlk hnm hK hP hD hA hS hl
  have hx := F.1
  have hb := F.2.1
  have hown := F.2.2.2.1
  have hl : lv_has ls 2 [(0, .ref (g 45))] := hl
  obtain ⟨Q, hQ⟩ : ∃ Q : State → Prop, Q = MQ below (va_Qi (S := St) (fun r u => InvI Wm_lo Wm_hi u.1 ∧ InvR Wm_rl u.2.2.1 ∧ SmF ([2, 3, 4, 5, 6, 7] : List Nat) I0 u.1 ∧ SmF ([] : List Nat) R0 u.2.2.1 ∧ ((0 : Int) ≤ r.toInt ∧ r.toInt ≤ (4 : Int)) ∧ ((u.1 3).toInt ≤ (u.1 4).toInt) ∧ ((u.1 4).toInt ≤ (I0 1).toInt) ∧ ((¬ (u.1 2).toInt = 0) → (u.1 3).toInt < (u.1 4).toInt) ∧ ((¬ (I0 6).toInt = 0) → (¬ (u.1 6).toInt = 0)) ∧ ((I0 3).toInt ≤ (u.1 3).toInt)) (BX G A (fun u => Wm G g q u.1 u.2.1 u.2.2.1 u.2.2.2)) A) [.ref (g 45)].toArray s 0 0 A := ⟨_, rfl⟩
  rw [show (MQ below (va_Qi (S := St) (fun r u => InvI Wm_lo Wm_hi u.1 ∧ InvR Wm_rl u.2.2.1 ∧ SmF ([2, 3, 4, 5, 6, 7] : List Nat) I0 u.1 ∧ SmF ([] : List Nat) R0 u.2.2.1 ∧ ((0 : Int) ≤ r.toInt ∧ r.toInt ≤ (4 : Int)) ∧ ((u.1 3).toInt ≤ (u.1 4).toInt) ∧ ((u.1 4).toInt ≤ (I0 1).toInt) ∧ ((¬ (u.1 2).toInt = 0) → (u.1 3).toInt < (u.1 4).toInt) ∧ ((¬ (I0 6).toInt = 0) → (¬ (u.1 6).toInt = 0)) ∧ ((I0 3).toInt ≤ (u.1 3).toInt)) (BX G A (fun u => Wm G g q u.1 u.2.1 u.2.2.1 u.2.2.2)) A) [.ref (g 45)].toArray s (rmD 3 0 0).cells (rmD 3 0 0).slots A) = Q from hQ.symm]
  have hsI := smF_rf ([2, 3, 4, 5, 6, 7] : List Nat) I0
  have hsR := smF_rf ([] : List Nat) R0
  have hvI0 := hvI
  have lab_95 : ∀ (a1_95 : Int32) (I_95 : Nat → Int32) (J_95 : Nat → Int64) (R_95 : Nat → Nat → Int32) (L_95 : Nat → Nat → Int64) (H : Heap) (locs : List Loc) (ls : Array Slot), InvI Wm_lo Wm_hi I_95 → InvR Wm_rl R_95 → SmF ([2, 3, 4, 5, 6, 7] : List Nat) I0 I_95 → SmF ([] : List Nat) R0 R_95 → ((-1 : Int) ≤ a1_95.toInt ∧ a1_95.toInt ≤ (4 : Int)) → ((I_95 6).toInt = 0 → 0 ≤ a1_95.toInt) → ((I_95 3).toInt ≤ (I_95 4).toInt) → ((I_95 4).toInt ≤ (I0 1).toInt) → ((¬ (I_95 2).toInt = 0) → (I_95 3).toInt < (I_95 4).toInt) → ((¬ (I0 6).toInt = 0) → (¬ (I_95 6).toInt = 0)) → ((I0 3).toInt ≤ (I_95 3).toInt) → va_P G.1 vwCl (Wm G g q I_95 J_95 R_95 L_95) H → va_D A (Wm G g q I_95 J_95 R_95 L_95) → va_S A s.heap H locs → lv_has ls 2 [(0, .ref (g 45)), (1, .int a1_95)] → W p l e (rmD 3 0 0) s m [.ref (g 45)].toArray below meth c H locs 0 0 Q (F0 m 95 ls []) := by
    intro a1_95 I_95 J_95 R_95 L_95 H locs ls hvI hvR hsI hsR y0_95 z0_95 z1_95 z2_95 z3_95 z4_95 z5_95 hP hD hS hl
    have hv_I_95 := hvI
    have w_I_95_1 := rg (hvI 1 (by decide)) (0) (1800) rfl rfl
    have v_I_95_1 : (I_95 1).toInt = (I0 1).toInt := congrArg Int32.toInt (hsI 1 rfl)
    have w_I_95_2 := rg (hvI 2 (by decide)) (0) (3) rfl rfl
    have w_I_95_3 := rg (hvI 3 (by decide)) (0) (1800) rfl rfl
    have w_I_95_4 := rg (hvI 4 (by decide)) (0) (1800) rfl rfl
    have w_I_95_6 := rg (hvI 6 (by decide)) (0) (5) rfl rfl
    refine lv_aload_n hx hb dX12_dayHere_95 rfl (lv_at hl 0 rfl) ?_
    refine g_get F hK hP 0 (Wm_at0 G g q I_95 J_95 R_95 L_95) clX12 8 (by decide) flX12_36 rfl dX12_dayHere_96 ?_
    have w_I_95_6 := rg (hv_I_95 6 (by decide)) (0) (5) rfl rfl
    refine lv_if_le (tgt := 104) hx hb dX12_dayHere_99 (by decide) (fun c1 => ?_) (fun c1 => ?_)
    · have gc1 : (I_95 6).toInt ≤ 0 := (tle _ _).mp c1
      refine lv_aload_n hx hb dX12_dayHere_104 rfl (lv_at hl 0 rfl) ?_
      refine wvv (As := []) (rest := []) (b := (g 45)) (d := 2) F hK hP hD hS hA (s_X12_ahead l G g q I_95 J_95 R_95 L_95 hvI hvR   (by omega) (by omega) (by omega)) kmV_X12_ahead mlX12_247 clX12 rfl 0 (Wm_at0 G g q I_95 J_95 R_95 L_95) ⟨(Nat.le_of_ble_eq_true rfl), (Nat.le_of_ble_eq_true rfl)⟩ hl.1 rfl (Nat.le_of_ble_eq_true rfl) dX12_dayHere_105 (fun u3 H locs hwr2 hP hD hS => ?_)
      obtain ⟨I4, J5, R6, L7⟩ := u3
      replace hP : va_P G.1 vwCl (Wm G g q I4 J5 R6 L7) H := hP
      replace hD : va_D A (Wm G g q I4 J5 R6 L7) := hD
      obtain ⟨hvI, hvR, tIr2, tRr2, F0r2, F1r2, F2r2, F3r2, F4r2, F5r2⟩ := hwr2
      replace F0r2 : ((I_95 4).toInt ≤ (I4 3).toInt) := F0r2
      replace F1r2 : ((I4 3).toInt ≤ (I4 4).toInt) := F1r2
      replace F2r2 : ((I4 4).toInt ≤ (I_95 1).toInt) := F2r2
      replace F3r2 : ((¬ (I4 2).toInt = 0) → (I4 3).toInt < (I4 4).toInt) := F3r2
      replace F4r2 : ((¬ (I_95 6).toInt = 0) → (¬ (I4 6).toInt = 0)) := F4r2
      replace F5r2 : ((I_95 3).toInt ≤ (I4 3).toInt) := F5r2
      replace hvI : InvI Wm_lo Wm_hi I4 := hvI
      replace hvR : InvR Wm_rl R6 := hvR
      replace tIr2 : SmF ([2, 3, 4, 5, 6, 7] : List Nat) I_95 I4 := tIr2
      replace tRr2 : SmF ([] : List Nat) R_95 R6 := tRr2
      have hv_I4 := hvI
      have hsI := smF_tr hsI tIr2 (by decide)
      have hsR := smF_tr hsR tRr2 (by decide)
      have u_I4_1 : (I4 1).toInt = (I_95 1).toInt := congrArg Int32.toInt (tIr2 1 rfl)
      have w_I4_2 := rg (hvI 2 (by decide)) (0) (3) rfl rfl
      have w_I4_3 := rg (hvI 3 (by decide)) (0) (1800) rfl rfl
      have w_I4_4 := rg (hvI 4 (by decide)) (0) (1800) rfl rfl
      have w_I4_6 := rg (hvI 6 (by decide)) (0) (5) rfl rfl
      refine lv_iload_n hx hb dX12_dayHere_108 rfl (lv_at hl 1 rfl) ?_
      rw [hQ]
      exact q_i F hr hlk (I4, J5, R6, L7) hP hD hS ⟨hvI, hvR, hsI, hsR, (show ((0 : Int) ≤ a1_95.toInt ∧ a1_95.toInt ≤ (4 : Int)) from by omega), (show ((I4 3).toInt ≤ (I4 4).toInt) from by omega), (show ((I4 4).toInt ≤ (I0 1).toInt) from by omega), (show ((¬ (I4 2).toInt = 0) → (I4 3).toInt < (I4 4).toInt) from by omega), (show ((¬ (I0 6).toInt = 0) → (¬ (I4 6).toInt = 0)) from by omega), (show ((I0 3).toInt ≤ (I4 3).toInt) from by omega)⟩ dX12_dayHere_109 (Nat.le_of_ble_eq_true rfl) (Nat.le_of_ble_eq_true rfl)
    · have gc1 : ¬ ((I_95 6).toInt ≤ 0) := fun q0 => c1 ((tle _ _).mpr q0)
      refine lv_iconst (v := 0) hx hb dX12_dayHere_102 (by decide) ?_
      rw [hQ]
      exact q_i F hr hlk (I_95, J_95, R_95, L_95) hP hD hS ⟨hvI, hvR, hsI, hsR, (show ((0 : Int) ≤ 0 ∧ 0 ≤ (4 : Int)) from by omega), (show ((I_95 3).toInt ≤ (I_95 4).toInt) from by omega), (show ((I_95 4).toInt ≤ (I0 1).toInt) from by omega), (show ((¬ (I_95 2).toInt = 0) → (I_95 3).toInt < (I_95 4).toInt) from by omega), (show ((¬ (I0 6).toInt = 0) → (¬ (I_95 6).toInt = 0)) from by omega), (show ((I0 3).toInt ≤ (I_95 3).toInt) from by omega)⟩ dX12_dayHere_103 (Nat.le_of_ble_eq_true rfl) (Nat.le_of_ble_eq_true rfl)
  have lab_80 : ∀ (b0_80 : Int32) (I_80 : Nat → Int32) (J_80 : Nat → Int64) (R_80 : Nat → Nat → Int32) (L_80 : Nat → Nat → Int64) (H : Heap) (locs : List Loc) (ls : Array Slot), InvI Wm_lo Wm_hi I_80 → InvR Wm_rl R_80 → SmF ([2, 3, 4, 5, 6, 7] : List Nat) I0 I_80 → SmF ([] : List Nat) R0 R_80 → ((-1 : Int) ≤ b0_80.toInt ∧ b0_80.toInt ≤ (4 : Int)) → ((I_80 3).toInt ≤ (I_80 4).toInt) → ((I_80 4).toInt ≤ (I0 1).toInt) → ((¬ (I_80 2).toInt = 0) → (I_80 3).toInt < (I_80 4).toInt) → ((¬ (I0 6).toInt = 0) → (¬ (I_80 6).toInt = 0)) → ((I0 3).toInt ≤ (I_80 3).toInt) → va_P G.1 vwCl (Wm G g q I_80 J_80 R_80 L_80) H → va_D A (Wm G g q I_80 J_80 R_80 L_80) → va_S A s.heap H locs → lv_has ls 2 [(0, .ref (g 45))] → W p l e (rmD 3 0 0) s m [.ref (g 45)].toArray below meth c H locs 0 0 Q (F0 m 80 ls [.int b0_80]) := by
    intro b0_80 I_80 J_80 R_80 L_80 H locs ls hvI hvR hsI hsR y0_80 z0_80 z1_80 z2_80 z3_80 z4_80 hP hD hS hl
    have hv_I_80 := hvI
    have w_I_80_1 := rg (hvI 1 (by decide)) (0) (1800) rfl rfl
    have v_I_80_1 : (I_80 1).toInt = (I0 1).toInt := congrArg Int32.toInt (hsI 1 rfl)
    have w_I_80_2 := rg (hvI 2 (by decide)) (0) (3) rfl rfl
    have w_I_80_3 := rg (hvI 3 (by decide)) (0) (1800) rfl rfl
    have w_I_80_4 := rg (hvI 4 (by decide)) (0) (1800) rfl rfl
    have w_I_80_6 := rg (hvI 6 (by decide)) (0) (5) rfl rfl
    refine lv_istore_n (lv' := [(1, .int b0_80), (0, .ref (g 45))]) hx hb dX12_dayHere_80 rfl hl (by decide) rfl (fun ls hl => ?_)
    refine lv_iload_n hx hb dX12_dayHere_81 rfl (lv_at hl 0 rfl) ?_
    refine lv_iconst (v := (-1)) hx hb dX12_dayHere_82 (by decide) ?_
    refine lv_icmp_ne (tgt := 95) hx hb dX12_dayHere_83 (by decide) (fun c8 => ?_) (fun c8 => ?_)
    · have gc8 : ¬ (b0_80.toInt = (-1)) := fun q0 => c8 (Int32.toInt_inj.mp q0)
      exact lab_95 b0_80 I_80 J_80 R_80 L_80 _ _ _ hvI hvR hsI hsR (show ((-1 : Int) ≤ b0_80.toInt ∧ b0_80.toInt ≤ (4 : Int)) from by omega) (show ((I_80 6).toInt = 0 → 0 ≤ b0_80.toInt) from by omega) (show ((I_80 3).toInt ≤ (I_80 4).toInt) from by omega) (show ((I_80 4).toInt ≤ (I0 1).toInt) from by omega) (show ((¬ (I_80 2).toInt = 0) → (I_80 3).toInt < (I_80 4).toInt) from by omega) (show ((¬ (I0 6).toInt = 0) → (¬ (I_80 6).toInt = 0)) from by omega) (show ((I0 3).toInt ≤ (I_80 3).toInt) from by omega) hP hD hS (lv_sub hl [1, 0] rfl)
    · have gc8 : b0_80.toInt = (-1) := congrArg Int32.toInt c8
      refine lv_aload_n hx hb dX12_dayHere_86 rfl (lv_at hl 1 rfl) ?_
      refine lv_iconst (v := 1) hx hb dX12_dayHere_87 (by decide) ?_
      refine lv_aload_n hx hb dX12_dayHere_88 rfl (lv_at hl 1 rfl) ?_
      refine g_get F hK hP 0 (Wm_at0 G g q I_80 J_80 R_80 L_80) clX12 4 (by decide) flX12_23 rfl dX12_dayHere_89 ?_
      have w_I_80_3 := rg (hv_I_80 3 (by decide)) (0) (1800) rfl rfl
      refine wvv (As := [.int 1, .int (I_80 3)]) (rest := []) (b := (g 45)) (d := 1) F hK hP hD hS hA (s_X12_blame l G g q I_80 J_80 R_80 L_80 hvI hvR  1 ((I_80 3)) (by decide) (show ((0 : Int) ≤ (I_80 3).toInt ∧ (I_80 3).toInt ≤ (1800 : Int)) from by omega)) kmV_X12_blame mlX12_240 clX12 rfl 0 (Wm_at0 G g q I_80 J_80 R_80 L_80) ⟨(Nat.le_of_ble_eq_true rfl), (Nat.le_of_ble_eq_true rfl)⟩ hl.1 rfl (Nat.le_of_ble_eq_true rfl) dX12_dayHere_92 (fun u10 H locs hwr9 hP hD hS => ?_)
      obtain ⟨I11, J12, R13, L14⟩ := u10
      replace hP : va_P G.1 vwCl (Wm G g q I11 J12 R13 L14) H := hP
      replace hD : va_D A (Wm G g q I11 J12 R13 L14) := hD
      obtain ⟨hvI, hvR, tIr9, tRr9, F0r9⟩ := hwr9
      replace F0r9 : (¬ (I11 6).toInt = 0) := F0r9
      replace hvI : InvI Wm_lo Wm_hi I11 := hvI
      replace hvR : InvR Wm_rl R13 := hvR
      replace tIr9 : SmF ([6, 7] : List Nat) I_80 I11 := tIr9
      replace tRr9 : SmF ([] : List Nat) R_80 R13 := tRr9
      have hv_I11 := hvI
      have hsI := smF_tr hsI tIr9 (by decide)
      have hsR := smF_tr hsR tRr9 (by decide)
      have u_I11_1 : (I11 1).toInt = (I_80 1).toInt := congrArg Int32.toInt (tIr9 1 rfl)
      have u_I11_2 : (I11 2).toInt = (I_80 2).toInt := congrArg Int32.toInt (tIr9 2 rfl)
      have u_I11_3 : (I11 3).toInt = (I_80 3).toInt := congrArg Int32.toInt (tIr9 3 rfl)
      have u_I11_4 : (I11 4).toInt = (I_80 4).toInt := congrArg Int32.toInt (tIr9 4 rfl)
      have w_I11_6 := rg (hvI 6 (by decide)) (0) (5) rfl rfl
      exact lab_95 b0_80 I11 J12 R13 L14 _ _ _ hvI hvR hsI hsR (show ((-1 : Int) ≤ b0_80.toInt ∧ b0_80.toInt ≤ (4 : Int)) from by omega) (show ((I11 6).toInt = 0 → 0 ≤ b0_80.toInt) from by omega) (show ((I11 3).toInt ≤ (I11 4).toInt) from by omega) (show ((I11 4).toInt ≤ (I0 1).toInt) from by omega) (show ((¬ (I11 2).toInt = 0) → (I11 3).toInt < (I11 4).toInt) from by omega) (show ((¬ (I0 6).toInt = 0) → (¬ (I11 6).toInt = 0)) from by omega) (show ((I0 3).toInt ≤ (I11 3).toInt) from by omega) hP hD hS (lv_sub hl [1, 0] rfl)
  have w_I0_1 := rg (hvI 1 (by decide)) (0) (1800) rfl rfl
  have w_I0_2 := rg (hvI 2 (by decide)) (0) (3) rfl rfl
  have w_I0_3 := rg (hvI 3 (by decide)) (0) (1800) rfl rfl
  have w_I0_4 := rg (hvI 4 (by decide)) (0) (1800) rfl rfl
  have w_I0_6 := rg (hvI 6 (by decide)) (0) (5) rfl rfl
  refine lv_aload_n hx hb dX12_dayHere_0 rfl (lv_at hl 0 rfl) ?_
  refine g_get F hK hP 0 (Wm_at0 G g q I0 J0 R0 L0) clX12 8 (by decide) flX12_36 rfl dX12_dayHere_1 ?_
  have w_I0_6 := rg (hvI0 6 (by decide)) (0) (5) rfl rfl
  refine lv_if_le (tgt := 9) hx hb dX12_dayHere_4 (by decide) (fun c15 => ?_) (fun c15 => ?_)
  · have gc15 : (I0 6).toInt ≤ 0 := (tle _ _).mp c15
    refine lv_aload_n hx hb dX12_dayHere_9 rfl (lv_at hl 0 rfl) ?_
    refine lv_ldc2 hx hb hown (F.2.2.2.2 _ clX12_284) dX12_dayHere_10 ?_
    refine wvi (As := [.long 7171950]) (rest := []) (b := (g 45)) (d := 1) F hK hP hD hS hA (s_X12_isWord l G g q I0 J0 R0 L0 hvI hvR  7171950 ) kmV_X12_isWord mlX12_332 clX12 rfl 0 (Wm_at0 G g q I0 J0 R0 L0) ⟨(Nat.le_of_ble_eq_true rfl), (Nat.le_of_ble_eq_true rfl)⟩ hl.1 rfl (Nat.le_of_ble_eq_true rfl) dX12_dayHere_13 (fun r16 u17 H locs hwr16 hP hD hS => ?_)
    have F0r16 := hwr16
    replace F0r16 : ((0 : Int) ≤ r16.toInt ∧ r16.toInt ≤ (1 : Int)) := F0r16
    refine lv_if_eq (tgt := 23) hx hb dX12_dayHere_16 (by decide) (fun c18 => ?_) (fun c18 => ?_)
    · have gc18 : r16.toInt = 0 := congrArg Int32.toInt c18
      refine lv_aload_n hx hb dX12_dayHere_23 rfl (lv_at hl 0 rfl) ?_
      refine lv_ldc2 hx hb hown (F.2.2.2.2 _ clX12_286) dX12_dayHere_24 ?_
      refine wvi (As := [.long 7632229]) (rest := []) (b := (g 45)) (d := 1) F hK hP hD hS hA (s_X12_isWord l G g q I0 J0 R0 L0 hvI hvR  7632229 ) kmV_X12_isWord mlX12_332 clX12 rfl 0 (Wm_at0 G g q I0 J0 R0 L0) ⟨(Nat.le_of_ble_eq_true rfl), (Nat.le_of_ble_eq_true rfl)⟩ hl.1 rfl (Nat.le_of_ble_eq_true rfl) dX12_dayHere_27 (fun r19 u20 H locs hwr19 hP hD hS => ?_)
      have F0r19 := hwr19
      replace F0r19 : ((0 : Int) ≤ r19.toInt ∧ r19.toInt ≤ (1 : Int)) := F0r19
      refine lv_if_eq (tgt := 37) hx hb dX12_dayHere_30 (by decide) (fun c21 => ?_) (fun c21 => ?_)
      · have gc21 : r19.toInt = 0 := congrArg Int32.toInt c21
        refine lv_aload_n hx hb dX12_dayHere_37 rfl (lv_at hl 0 rfl) ?_
        refine lv_ldc2 hx hb hown (F.2.2.2.2 _ clX12_288) dX12_dayHere_38 ?_
        refine wvi (As := [.long 7824740]) (rest := []) (b := (g 45)) (d := 1) F hK hP hD hS hA (s_X12_isWord l G g q I0 J0 R0 L0 hvI hvR  7824740 ) kmV_X12_isWord mlX12_332 clX12 rfl 0 (Wm_at0 G g q I0 J0 R0 L0) ⟨(Nat.le_of_ble_eq_true rfl), (Nat.le_of_ble_eq_true rfl)⟩ hl.1 rfl (Nat.le_of_ble_eq_true rfl) dX12_dayHere_41 (fun r22 u23 H locs hwr22 hP hD hS => ?_)
        have F0r22 := hwr22
        replace F0r22 : ((0 : Int) ≤ r22.toInt ∧ r22.toInt ≤ (1 : Int)) := F0r22
        refine lv_if_eq (tgt := 51) hx hb dX12_dayHere_44 (by decide) (fun c24 => ?_) (fun c24 => ?_)
        · have gc24 : r22.toInt = 0 := congrArg Int32.toInt c24
          refine lv_aload_n hx hb dX12_dayHere_51 rfl (lv_at hl 0 rfl) ?_
          refine lv_ldc2 hx hb hown (F.2.2.2.2 _ clX12_290) dX12_dayHere_52 ?_
          refine wvi (As := [.long 7628917]) (rest := []) (b := (g 45)) (d := 1) F hK hP hD hS hA (s_X12_isWord l G g q I0 J0 R0 L0 hvI hvR  7628917 ) kmV_X12_isWord mlX12_332 clX12 rfl 0 (Wm_at0 G g q I0 J0 R0 L0) ⟨(Nat.le_of_ble_eq_true rfl), (Nat.le_of_ble_eq_true rfl)⟩ hl.1 rfl (Nat.le_of_ble_eq_true rfl) dX12_dayHere_55 (fun r25 u26 H locs hwr25 hP hD hS => ?_)
          have F0r25 := hwr25
          replace F0r25 : ((0 : Int) ≤ r25.toInt ∧ r25.toInt ≤ (1 : Int)) := F0r25
          refine lv_if_eq (tgt := 65) hx hb dX12_dayHere_58 (by decide) (fun c27 => ?_) (fun c27 => ?_)
          · have gc27 : r25.toInt = 0 := congrArg Int32.toInt c27
            refine lv_aload_n hx hb dX12_dayHere_65 rfl (lv_at hl 0 rfl) ?_
            refine lv_ldc2 hx hb hown (F.2.2.2.2 _ clX12_292) dX12_dayHere_66 ?_
            refine wvi (As := [.long 6713961]) (rest := []) (b := (g 45)) (d := 1) F hK hP hD hS hA (s_X12_isWord l G g q I0 J0 R0 L0 hvI hvR  6713961 ) kmV_X12_isWord mlX12_332 clX12 rfl 0 (Wm_at0 G g q I0 J0 R0 L0) ⟨(Nat.le_of_ble_eq_true rfl), (Nat.le_of_ble_eq_true rfl)⟩ hl.1 rfl (Nat.le_of_ble_eq_true rfl) dX12_dayHere_69 (fun r28 u29 H locs hwr28 hP hD hS => ?_)
            have F0r28 := hwr28
            replace F0r28 : ((0 : Int) ≤ r28.toInt ∧ r28.toInt ≤ (1 : Int)) := F0r28
            refine lv_if_eq (tgt := 79) hx hb dX12_dayHere_72 (by decide) (fun c30 => ?_) (fun c30 => ?_)
            · have gc30 : r28.toInt = 0 := congrArg Int32.toInt c30
              refine lv_iconst (v := (-1)) hx hb dX12_dayHere_79 (by decide) ?_
              exact lab_80 ((-1)) I0 J0 R0 L0 _ _ _ hvI hvR hsI hsR (by decide) (show ((I0 3).toInt ≤ (I0 4).toInt) from by omega) (show ((I0 4).toInt ≤ (I0 1).toInt) from by omega) (show ((¬ (I0 2).toInt = 0) → (I0 3).toInt < (I0 4).toInt) from by omega) (show ((¬ (I0 6).toInt = 0) → (¬ (I0 6).toInt = 0)) from by omega) (show ((I0 3).toInt ≤ (I0 3).toInt) from by omega) hP hD hS (lv_sub hl [0] rfl)
            · have gc30 : ¬ (r28.toInt = 0) := fun q0 => c30 (Int32.toInt_inj.mp q0)
              refine lv_iconst (v := 4) hx hb dX12_dayHere_75 (by decide) ?_
              refine lv_goto (tgt := 80) hx hb dX12_dayHere_76 (by decide) ?_
              exact lab_80 4 I0 J0 R0 L0 _ _ _ hvI hvR hsI hsR (by decide) (show ((I0 3).toInt ≤ (I0 4).toInt) from by omega) (show ((I0 4).toInt ≤ (I0 1).toInt) from by omega) (show ((¬ (I0 2).toInt = 0) → (I0 3).toInt < (I0 4).toInt) from by omega) (show ((¬ (I0 6).toInt = 0) → (¬ (I0 6).toInt = 0)) from by omega) (show ((I0 3).toInt ≤ (I0 3).toInt) from by omega) hP hD hS (lv_sub hl [0] rfl)
          · have gc27 : ¬ (r25.toInt = 0) := fun q0 => c27 (Int32.toInt_inj.mp q0)
            refine lv_iconst (v := 3) hx hb dX12_dayHere_61 (by decide) ?_
            refine lv_goto (tgt := 80) hx hb dX12_dayHere_62 (by decide) ?_
            exact lab_80 3 I0 J0 R0 L0 _ _ _ hvI hvR hsI hsR (by decide) (show ((I0 3).toInt ≤ (I0 4).toInt) from by omega) (show ((I0 4).toInt ≤ (I0 1).toInt) from by omega) (show ((¬ (I0 2).toInt = 0) → (I0 3).toInt < (I0 4).toInt) from by omega) (show ((¬ (I0 6).toInt = 0) → (¬ (I0 6).toInt = 0)) from by omega) (show ((I0 3).toInt ≤ (I0 3).toInt) from by omega) hP hD hS (lv_sub hl [0] rfl)
        · have gc24 : ¬ (r22.toInt = 0) := fun q0 => c24 (Int32.toInt_inj.mp q0)
          refine lv_iconst (v := 2) hx hb dX12_dayHere_47 (by decide) ?_
          refine lv_goto (tgt := 80) hx hb dX12_dayHere_48 (by decide) ?_
          exact lab_80 2 I0 J0 R0 L0 _ _ _ hvI hvR hsI hsR (by decide) (show ((I0 3).toInt ≤ (I0 4).toInt) from by omega) (show ((I0 4).toInt ≤ (I0 1).toInt) from by omega) (show ((¬ (I0 2).toInt = 0) → (I0 3).toInt < (I0 4).toInt) from by omega) (show ((¬ (I0 6).toInt = 0) → (¬ (I0 6).toInt = 0)) from by omega) (show ((I0 3).toInt ≤ (I0 3).toInt) from by omega) hP hD hS (lv_sub hl [0] rfl)
      · have gc21 : ¬ (r19.toInt = 0) := fun q0 => c21 (Int32.toInt_inj.mp q0)
        refine lv_iconst (v := 1) hx hb dX12_dayHere_33 (by decide) ?_
        refine lv_goto (tgt := 80) hx hb dX12_dayHere_34 (by decide) ?_
        exact lab_80 1 I0 J0 R0 L0 _ _ _ hvI hvR hsI hsR (by decide) (show ((I0 3).toInt ≤ (I0 4).toInt) from by omega) (show ((I0 4).toInt ≤ (I0 1).toInt) from by omega) (show ((¬ (I0 2).toInt = 0) → (I0 3).toInt < (I0 4).toInt) from by omega) (show ((¬ (I0 6).toInt = 0) → (¬ (I0 6).toInt = 0)) from by omega) (show ((I0 3).toInt ≤ (I0 3).toInt) from by omega) hP hD hS (lv_sub hl [0] rfl)
    · have gc18 : ¬ (r16.toInt = 0) := fun q0 => c18 (Int32.toInt_inj.mp q0)
      refine lv_iconst (v := 0) hx hb dX12_dayHere_19 (by decide) ?_
      refine lv_goto (tgt := 80) hx hb dX12_dayHere_20 (by decide) ?_
      exact lab_80 0 I0 J0 R0 L0 _ _ _ hvI hvR hsI hsR (by decide) (show ((I0 3).toInt ≤ (I0 4).toInt) from by omega) (show ((I0 4).toInt ≤ (I0 1).toInt) from by omega) (show ((¬ (I0 2).toInt = 0) → (I0 3).toInt < (I0 4).toInt) from by omega) (show ((¬ (I0 6).toInt = 0) → (¬ (I0 6).toInt = 0)) from by omega) (show ((I0 3).toInt ≤ (I0 3).toInt) from by omega) hP hD hS (lv_sub hl [0] rfl)
  · have gc15 : ¬ ((I0 6).toInt ≤ 0) := fun q0 => c15 ((tle _ _).mpr q0)
    refine lv_iconst (v := 0) hx hb dX12_dayHere_7 (by decide) ?_
    rw [hQ]
    exact q_i F hr hlk (I0, J0, R0, L0) hP hD hS ⟨hvI, hvR, hsI, hsR, (show ((0 : Int) ≤ 0 ∧ 0 ≤ (4 : Int)) from by omega), (show ((I0 3).toInt ≤ (I0 4).toInt) from by omega), (show ((I0 4).toInt ≤ (I0 1).toInt) from by omega), (show ((¬ (I0 2).toInt = 0) → (I0 3).toInt < (I0 4).toInt) from by omega), (show ((¬ (I0 6).toInt = 0) → (¬ (I0 6).toInt = 0)) from by omega), (show ((I0 3).toInt ≤ (I0 3).toInt) from by omega)⟩ dX12_dayHere_8 (Nat.le_of_ble_eq_true rfl) (Nat.le_of_ble_eq_true rfl)
set_option maxHeartbeats 4000000 in
set_option maxRecDepth 100000 in
theorem s_X12_cannots (l : Launch) (G : Gx) (g q : Nat → Nat) (I0 : Nat → Int32) (J0 : Nat → Int64) (R0 : Nat → Nat → Int32) (L0 : Nat → Nat → Int64) (hvI : InvI Wm_lo Wm_hi I0) (hvR : InvR Wm_rl R0)   (hpre0 : ((I0 3).toInt ≤ (I0 4).toInt)) (hpre1 : ((I0 4).toInt ≤ (I0 1).toInt)) (hpre2 : ((¬ (I0 2).toInt = 0) → (I0 3).toInt < (I0 4).toInt)) : CtV (S := St) l yX12_cannots cX12_cannots 3 none (rmD 4 0 0) G [.ref (g 45)] (Wm G g q I0 J0 R0 L0) (fun u => InvI Wm_lo Wm_hi u.1 ∧ InvR Wm_rl u.2.2.1 ∧ SmF ([2, 3, 4, 5, 6, 7] : List Nat) I0 u.1 ∧ SmF ([10] : List Nat) R0 u.2.2.1 ∧ (((u.1 6).toInt = 0 ∧ ¬ (I0 2).toInt = 0) → (I0 3).toInt < (u.1 3).toInt) ∧ ((u.1 3).toInt ≤ (u.1 4).toInt) ∧ ((u.1 4).toInt ≤ (I0 1).toInt) ∧ ((¬ (u.1 2).toInt = 0) → (u.1 3).toInt < (u.1 4).toInt) ∧ ((¬ (I0 6).toInt = 0) → (¬ (u.1 6).toInt = 0)) ∧ ((I0 3).toInt ≤ (u.1 3).toInt)) (fun u => Wm G g q u.1 u.2.1 u.2.2.1 u.2.2.2) := by
  refine ctV_of (own := RX12) (by decide +kernel) rfl (Nat.le_of_ble_eq_true rfl) ?_
  intro p e s m below meth c A ls F hr hlk hnm hK hP hD hA hS hl
  have hx := F.1
  have hb := F.2.1
  have hown := F.2.2.2.1
  have hl : lv_has ls 3 [(0, .ref (g 45))] := hl
  obtain ⟨Q, hQ⟩ : ∃ Q : State → Prop, Q = MQ below (va_Qv (S := St) (fun u => InvI Wm_lo Wm_hi u.1 ∧ InvR Wm_rl u.2.2.1 ∧ SmF ([2, 3, 4, 5, 6, 7] : List Nat) I0 u.1 ∧ SmF ([10] : List Nat) R0 u.2.2.1 ∧ (((u.1 6).toInt = 0 ∧ ¬ (I0 2).toInt = 0) → (I0 3).toInt < (u.1 3).toInt) ∧ ((u.1 3).toInt ≤ (u.1 4).toInt) ∧ ((u.1 4).toInt ≤ (I0 1).toInt) ∧ ((¬ (u.1 2).toInt = 0) → (u.1 3).toInt < (u.1 4).toInt) ∧ ((¬ (I0 6).toInt = 0) → (¬ (u.1 6).toInt = 0)) ∧ ((I0 3).toInt ≤ (u.1 3).toInt)) (BX G A (fun u => Wm G g q u.1 u.2.1 u.2.2.1 u.2.2.2)) A) [.ref (g 45)].toArray s 0 0 A := ⟨_, rfl⟩
  rw [show (MQ below (va_Qv (S := St) (fun u => InvI Wm_lo Wm_hi u.1 ∧ InvR Wm_rl u.2.2.1 ∧ SmF ([2, 3, 4, 5, 6, 7] : List Nat) I0 u.1 ∧ SmF ([10] : List Nat) R0 u.2.2.1 ∧ (((u.1 6).toInt = 0 ∧ ¬ (I0 2).toInt = 0) → (I0 3).toInt < (u.1 3).toInt) ∧ ((u.1 3).toInt ≤ (u.1 4).toInt) ∧ ((u.1 4).toInt ≤ (I0 1).toInt) ∧ ((¬ (u.1 2).toInt = 0) → (u.1 3).toInt < (u.1 4).toInt) ∧ ((¬ (I0 6).toInt = 0) → (¬ (u.1 6).toInt = 0)) ∧ ((I0 3).toInt ≤ (u.1 3).toInt)) (BX G A (fun u => Wm G g q u.1 u.2.1 u.2.2.1 u.2.2.2)) A) [.ref (g 45)].toArray s (rmD 4 0 0).cells (rmD 4 0 0).slots A) = Q from hQ.symm]
  have hsI := smF_rf ([2, 3, 4, 5, 6, 7] : List Nat) I0
  have hsR := smF_rf ([10] : List Nat) R0
  have hvI0 := hvI
  have w_I0_1 := rg (hvI 1 (by decide)) (0) (1800) rfl rfl
  have w_I0_2 := rg (hvI 2 (by decide)) (0) (3) rfl rfl
  have w_I0_3 := rg (hvI 3 (by decide)) (0) (1800) rfl rfl
  have w_I0_4 := rg (hvI 4 (by decide)) (0) (1800) rfl rfl
  have w_I0_6 := rg (hvI 6 (by decide)) (0) (5) rfl rfl
  refine lv_aload_n hx hb dX12_cannots_0 rfl (lv_at hl 0 rfl) ?_
  refine lv_iconst (v := 0) hx hb dX12_cannots_1 (by decide) ?_
  refine wvi (As := [.int 0]) (rest := []) (b := (g 45)) (d := 3) F hK hP hD hS hA (s_X12_counts l G g q I0 J0 R0 L0 hvI hvR  0 (by decide) (by omega) (by omega) (by omega)) kmV_X12_counts mlX12_358 clX12 rfl 0 (Wm_at0 G g q I0 J0 R0 L0) ⟨(Nat.le_of_ble_eq_true rfl), (Nat.le_of_ble_eq_true rfl)⟩ hl.1 rfl (Nat.le_of_ble_eq_true rfl) dX12_cannots_2 (fun r1 u2 H locs hwr1 hP hD hS => ?_)
  obtain ⟨I3, J4, R5, L6⟩ := u2
  replace hP : va_P G.1 vwCl (Wm G g q I3 J4 R5 L6) H := hP
  replace hD : va_D A (Wm G g q I3 J4 R5 L6) := hD
  obtain ⟨hvI, hvR, tIr1, tRr1, F0r1, F1r1, F2r1, F3r1, F4r1, F5r1, F6r1⟩ := hwr1
  replace F0r1 : ((0 : Int) ≤ r1.toInt ∧ r1.toInt ≤ (1 : Int)) := F0r1
  replace F1r1 : ((r1.toInt = 1 ∧ 0 = 0 ∧ (I3 6).toInt = 0 ∧ (I0 4).toInt ≤ (I3 3).toInt) ∨ (r1.toInt = 0 ∧ ¬ (I3 6).toInt = 0)) := F1r1
  replace F2r1 : ((I3 3).toInt ≤ (I3 4).toInt) := F2r1
  replace F3r1 : ((I3 4).toInt ≤ (I0 1).toInt) := F3r1
  replace F4r1 : ((¬ (I3 2).toInt = 0) → (I3 3).toInt < (I3 4).toInt) := F4r1
  replace F5r1 : ((¬ (I0 6).toInt = 0) → (¬ (I3 6).toInt = 0)) := F5r1
  replace F6r1 : ((I0 3).toInt ≤ (I3 3).toInt) := F6r1
  replace hvI : InvI Wm_lo Wm_hi I3 := hvI
  replace hvR : InvR Wm_rl R5 := hvR
  replace tIr1 : SmF ([2, 3, 4, 5, 6, 7] : List Nat) I0 I3 := tIr1
  replace tRr1 : SmF ([] : List Nat) R0 R5 := tRr1
  have hv_I3 := hvI
  have hsI := smF_tr hsI tIr1 (by decide)
  have hsR := smF_tr hsR tRr1 (by decide)
  have u_I3_1 : (I3 1).toInt = (I0 1).toInt := congrArg Int32.toInt (tIr1 1 rfl)
  have w_I3_2 := rg (hvI 2 (by decide)) (0) (3) rfl rfl
  have w_I3_3 := rg (hvI 3 (by decide)) (0) (1800) rfl rfl
  have w_I3_4 := rg (hvI 4 (by decide)) (0) (1800) rfl rfl
  have w_I3_6 := rg (hvI 6 (by decide)) (0) (5) rfl rfl
  refine lv_if_ne (tgt := 9) hx hb dX12_cannots_5 (by decide) (fun c7 => ?_) (fun c7 => ?_)
  · have gc7 : ¬ (r1.toInt = 0) := fun q0 => c7 (Int32.toInt_inj.mp q0)
    refine lv_bipush (v := 12) hx hb dX12_cannots_9 (by decide) ?_
    refine lv_aload_n hx hb dX12_cannots_11 rfl (lv_at hl 0 rfl) ?_
    refine g_get F hK hP 0 (Wm_at0 G g q I3 J4 R5 L6) clX12 44 (by decide) flX12_146 rfl dX12_cannots_12 ?_
    refine cst_i (hsI 12 rfl) ?_
    have w_I0_12 := rg (hvI0 12 (by decide)) (0) (1) rfl rfl
    refine lv_imul hx hb dX12_cannots_15 ?_
    refine lv_topi (fun x8 ex8 => ?_)
    have fx8 : x8.toInt = 12 * (I0 12).toInt := by rw [ex8]; exact t_mul (by show (-2147483648 : Int) ≤ 12 * (I0 12).toInt; omega) (by show 12 * (I0 12).toInt ≤ 2147483647; omega)
    refine lv_aload_n hx hb dX12_cannots_16 rfl (lv_at hl 0 rfl) ?_
    refine lv_iconst (v := 2) hx hb dX12_cannots_17 (by decide) ?_
    refine wvi (As := [.int 2]) (rest := [.int x8]) (b := (g 45)) (d := 3) F hK hP hD hS hA (s_X12_asked l G g q I3 J4 R5 L6 hvI hvR  2 (by decide) (by omega) (by omega) (by omega)) kmV_X12_asked mlX12_374 clX12 rfl 0 (Wm_at0 G g q I3 J4 R5 L6) ⟨(Nat.le_of_ble_eq_true rfl), (Nat.le_of_ble_eq_true rfl)⟩ hl.1 rfl (Nat.le_of_ble_eq_true rfl) dX12_cannots_18 (fun r9 u10 H locs hwr9 hP hD hS => ?_)
    obtain ⟨I11, J12, R13, L14⟩ := u10
    replace hP : va_P G.1 vwCl (Wm G g q I11 J12 R13 L14) H := hP
    replace hD : va_D A (Wm G g q I11 J12 R13 L14) := hD
    obtain ⟨hvI, hvR, tIr9, tRr9, F0r9, F1r9, F2r9, F3r9, F4r9, F5r9, F6r9, F7r9⟩ := hwr9
    replace F0r9 : ((0 : Int) ≤ r9.toInt ∧ r9.toInt ≤ (11 : Int)) := F0r9
    replace F1r9 : (2 = 0 → r9.toInt ≤ 4) := F1r9
    replace F2r9 : (2 = 1 → r9.toInt ≤ 5) := F2r9
    replace F3r9 : ((I11 3).toInt ≤ (I11 4).toInt) := F3r9
    replace F4r9 : ((I11 4).toInt ≤ (I3 1).toInt) := F4r9
    replace F5r9 : ((¬ (I11 2).toInt = 0) → (I11 3).toInt < (I11 4).toInt) := F5r9
    replace F6r9 : ((¬ (I3 6).toInt = 0) → (¬ (I11 6).toInt = 0)) := F6r9
    replace F7r9 : ((I3 3).toInt ≤ (I11 3).toInt) := F7r9
    replace hvI : InvI Wm_lo Wm_hi I11 := hvI
    replace hvR : InvR Wm_rl R13 := hvR
    replace tIr9 : SmF ([2, 3, 4, 5, 6, 7] : List Nat) I3 I11 := tIr9
    replace tRr9 : SmF ([] : List Nat) R5 R13 := tRr9
    have hv_I11 := hvI
    have hsI := smF_tr hsI tIr9 (by decide)
    have hsR := smF_tr hsR tRr9 (by decide)
    have u_I11_1 : (I11 1).toInt = (I3 1).toInt := congrArg Int32.toInt (tIr9 1 rfl)
    have w_I11_2 := rg (hvI 2 (by decide)) (0) (3) rfl rfl
    have w_I11_3 := rg (hvI 3 (by decide)) (0) (1800) rfl rfl
    have w_I11_4 := rg (hvI 4 (by decide)) (0) (1800) rfl rfl
    have w_I11_6 := rg (hvI 6 (by decide)) (0) (5) rfl rfl
    refine lv_iadd hx hb dX12_cannots_21 ?_
    refine lv_topi (fun x15 ex15 => ?_)
    have fx15 : x15.toInt = x8.toInt + r9.toInt := by rw [ex15]; exact t_add (by show (-2147483648 : Int) ≤ x8.toInt + r9.toInt; omega) (by show x8.toInt + r9.toInt ≤ 2147483647; omega)
    refine lv_istore_n (lv' := [(1, .int x15), (0, .ref (g 45))]) hx hb dX12_cannots_22 rfl hl (by decide) rfl (fun ls hl => ?_)
    refine lv_aload_n hx hb dX12_cannots_23 rfl (lv_at hl 1 rfl) ?_
    refine wvi (As := []) (rest := []) (b := (g 45)) (d := 3) F hK hP hD hS hA (s_X12_dayHere l G g q I11 J12 R13 L14 hvI hvR   (by omega) (by omega) (by omega)) kmV_X12_dayHere mlX12_377 clX12 rfl 0 (Wm_at0 G g q I11 J12 R13 L14) ⟨(Nat.le_of_ble_eq_true rfl), (Nat.le_of_ble_eq_true rfl)⟩ hl.1 rfl (Nat.le_of_ble_eq_true rfl) dX12_cannots_24 (fun r16 u17 H locs hwr16 hP hD hS => ?_)
    obtain ⟨I18, J19, R20, L21⟩ := u17
    replace hP : va_P G.1 vwCl (Wm G g q I18 J19 R20 L21) H := hP
    replace hD : va_D A (Wm G g q I18 J19 R20 L21) := hD
    obtain ⟨hvI, hvR, tIr16, tRr16, F0r16, F1r16, F2r16, F3r16, F4r16, F5r16⟩ := hwr16
    replace F0r16 : ((0 : Int) ≤ r16.toInt ∧ r16.toInt ≤ (4 : Int)) := F0r16
    replace F1r16 : ((I18 3).toInt ≤ (I18 4).toInt) := F1r16
    replace F2r16 : ((I18 4).toInt ≤ (I11 1).toInt) := F2r16
    replace F3r16 : ((¬ (I18 2).toInt = 0) → (I18 3).toInt < (I18 4).toInt) := F3r16
    replace F4r16 : ((¬ (I11 6).toInt = 0) → (¬ (I18 6).toInt = 0)) := F4r16
    replace F5r16 : ((I11 3).toInt ≤ (I18 3).toInt) := F5r16
    replace hvI : InvI Wm_lo Wm_hi I18 := hvI
    replace hvR : InvR Wm_rl R20 := hvR
    replace tIr16 : SmF ([2, 3, 4, 5, 6, 7] : List Nat) I11 I18 := tIr16
    replace tRr16 : SmF ([] : List Nat) R13 R20 := tRr16
    have hv_I18 := hvI
    have hsI := smF_tr hsI tIr16 (by decide)
    have hsR := smF_tr hsR tRr16 (by decide)
    have u_I18_1 : (I18 1).toInt = (I11 1).toInt := congrArg Int32.toInt (tIr16 1 rfl)
    have w_I18_2 := rg (hvI 2 (by decide)) (0) (3) rfl rfl
    have w_I18_3 := rg (hvI 3 (by decide)) (0) (1800) rfl rfl
    have w_I18_4 := rg (hvI 4 (by decide)) (0) (1800) rfl rfl
    have w_I18_6 := rg (hvI 6 (by decide)) (0) (5) rfl rfl
    refine lv_istore_n (lv' := [(2, .int r16), (1, .int x15), (0, .ref (g 45))]) hx hb dX12_cannots_27 rfl hl (by decide) rfl (fun ls hl => ?_)
    refine lv_aload_n hx hb dX12_cannots_28 rfl (lv_at hl 2 rfl) ?_
    refine g_get F hK hP 0 (Wm_at0 G g q I18 J19 R20 L21) clX12 8 (by decide) flX12_36 rfl dX12_cannots_29 ?_
    have w_I18_6 := rg (hv_I18 6 (by decide)) (0) (5) rfl rfl
    refine lv_if_ne (tgt := 47) hx hb dX12_cannots_32 (by decide) (fun c22 => ?_) (fun c22 => ?_)
    · have gc22 : ¬ ((I18 6).toInt = 0) := fun q0 => c22 (Int32.toInt_inj.mp q0)
      rw [hQ]
      exact q_v F hr hlk (I18, J19, R20, L21) hP hD hS ⟨hvI, hvR, hsI, hsR, (show (((I18 6).toInt = 0 ∧ ¬ (I0 2).toInt = 0) → (I0 3).toInt < (I18 3).toInt) from by omega), (show ((I18 3).toInt ≤ (I18 4).toInt) from by omega), (show ((I18 4).toInt ≤ (I0 1).toInt) from by omega), (show ((¬ (I18 2).toInt = 0) → (I18 3).toInt < (I18 4).toInt) from by omega), (show ((¬ (I0 6).toInt = 0) → (¬ (I18 6).toInt = 0)) from by omega), (show ((I0 3).toInt ≤ (I18 3).toInt) from by omega)⟩ dX12_cannots_47 (Nat.le_of_ble_eq_true rfl) (Nat.le_of_ble_eq_true rfl)
    · have gc22 : (I18 6).toInt = 0 := congrArg Int32.toInt c22
      refine lv_aload_n hx hb dX12_cannots_35 rfl (lv_at hl 2 rfl) ?_
      refine g_get F hK hP 0 (Wm_at0 G g q I18 J19 R20 L21) clX12 25 (by decide) flX12_89 rfl dX12_cannots_36 ?_
      refine lv_iload_n hx hb dX12_cannots_39 rfl (lv_at hl 1 rfl) ?_
      refine lv_dup2_11 hx hb dX12_cannots_40 rfl rfl ?_
      refine g_iald F hK hP 14 (Wm_at14 G g q I18 J19 R20 L21) (in_of (by omega)) dX12_cannots_41 rfl ?_
      refine lv_topi (fun x23 ex23 => ?_)
      have gx23 : x23.toInt = (R0 10 (Int32.toNatClampNeg x15)).toInt := congrArg Int32.toInt ((((ex23).trans (congrFun (tRr16 10 rfl) _)).trans (congrFun (tRr9 10 rfl) _)).trans (congrFun (tRr1 10 rfl) _))
      refine lv_iconst (v := 1) hx hb dX12_cannots_42 (by decide) ?_
      refine lv_iload_n hx hb dX12_cannots_43 rfl (lv_at hl 0 rfl) ?_
      refine lv_ishl hx hb dX12_cannots_44 ?_
      refine lv_topi (fun x24 ex24 => ?_)
      refine lv_ior hx hb dX12_cannots_45 ?_
      refine lv_topi (fun x25 ex25 => ?_)
      refine p_row (W1 := fun y => Wm G g q I18 J19 y L21) (n := 10) F hK hP hD hS 14 (Wm_at14 G g q I18 J19 R20 L21) (in_of (by omega)) dX12_cannots_46 (Wm_rowR10 G g q I18 J19 R20 L21) (fun R26 H locs eR26 hP hD hS => ?_)
      have hvR : InvR Wm_rl R26 := inv_upR hvR 10 eR26 (upd_in (hvR 10 (by decide)) (full _))
      have hsR := smF_up hsR eR26 (by decide)
      rw [hQ]
      exact q_v F hr hlk (I18, J19, R26, L21) hP hD hS ⟨hvI, hvR, hsI, hsR, (show (((I18 6).toInt = 0 ∧ ¬ (I0 2).toInt = 0) → (I0 3).toInt < (I18 3).toInt) from by omega), (show ((I18 3).toInt ≤ (I18 4).toInt) from by omega), (show ((I18 4).toInt ≤ (I0 1).toInt) from by omega), (show ((¬ (I18 2).toInt = 0) → (I18 3).toInt < (I18 4).toInt) from by omega), (show ((¬ (I0 6).toInt = 0) → (¬ (I18 6).toInt = 0)) from by omega), (show ((I0 3).toInt ≤ (I18 3).toInt) from by omega)⟩ dX12_cannots_47 (Nat.le_of_ble_eq_true rfl) (Nat.le_of_ble_eq_true rfl)
  · have gc7 : r1.toInt = 0 := congrArg Int32.toInt c7
    rw [hQ]
    exact q_v F hr hlk (I3, J4, R5, L6) hP hD hS ⟨hvI, hvR, hsI, hsR, (show (((I3 6).toInt = 0 ∧ ¬ (I0 2).toInt = 0) → (I0 3).toInt < (I3 3).toInt) from by omega), (show ((I3 3).toInt ≤ (I3 4).toInt) from by omega), (show ((I3 4).toInt ≤ (I0 1).toInt) from by omega), (show ((¬ (I3 2).toInt = 0) → (I3 3).toInt < (I3 4).toInt) from by omega), (show ((¬ (I0 6).toInt = 0) → (¬ (I3 6).toInt = 0)) from by omega), (show ((I0 3).toInt ≤ (I3 3).toInt) from by omega)⟩ dX12_cannots_8 (Nat.le_of_ble_eq_true rfl) (Nat.le_of_ble_eq_true rfl)
set_option maxHeartbeats 4000000 in
set_option maxRecDepth 100000 in
theorem s_X12_number (l : Launch) (G : Gx) (g q : Nat → Nat) (I0 : Nat → Int32) (J0 : Nat → Int64) (R0 : Nat → Nat → Int32) (L0 : Nat → Nat → Int64) (hvI : InvI Wm_lo Wm_hi I0) (hvR : InvR Wm_rl R0)  (p1 : Int32) (p2 : Int32) (hp1 : ((0 : Int) ≤ p1.toInt ∧ p1.toInt ≤ (0 : Int))) (hp2 : ((4 : Int) ≤ p2.toInt ∧ p2.toInt ≤ (999 : Int))) (hpre0 : ((I0 3).toInt ≤ (I0 4).toInt)) (hpre1 : ((I0 4).toInt ≤ (I0 1).toInt)) (hpre2 : ((¬ (I0 2).toInt = 0) → (I0 3).toInt < (I0 4).toInt)) : CtI (S := St) l yX12_number cX12_number 4 (some .int) (rmD 3 0 0) G [.ref (g 45), .int p1, .int p2] (Wm G g q I0 J0 R0 L0) (fun r u => InvI Wm_lo Wm_hi u.1 ∧ InvR Wm_rl u.2.2.1 ∧ SmF ([2, 3, 4, 5, 6, 7] : List Nat) I0 u.1 ∧ SmF ([] : List Nat) R0 u.2.2.1 ∧ ((0 : Int) ≤ r.toInt ∧ r.toInt ≤ (9999 : Int)) ∧ ((u.1 3).toInt ≤ (u.1 4).toInt) ∧ ((u.1 4).toInt ≤ (I0 1).toInt) ∧ ((¬ (u.1 2).toInt = 0) → (u.1 3).toInt < (u.1 4).toInt) ∧ ((¬ (I0 6).toInt = 0) → (¬ (u.1 6).toInt = 0)) ∧ ((I0 3).toInt ≤ (u.1 3).toInt)) (fun u => Wm G g q u.1 u.2.1 u.2.2.1 u.2.2.2) := by
  refine ctI_of (own := RX12) (by decide +kernel) rfl (Nat.le_of_ble_eq_true rfl) ?_
  intro p e s m below meth c A ls F hr hlk hnm hK hP hD hA hS hl
  have hx := F.1
  have hb := F.2.1
  have hown := F.2.2.2.1
  have hl : lv_has ls 4 [(0, .ref (g 45)), (1, .int p1), (2, .int p2)] := hl
  obtain ⟨Q, hQ⟩ : ∃ Q : State → Prop, Q = MQ below (va_Qi (S := St) (fun r u => InvI Wm_lo Wm_hi u.1 ∧ InvR Wm_rl u.2.2.1 ∧ SmF ([2, 3, 4, 5, 6, 7] : List Nat) I0 u.1 ∧ SmF ([] : List Nat) R0 u.2.2.1 ∧ ((0 : Int) ≤ r.toInt ∧ r.toInt ≤ (9999 : Int)) ∧ ((u.1 3).toInt ≤ (u.1 4).toInt) ∧ ((u.1 4).toInt ≤ (I0 1).toInt) ∧ ((¬ (u.1 2).toInt = 0) → (u.1 3).toInt < (u.1 4).toInt) ∧ ((¬ (I0 6).toInt = 0) → (¬ (u.1 6).toInt = 0)) ∧ ((I0 3).toInt ≤ (u.1 3).toInt)) (BX G A (fun u => Wm G g q u.1 u.2.1 u.2.2.1 u.2.2.2)) A) [.ref (g 45), .int p1, .int p2].toArray s 0 0 A := ⟨_, rfl⟩
  rw [show (MQ below (va_Qi (S := St) (fun r u => InvI Wm_lo Wm_hi u.1 ∧ InvR Wm_rl u.2.2.1 ∧ SmF ([2, 3, 4, 5, 6, 7] : List Nat) I0 u.1 ∧ SmF ([] : List Nat) R0 u.2.2.1 ∧ ((0 : Int) ≤ r.toInt ∧ r.toInt ≤ (9999 : Int)) ∧ ((u.1 3).toInt ≤ (u.1 4).toInt) ∧ ((u.1 4).toInt ≤ (I0 1).toInt) ∧ ((¬ (u.1 2).toInt = 0) → (u.1 3).toInt < (u.1 4).toInt) ∧ ((¬ (I0 6).toInt = 0) → (¬ (u.1 6).toInt = 0)) ∧ ((I0 3).toInt ≤ (u.1 3).toInt)) (BX G A (fun u => Wm G g q u.1 u.2.1 u.2.2.1 u.2.2.2)) A) [.ref (g 45), .int p1, .int p2].toArray s (rmD 3 0 0).cells (rmD 3 0 0).slots A) = Q from hQ.symm]
  have hsI := smF_rf ([2, 3, 4, 5, 6, 7] : List Nat) I0
  have hsR := smF_rf ([] : List Nat) R0
  have hvI0 := hvI
  have lab_54 : ∀  (I_54 : Nat → Int32) (J_54 : Nat → Int64) (R_54 : Nat → Nat → Int32) (L_54 : Nat → Nat → Int64) (H : Heap) (locs : List Loc) (ls : Array Slot), InvI Wm_lo Wm_hi I_54 → InvR Wm_rl R_54 → SmF ([2, 3, 4, 5, 6, 7] : List Nat) I0 I_54 → SmF ([] : List Nat) R0 R_54 → ((I_54 3).toInt ≤ (I_54 4).toInt) → ((I_54 4).toInt ≤ (I0 1).toInt) → ((¬ (I_54 2).toInt = 0) → (I_54 3).toInt < (I_54 4).toInt) → ((¬ (I0 6).toInt = 0) → (¬ (I_54 6).toInt = 0)) → ((I0 3).toInt ≤ (I_54 3).toInt) → va_P G.1 vwCl (Wm G g q I_54 J_54 R_54 L_54) H → va_D A (Wm G g q I_54 J_54 R_54 L_54) → va_S A s.heap H locs → lv_has ls 4 [(0, .ref (g 45))] → W p l e (rmD 3 0 0) s m [.ref (g 45), .int p1, .int p2].toArray below meth c H locs 0 0 Q (F0 m 54 ls []) := by
    intro I_54 J_54 R_54 L_54 H locs ls hvI hvR hsI hsR z0_54 z1_54 z2_54 z3_54 z4_54 hP hD hS hl
    have hv_I_54 := hvI
    have w_I_54_1 := rg (hvI 1 (by decide)) (0) (1800) rfl rfl
    have v_I_54_1 : (I_54 1).toInt = (I0 1).toInt := congrArg Int32.toInt (hsI 1 rfl)
    have w_I_54_2 := rg (hvI 2 (by decide)) (0) (3) rfl rfl
    have w_I_54_3 := rg (hvI 3 (by decide)) (0) (1800) rfl rfl
    have w_I_54_4 := rg (hvI 4 (by decide)) (0) (1800) rfl rfl
    have w_I_54_6 := rg (hvI 6 (by decide)) (0) (5) rfl rfl
    refine lv_aload_n hx hb dX12_number_54 rfl (lv_at hl 0 rfl) ?_
    refine g_get F hK hP 0 (Wm_at0 G g q I_54 J_54 R_54 L_54) clX12 6 (by decide) flX12_29 rfl dX12_number_55 ?_
    have w_I_54_5 := rg (hv_I_54 5 (by decide)) (0) (9999) rfl rfl
    refine lv_istore_n (lv' := [(3, .int (I_54 5)), (0, .ref (g 45))]) hx hb dX12_number_58 rfl hl (by decide) rfl (fun ls hl => ?_)
    refine lv_aload_n hx hb dX12_number_59 rfl (lv_at hl 1 rfl) ?_
    refine g_get F hK hP 0 (Wm_at0 G g q I_54 J_54 R_54 L_54) clX12 8 (by decide) flX12_36 rfl dX12_number_60 ?_
    have w_I_54_6 := rg (hv_I_54 6 (by decide)) (0) (5) rfl rfl
    refine lv_if_ne (tgt := 70) hx hb dX12_number_63 (by decide) (fun c1 => ?_) (fun c1 => ?_)
    · have gc1 : ¬ ((I_54 6).toInt = 0) := fun q0 => c1 (Int32.toInt_inj.mp q0)
      refine lv_iload_n hx hb dX12_number_70 rfl (lv_at hl 0 rfl) ?_
      rw [hQ]
      exact q_i F hr hlk (I_54, J_54, R_54, L_54) hP hD hS ⟨hvI, hvR, hsI, hsR, (show ((0 : Int) ≤ (I_54 5).toInt ∧ (I_54 5).toInt ≤ (9999 : Int)) from by omega), (show ((I_54 3).toInt ≤ (I_54 4).toInt) from by omega), (show ((I_54 4).toInt ≤ (I0 1).toInt) from by omega), (show ((¬ (I_54 2).toInt = 0) → (I_54 3).toInt < (I_54 4).toInt) from by omega), (show ((¬ (I0 6).toInt = 0) → (¬ (I_54 6).toInt = 0)) from by omega), (show ((I0 3).toInt ≤ (I_54 3).toInt) from by omega)⟩ dX12_number_71 (Nat.le_of_ble_eq_true rfl) (Nat.le_of_ble_eq_true rfl)
    · have gc1 : (I_54 6).toInt = 0 := congrArg Int32.toInt c1
      refine lv_aload_n hx hb dX12_number_66 rfl (lv_at hl 1 rfl) ?_
      refine wvv (As := []) (rest := []) (b := (g 45)) (d := 2) F hK hP hD hS hA (s_X12_ahead l G g q I_54 J_54 R_54 L_54 hvI hvR   (by omega) (by omega) (by omega)) kmV_X12_ahead mlX12_247 clX12 rfl 0 (Wm_at0 G g q I_54 J_54 R_54 L_54) ⟨(Nat.le_of_ble_eq_true rfl), (Nat.le_of_ble_eq_true rfl)⟩ hl.1 rfl (Nat.le_of_ble_eq_true rfl) dX12_number_67 (fun u3 H locs hwr2 hP hD hS => ?_)
      obtain ⟨I4, J5, R6, L7⟩ := u3
      replace hP : va_P G.1 vwCl (Wm G g q I4 J5 R6 L7) H := hP
      replace hD : va_D A (Wm G g q I4 J5 R6 L7) := hD
      obtain ⟨hvI, hvR, tIr2, tRr2, F0r2, F1r2, F2r2, F3r2, F4r2, F5r2⟩ := hwr2
      replace F0r2 : ((I_54 4).toInt ≤ (I4 3).toInt) := F0r2
      replace F1r2 : ((I4 3).toInt ≤ (I4 4).toInt) := F1r2
      replace F2r2 : ((I4 4).toInt ≤ (I_54 1).toInt) := F2r2
      replace F3r2 : ((¬ (I4 2).toInt = 0) → (I4 3).toInt < (I4 4).toInt) := F3r2
      replace F4r2 : ((¬ (I_54 6).toInt = 0) → (¬ (I4 6).toInt = 0)) := F4r2
      replace F5r2 : ((I_54 3).toInt ≤ (I4 3).toInt) := F5r2
      replace hvI : InvI Wm_lo Wm_hi I4 := hvI
      replace hvR : InvR Wm_rl R6 := hvR
      replace tIr2 : SmF ([2, 3, 4, 5, 6, 7] : List Nat) I_54 I4 := tIr2
      replace tRr2 : SmF ([] : List Nat) R_54 R6 := tRr2
      have hv_I4 := hvI
      have hsI := smF_tr hsI tIr2 (by decide)
      have hsR := smF_tr hsR tRr2 (by decide)
      have u_I4_1 : (I4 1).toInt = (I_54 1).toInt := congrArg Int32.toInt (tIr2 1 rfl)
      have w_I4_2 := rg (hvI 2 (by decide)) (0) (3) rfl rfl
      have w_I4_3 := rg (hvI 3 (by decide)) (0) (1800) rfl rfl
      have w_I4_4 := rg (hvI 4 (by decide)) (0) (1800) rfl rfl
      have w_I4_6 := rg (hvI 6 (by decide)) (0) (5) rfl rfl
      refine lv_iload_n hx hb dX12_number_70 rfl (lv_at hl 0 rfl) ?_
      rw [hQ]
      exact q_i F hr hlk (I4, J5, R6, L7) hP hD hS ⟨hvI, hvR, hsI, hsR, (show ((0 : Int) ≤ (I_54 5).toInt ∧ (I_54 5).toInt ≤ (9999 : Int)) from by omega), (show ((I4 3).toInt ≤ (I4 4).toInt) from by omega), (show ((I4 4).toInt ≤ (I0 1).toInt) from by omega), (show ((¬ (I4 2).toInt = 0) → (I4 3).toInt < (I4 4).toInt) from by omega), (show ((¬ (I0 6).toInt = 0) → (¬ (I4 6).toInt = 0)) from by omega), (show ((I0 3).toInt ≤ (I4 3).toInt) from by omega)⟩ dX12_number_71 (Nat.le_of_ble_eq_true rfl) (Nat.le_of_ble_eq_true rfl)
  have lab_26 : ∀  (I_26 : Nat → Int32) (J_26 : Nat → Int64) (R_26 : Nat → Nat → Int32) (L_26 : Nat → Nat → Int64) (H : Heap) (locs : List Loc) (ls : Array Slot), InvI Wm_lo Wm_hi I_26 → InvR Wm_rl R_26 → SmF ([2, 3, 4, 5, 6, 7] : List Nat) I0 I_26 → SmF ([] : List Nat) R0 R_26 → ((I_26 3).toInt ≤ (I_26 4).toInt) → ((I_26 4).toInt ≤ (I0 1).toInt) → ((¬ (I_26 2).toInt = 0) → (I_26 3).toInt < (I_26 4).toInt) → ((¬ (I0 6).toInt = 0) → (¬ (I_26 6).toInt = 0)) → ((I0 3).toInt ≤ (I_26 3).toInt) → va_P G.1 vwCl (Wm G g q I_26 J_26 R_26 L_26) H → va_D A (Wm G g q I_26 J_26 R_26 L_26) → va_S A s.heap H locs → lv_has ls 4 [(0, .ref (g 45)), (1, .int p1), (2, .int p2)] → W p l e (rmD 3 0 0) s m [.ref (g 45), .int p1, .int p2].toArray below meth c H locs 0 0 Q (F0 m 26 ls []) := by
    intro I_26 J_26 R_26 L_26 H locs ls hvI hvR hsI hsR z0_26 z1_26 z2_26 z3_26 z4_26 hP hD hS hl
    have hv_I_26 := hvI
    have w_I_26_1 := rg (hvI 1 (by decide)) (0) (1800) rfl rfl
    have v_I_26_1 : (I_26 1).toInt = (I0 1).toInt := congrArg Int32.toInt (hsI 1 rfl)
    have w_I_26_2 := rg (hvI 2 (by decide)) (0) (3) rfl rfl
    have w_I_26_3 := rg (hvI 3 (by decide)) (0) (1800) rfl rfl
    have w_I_26_4 := rg (hvI 4 (by decide)) (0) (1800) rfl rfl
    have w_I_26_6 := rg (hvI 6 (by decide)) (0) (5) rfl rfl
    refine lv_aload_n hx hb dX12_number_26 rfl (lv_at hl 0 rfl) ?_
    refine g_get F hK hP 0 (Wm_at0 G g q I_26 J_26 R_26 L_26) clX12 8 (by decide) flX12_36 rfl dX12_number_27 ?_
    have w_I_26_6 := rg (hv_I_26 6 (by decide)) (0) (5) rfl rfl
    refine lv_if_ne (tgt := 54) hx hb dX12_number_30 (by decide) (fun c8 => ?_) (fun c8 => ?_)
    · have gc8 : ¬ ((I_26 6).toInt = 0) := fun q0 => c8 (Int32.toInt_inj.mp q0)
      exact lab_54  I_26 J_26 R_26 L_26 _ _ _ hvI hvR hsI hsR (show ((I_26 3).toInt ≤ (I_26 4).toInt) from by omega) (show ((I_26 4).toInt ≤ (I0 1).toInt) from by omega) (show ((¬ (I_26 2).toInt = 0) → (I_26 3).toInt < (I_26 4).toInt) from by omega) (show ((¬ (I0 6).toInt = 0) → (¬ (I_26 6).toInt = 0)) from by omega) (show ((I0 3).toInt ≤ (I_26 3).toInt) from by omega) hP hD hS (lv_sub hl [0] rfl)
    · have gc8 : (I_26 6).toInt = 0 := congrArg Int32.toInt c8
      refine lv_aload_n hx hb dX12_number_33 rfl (lv_at hl 0 rfl) ?_
      refine g_get F hK hP 0 (Wm_at0 G g q I_26 J_26 R_26 L_26) clX12 6 (by decide) flX12_29 rfl dX12_number_34 ?_
      have w_I_26_5 := rg (hv_I_26 5 (by decide)) (0) (9999) rfl rfl
      refine lv_iload_n hx hb dX12_number_37 rfl (lv_at hl 1 rfl) ?_
      refine lv_iload_n hx hb dX12_number_38 rfl (lv_at hl 2 rfl) ?_
      refine w0i (As := [.int (I_26 5), .int p1, .int p2]) (rest := []) (d := 1) F hK hP hD hS hA (s_X12_is l G  ((I_26 5)) p1 p2 (show ((0 : Int) ≤ p1.toInt ∧ p1.toInt ≤ (1 : Int)) from by omega) (show ((-1 : Int) ≤ p2.toInt ∧ p2.toInt ≤ (2000 : Int)) from by omega)) kmS_X12_is mlX12_316 ⟨(Nat.le_of_ble_eq_true rfl), (Nat.le_of_ble_eq_true rfl)⟩ hl.1 rfl (Nat.le_of_ble_eq_true rfl) dX12_number_39 (fun r9 u10 H locs hwr9 hP hD hS => ?_)
      obtain ⟨F0r9, F1r9⟩ := hwr9
      replace F0r9 : ((0 : Int) ≤ r9.toInt ∧ r9.toInt ≤ (1 : Int)) := F0r9
      replace F1r9 : (r9.toInt = 1 → (p1.toInt ≤ (I_26 5).toInt ∧ (I_26 5).toInt ≤ p2.toInt)) := F1r9
      refine lv_if_ne (tgt := 54) hx hb dX12_number_42 (by decide) (fun c11 => ?_) (fun c11 => ?_)
      · have gc11 : ¬ (r9.toInt = 0) := fun q0 => c11 (Int32.toInt_inj.mp q0)
        exact lab_54  I_26 J_26 R_26 L_26 _ _ _ hvI hvR hsI hsR (show ((I_26 3).toInt ≤ (I_26 4).toInt) from by omega) (show ((I_26 4).toInt ≤ (I0 1).toInt) from by omega) (show ((¬ (I_26 2).toInt = 0) → (I_26 3).toInt < (I_26 4).toInt) from by omega) (show ((¬ (I0 6).toInt = 0) → (¬ (I_26 6).toInt = 0)) from by omega) (show ((I0 3).toInt ≤ (I_26 3).toInt) from by omega) hP hD hS (lv_sub hl [0] rfl)
      · have gc11 : r9.toInt = 0 := congrArg Int32.toInt c11
        refine lv_aload_n hx hb dX12_number_45 rfl (lv_at hl 0 rfl) ?_
        refine lv_iconst (v := 4) hx hb dX12_number_46 (by decide) ?_
        refine lv_aload_n hx hb dX12_number_47 rfl (lv_at hl 0 rfl) ?_
        refine g_get F hK hP 0 (Wm_at0 G g q I_26 J_26 R_26 L_26) clX12 4 (by decide) flX12_23 rfl dX12_number_48 ?_
        have w_I_26_3 := rg (hv_I_26 3 (by decide)) (0) (1800) rfl rfl
        refine wvv (As := [.int 4, .int (I_26 3)]) (rest := []) (b := (g 45)) (d := 1) F hK hP hD hS hA (s_X12_blame l G g q I_26 J_26 R_26 L_26 hvI hvR  4 ((I_26 3)) (by decide) (show ((0 : Int) ≤ (I_26 3).toInt ∧ (I_26 3).toInt ≤ (1800 : Int)) from by omega)) kmV_X12_blame mlX12_240 clX12 rfl 0 (Wm_at0 G g q I_26 J_26 R_26 L_26) ⟨(Nat.le_of_ble_eq_true rfl), (Nat.le_of_ble_eq_true rfl)⟩ hl.1 rfl (Nat.le_of_ble_eq_true rfl) dX12_number_51 (fun u13 H locs hwr12 hP hD hS => ?_)
        obtain ⟨I14, J15, R16, L17⟩ := u13
        replace hP : va_P G.1 vwCl (Wm G g q I14 J15 R16 L17) H := hP
        replace hD : va_D A (Wm G g q I14 J15 R16 L17) := hD
        obtain ⟨hvI, hvR, tIr12, tRr12, F0r12⟩ := hwr12
        replace F0r12 : (¬ (I14 6).toInt = 0) := F0r12
        replace hvI : InvI Wm_lo Wm_hi I14 := hvI
        replace hvR : InvR Wm_rl R16 := hvR
        replace tIr12 : SmF ([6, 7] : List Nat) I_26 I14 := tIr12
        replace tRr12 : SmF ([] : List Nat) R_26 R16 := tRr12
        have hv_I14 := hvI
        have hsI := smF_tr hsI tIr12 (by decide)
        have hsR := smF_tr hsR tRr12 (by decide)
        have u_I14_1 : (I14 1).toInt = (I_26 1).toInt := congrArg Int32.toInt (tIr12 1 rfl)
        have u_I14_2 : (I14 2).toInt = (I_26 2).toInt := congrArg Int32.toInt (tIr12 2 rfl)
        have u_I14_3 : (I14 3).toInt = (I_26 3).toInt := congrArg Int32.toInt (tIr12 3 rfl)
        have u_I14_4 : (I14 4).toInt = (I_26 4).toInt := congrArg Int32.toInt (tIr12 4 rfl)
        have w_I14_6 := rg (hvI 6 (by decide)) (0) (5) rfl rfl
        exact lab_54  I14 J15 R16 L17 _ _ _ hvI hvR hsI hsR (show ((I14 3).toInt ≤ (I14 4).toInt) from by omega) (show ((I14 4).toInt ≤ (I0 1).toInt) from by omega) (show ((¬ (I14 2).toInt = 0) → (I14 3).toInt < (I14 4).toInt) from by omega) (show ((¬ (I0 6).toInt = 0) → (¬ (I14 6).toInt = 0)) from by omega) (show ((I0 3).toInt ≤ (I14 3).toInt) from by omega) hP hD hS (lv_sub hl [0] rfl)
  have w_I0_1 := rg (hvI 1 (by decide)) (0) (1800) rfl rfl
  have w_I0_2 := rg (hvI 2 (by decide)) (0) (3) rfl rfl
  have w_I0_3 := rg (hvI 3 (by decide)) (0) (1800) rfl rfl
  have w_I0_4 := rg (hvI 4 (by decide)) (0) (1800) rfl rfl
  have w_I0_6 := rg (hvI 6 (by decide)) (0) (5) rfl rfl
  refine lv_aload_n hx hb dX12_number_0 rfl (lv_at hl 0 rfl) ?_
  refine g_get F hK hP 0 (Wm_at0 G g q I0 J0 R0 L0) clX12 8 (by decide) flX12_36 rfl dX12_number_1 ?_
  have w_I0_6 := rg (hvI0 6 (by decide)) (0) (5) rfl rfl
  refine lv_if_le (tgt := 9) hx hb dX12_number_4 (by decide) (fun c18 => ?_) (fun c18 => ?_)
  · have gc18 : (I0 6).toInt ≤ 0 := (tle _ _).mp c18
    refine lv_aload_n hx hb dX12_number_9 rfl (lv_at hl 0 rfl) ?_
    refine g_get F hK hP 0 (Wm_at0 G g q I0 J0 R0 L0) clX12 3 (by decide) flX12_20 rfl dX12_number_10 ?_
    have w_I0_2 := rg (hvI0 2 (by decide)) (0) (3) rfl rfl
    refine lv_iconst (v := 2) hx hb dX12_number_13 (by decide) ?_
    refine lv_icmp_eq (tgt := 26) hx hb dX12_number_14 (by decide) (fun c19 => ?_) (fun c19 => ?_)
    · have gc19 : (I0 2).toInt = 2 := congrArg Int32.toInt c19
      exact lab_26  I0 J0 R0 L0 _ _ _ hvI hvR hsI hsR (show ((I0 3).toInt ≤ (I0 4).toInt) from by omega) (show ((I0 4).toInt ≤ (I0 1).toInt) from by omega) (show ((¬ (I0 2).toInt = 0) → (I0 3).toInt < (I0 4).toInt) from by omega) (show ((¬ (I0 6).toInt = 0) → (¬ (I0 6).toInt = 0)) from by omega) (show ((I0 3).toInt ≤ (I0 3).toInt) from by omega) hP hD hS (lv_sub hl [0, 1, 2] rfl)
    · have gc19 : ¬ ((I0 2).toInt = 2) := fun q0 => c19 (Int32.toInt_inj.mp q0)
      refine lv_aload_n hx hb dX12_number_17 rfl (lv_at hl 0 rfl) ?_
      refine lv_iconst (v := 1) hx hb dX12_number_18 (by decide) ?_
      refine lv_aload_n hx hb dX12_number_19 rfl (lv_at hl 0 rfl) ?_
      refine g_get F hK hP 0 (Wm_at0 G g q I0 J0 R0 L0) clX12 4 (by decide) flX12_23 rfl dX12_number_20 ?_
      have w_I0_3 := rg (hvI0 3 (by decide)) (0) (1800) rfl rfl
      refine wvv (As := [.int 1, .int (I0 3)]) (rest := []) (b := (g 45)) (d := 1) F hK hP hD hS hA (s_X12_blame l G g q I0 J0 R0 L0 hvI hvR  1 ((I0 3)) (by decide) (show ((0 : Int) ≤ (I0 3).toInt ∧ (I0 3).toInt ≤ (1800 : Int)) from by omega)) kmV_X12_blame mlX12_240 clX12 rfl 0 (Wm_at0 G g q I0 J0 R0 L0) ⟨(Nat.le_of_ble_eq_true rfl), (Nat.le_of_ble_eq_true rfl)⟩ hl.1 rfl (Nat.le_of_ble_eq_true rfl) dX12_number_23 (fun u21 H locs hwr20 hP hD hS => ?_)
      obtain ⟨I22, J23, R24, L25⟩ := u21
      replace hP : va_P G.1 vwCl (Wm G g q I22 J23 R24 L25) H := hP
      replace hD : va_D A (Wm G g q I22 J23 R24 L25) := hD
      obtain ⟨hvI, hvR, tIr20, tRr20, F0r20⟩ := hwr20
      replace F0r20 : (¬ (I22 6).toInt = 0) := F0r20
      replace hvI : InvI Wm_lo Wm_hi I22 := hvI
      replace hvR : InvR Wm_rl R24 := hvR
      replace tIr20 : SmF ([6, 7] : List Nat) I0 I22 := tIr20
      replace tRr20 : SmF ([] : List Nat) R0 R24 := tRr20
      have hv_I22 := hvI
      have hsI := smF_tr hsI tIr20 (by decide)
      have hsR := smF_tr hsR tRr20 (by decide)
      have u_I22_1 : (I22 1).toInt = (I0 1).toInt := congrArg Int32.toInt (tIr20 1 rfl)
      have u_I22_2 : (I22 2).toInt = (I0 2).toInt := congrArg Int32.toInt (tIr20 2 rfl)
      have u_I22_3 : (I22 3).toInt = (I0 3).toInt := congrArg Int32.toInt (tIr20 3 rfl)
      have u_I22_4 : (I22 4).toInt = (I0 4).toInt := congrArg Int32.toInt (tIr20 4 rfl)
      have w_I22_6 := rg (hvI 6 (by decide)) (0) (5) rfl rfl
      exact lab_26  I22 J23 R24 L25 _ _ _ hvI hvR hsI hsR (show ((I22 3).toInt ≤ (I22 4).toInt) from by omega) (show ((I22 4).toInt ≤ (I0 1).toInt) from by omega) (show ((¬ (I22 2).toInt = 0) → (I22 3).toInt < (I22 4).toInt) from by omega) (show ((¬ (I0 6).toInt = 0) → (¬ (I22 6).toInt = 0)) from by omega) (show ((I0 3).toInt ≤ (I22 3).toInt) from by omega) hP hD hS (lv_sub hl [0, 1, 2] rfl)
  · have gc18 : ¬ ((I0 6).toInt ≤ 0) := fun q0 => c18 ((tle _ _).mpr q0)
    refine lv_iconst (v := 0) hx hb dX12_number_7 (by decide) ?_
    rw [hQ]
    exact q_i F hr hlk (I0, J0, R0, L0) hP hD hS ⟨hvI, hvR, hsI, hsR, (show ((0 : Int) ≤ 0 ∧ 0 ≤ (9999 : Int)) from by omega), (show ((I0 3).toInt ≤ (I0 4).toInt) from by omega), (show ((I0 4).toInt ≤ (I0 1).toInt) from by omega), (show ((¬ (I0 2).toInt = 0) → (I0 3).toInt < (I0 4).toInt) from by omega), (show ((¬ (I0 6).toInt = 0) → (¬ (I0 6).toInt = 0)) from by omega), (show ((I0 3).toInt ≤ (I0 3).toInt) from by omega)⟩ dX12_number_8 (Nat.le_of_ble_eq_true rfl) (Nat.le_of_ble_eq_true rfl)
set_option maxHeartbeats 4000000 in
set_option maxRecDepth 100000 in
theorem s_X12_coming (l : Launch) (G : Gx) (g q : Nat → Nat) (I0 : Nat → Int32) (J0 : Nat → Int64) (R0 : Nat → Nat → Int32) (L0 : Nat → Nat → Int64) (hvI : InvI Wm_lo Wm_hi I0) (hvR : InvR Wm_rl R0)   (hpre0 : ((I0 3).toInt ≤ (I0 4).toInt)) (hpre1 : ((I0 4).toInt ≤ (I0 1).toInt)) (hpre2 : ((¬ (I0 2).toInt = 0) → (I0 3).toInt < (I0 4).toInt)) : CtV (S := St) l yX12_coming cX12_coming 3 none (rmD 4 0 0) G [.ref (g 45)] (Wm G g q I0 J0 R0 L0) (fun u => InvI Wm_lo Wm_hi u.1 ∧ InvR Wm_rl u.2.2.1 ∧ SmF ([2, 3, 4, 5, 6, 7] : List Nat) I0 u.1 ∧ SmF ([12] : List Nat) R0 u.2.2.1 ∧ (((u.1 6).toInt = 0 ∧ ¬ (I0 2).toInt = 0) → (I0 3).toInt < (u.1 3).toInt) ∧ ((u.1 3).toInt ≤ (u.1 4).toInt) ∧ ((u.1 4).toInt ≤ (I0 1).toInt) ∧ ((¬ (u.1 2).toInt = 0) → (u.1 3).toInt < (u.1 4).toInt) ∧ ((¬ (I0 6).toInt = 0) → (¬ (u.1 6).toInt = 0)) ∧ ((I0 3).toInt ≤ (u.1 3).toInt)) (fun u => Wm G g q u.1 u.2.1 u.2.2.1 u.2.2.2) := by
  refine ctV_of (own := RX12) (by decide +kernel) rfl (Nat.le_of_ble_eq_true rfl) ?_
  intro p e s m below meth c A ls F hr hlk hnm hK hP hD hA hS hl
  have hx := F.1
  have hb := F.2.1
  have hown := F.2.2.2.1
  have hl : lv_has ls 3 [(0, .ref (g 45))] := hl
  obtain ⟨Q, hQ⟩ : ∃ Q : State → Prop, Q = MQ below (va_Qv (S := St) (fun u => InvI Wm_lo Wm_hi u.1 ∧ InvR Wm_rl u.2.2.1 ∧ SmF ([2, 3, 4, 5, 6, 7] : List Nat) I0 u.1 ∧ SmF ([12] : List Nat) R0 u.2.2.1 ∧ (((u.1 6).toInt = 0 ∧ ¬ (I0 2).toInt = 0) → (I0 3).toInt < (u.1 3).toInt) ∧ ((u.1 3).toInt ≤ (u.1 4).toInt) ∧ ((u.1 4).toInt ≤ (I0 1).toInt) ∧ ((¬ (u.1 2).toInt = 0) → (u.1 3).toInt < (u.1 4).toInt) ∧ ((¬ (I0 6).toInt = 0) → (¬ (u.1 6).toInt = 0)) ∧ ((I0 3).toInt ≤ (u.1 3).toInt)) (BX G A (fun u => Wm G g q u.1 u.2.1 u.2.2.1 u.2.2.2)) A) [.ref (g 45)].toArray s 0 0 A := ⟨_, rfl⟩
  rw [show (MQ below (va_Qv (S := St) (fun u => InvI Wm_lo Wm_hi u.1 ∧ InvR Wm_rl u.2.2.1 ∧ SmF ([2, 3, 4, 5, 6, 7] : List Nat) I0 u.1 ∧ SmF ([12] : List Nat) R0 u.2.2.1 ∧ (((u.1 6).toInt = 0 ∧ ¬ (I0 2).toInt = 0) → (I0 3).toInt < (u.1 3).toInt) ∧ ((u.1 3).toInt ≤ (u.1 4).toInt) ∧ ((u.1 4).toInt ≤ (I0 1).toInt) ∧ ((¬ (u.1 2).toInt = 0) → (u.1 3).toInt < (u.1 4).toInt) ∧ ((¬ (I0 6).toInt = 0) → (¬ (u.1 6).toInt = 0)) ∧ ((I0 3).toInt ≤ (u.1 3).toInt)) (BX G A (fun u => Wm G g q u.1 u.2.1 u.2.2.1 u.2.2.2)) A) [.ref (g 45)].toArray s (rmD 4 0 0).cells (rmD 4 0 0).slots A) = Q from hQ.symm]
  have hsI := smF_rf ([2, 3, 4, 5, 6, 7] : List Nat) I0
  have hsR := smF_rf ([12] : List Nat) R0
  have hvI0 := hvI
  have w_I0_1 := rg (hvI 1 (by decide)) (0) (1800) rfl rfl
  have w_I0_2 := rg (hvI 2 (by decide)) (0) (3) rfl rfl
  have w_I0_3 := rg (hvI 3 (by decide)) (0) (1800) rfl rfl
  have w_I0_4 := rg (hvI 4 (by decide)) (0) (1800) rfl rfl
  have w_I0_6 := rg (hvI 6 (by decide)) (0) (5) rfl rfl
  refine lv_aload_n hx hb dX12_coming_0 rfl (lv_at hl 0 rfl) ?_
  refine lv_iconst (v := 0) hx hb dX12_coming_1 (by decide) ?_
  refine wvi (As := [.int 0]) (rest := []) (b := (g 45)) (d := 3) F hK hP hD hS hA (s_X12_counts l G g q I0 J0 R0 L0 hvI hvR  0 (by decide) (by omega) (by omega) (by omega)) kmV_X12_counts mlX12_358 clX12 rfl 0 (Wm_at0 G g q I0 J0 R0 L0) ⟨(Nat.le_of_ble_eq_true rfl), (Nat.le_of_ble_eq_true rfl)⟩ hl.1 rfl (Nat.le_of_ble_eq_true rfl) dX12_coming_2 (fun r1 u2 H locs hwr1 hP hD hS => ?_)
  obtain ⟨I3, J4, R5, L6⟩ := u2
  replace hP : va_P G.1 vwCl (Wm G g q I3 J4 R5 L6) H := hP
  replace hD : va_D A (Wm G g q I3 J4 R5 L6) := hD
  obtain ⟨hvI, hvR, tIr1, tRr1, F0r1, F1r1, F2r1, F3r1, F4r1, F5r1, F6r1⟩ := hwr1
  replace F0r1 : ((0 : Int) ≤ r1.toInt ∧ r1.toInt ≤ (1 : Int)) := F0r1
  replace F1r1 : ((r1.toInt = 1 ∧ 0 = 0 ∧ (I3 6).toInt = 0 ∧ (I0 4).toInt ≤ (I3 3).toInt) ∨ (r1.toInt = 0 ∧ ¬ (I3 6).toInt = 0)) := F1r1
  replace F2r1 : ((I3 3).toInt ≤ (I3 4).toInt) := F2r1
  replace F3r1 : ((I3 4).toInt ≤ (I0 1).toInt) := F3r1
  replace F4r1 : ((¬ (I3 2).toInt = 0) → (I3 3).toInt < (I3 4).toInt) := F4r1
  replace F5r1 : ((¬ (I0 6).toInt = 0) → (¬ (I3 6).toInt = 0)) := F5r1
  replace F6r1 : ((I0 3).toInt ≤ (I3 3).toInt) := F6r1
  replace hvI : InvI Wm_lo Wm_hi I3 := hvI
  replace hvR : InvR Wm_rl R5 := hvR
  replace tIr1 : SmF ([2, 3, 4, 5, 6, 7] : List Nat) I0 I3 := tIr1
  replace tRr1 : SmF ([] : List Nat) R0 R5 := tRr1
  have hv_I3 := hvI
  have hsI := smF_tr hsI tIr1 (by decide)
  have hsR := smF_tr hsR tRr1 (by decide)
  have u_I3_1 : (I3 1).toInt = (I0 1).toInt := congrArg Int32.toInt (tIr1 1 rfl)
  have w_I3_2 := rg (hvI 2 (by decide)) (0) (3) rfl rfl
  have w_I3_3 := rg (hvI 3 (by decide)) (0) (1800) rfl rfl
  have w_I3_4 := rg (hvI 4 (by decide)) (0) (1800) rfl rfl
  have w_I3_6 := rg (hvI 6 (by decide)) (0) (5) rfl rfl
  refine lv_if_ne (tgt := 9) hx hb dX12_coming_5 (by decide) (fun c7 => ?_) (fun c7 => ?_)
  · have gc7 : ¬ (r1.toInt = 0) := fun q0 => c7 (Int32.toInt_inj.mp q0)
    refine lv_bipush (v := 12) hx hb dX12_coming_9 (by decide) ?_
    refine lv_aload_n hx hb dX12_coming_11 rfl (lv_at hl 0 rfl) ?_
    refine g_get F hK hP 0 (Wm_at0 G g q I3 J4 R5 L6) clX12 44 (by decide) flX12_146 rfl dX12_coming_12 ?_
    refine cst_i (hsI 12 rfl) ?_
    have w_I0_12 := rg (hvI0 12 (by decide)) (0) (1) rfl rfl
    refine lv_imul hx hb dX12_coming_15 ?_
    refine lv_topi (fun x8 ex8 => ?_)
    have fx8 : x8.toInt = 12 * (I0 12).toInt := by rw [ex8]; exact t_mul (by show (-2147483648 : Int) ≤ 12 * (I0 12).toInt; omega) (by show 12 * (I0 12).toInt ≤ 2147483647; omega)
    refine lv_aload_n hx hb dX12_coming_16 rfl (lv_at hl 0 rfl) ?_
    refine lv_iconst (v := 2) hx hb dX12_coming_17 (by decide) ?_
    refine wvi (As := [.int 2]) (rest := [.int x8]) (b := (g 45)) (d := 3) F hK hP hD hS hA (s_X12_asked l G g q I3 J4 R5 L6 hvI hvR  2 (by decide) (by omega) (by omega) (by omega)) kmV_X12_asked mlX12_374 clX12 rfl 0 (Wm_at0 G g q I3 J4 R5 L6) ⟨(Nat.le_of_ble_eq_true rfl), (Nat.le_of_ble_eq_true rfl)⟩ hl.1 rfl (Nat.le_of_ble_eq_true rfl) dX12_coming_18 (fun r9 u10 H locs hwr9 hP hD hS => ?_)
    obtain ⟨I11, J12, R13, L14⟩ := u10
    replace hP : va_P G.1 vwCl (Wm G g q I11 J12 R13 L14) H := hP
    replace hD : va_D A (Wm G g q I11 J12 R13 L14) := hD
    obtain ⟨hvI, hvR, tIr9, tRr9, F0r9, F1r9, F2r9, F3r9, F4r9, F5r9, F6r9, F7r9⟩ := hwr9
    replace F0r9 : ((0 : Int) ≤ r9.toInt ∧ r9.toInt ≤ (11 : Int)) := F0r9
    replace F1r9 : (2 = 0 → r9.toInt ≤ 4) := F1r9
    replace F2r9 : (2 = 1 → r9.toInt ≤ 5) := F2r9
    replace F3r9 : ((I11 3).toInt ≤ (I11 4).toInt) := F3r9
    replace F4r9 : ((I11 4).toInt ≤ (I3 1).toInt) := F4r9
    replace F5r9 : ((¬ (I11 2).toInt = 0) → (I11 3).toInt < (I11 4).toInt) := F5r9
    replace F6r9 : ((¬ (I3 6).toInt = 0) → (¬ (I11 6).toInt = 0)) := F6r9
    replace F7r9 : ((I3 3).toInt ≤ (I11 3).toInt) := F7r9
    replace hvI : InvI Wm_lo Wm_hi I11 := hvI
    replace hvR : InvR Wm_rl R13 := hvR
    replace tIr9 : SmF ([2, 3, 4, 5, 6, 7] : List Nat) I3 I11 := tIr9
    replace tRr9 : SmF ([] : List Nat) R5 R13 := tRr9
    have hv_I11 := hvI
    have hsI := smF_tr hsI tIr9 (by decide)
    have hsR := smF_tr hsR tRr9 (by decide)
    have u_I11_1 : (I11 1).toInt = (I3 1).toInt := congrArg Int32.toInt (tIr9 1 rfl)
    have w_I11_2 := rg (hvI 2 (by decide)) (0) (3) rfl rfl
    have w_I11_3 := rg (hvI 3 (by decide)) (0) (1800) rfl rfl
    have w_I11_4 := rg (hvI 4 (by decide)) (0) (1800) rfl rfl
    have w_I11_6 := rg (hvI 6 (by decide)) (0) (5) rfl rfl
    refine lv_iadd hx hb dX12_coming_21 ?_
    refine lv_topi (fun x15 ex15 => ?_)
    have fx15 : x15.toInt = x8.toInt + r9.toInt := by rw [ex15]; exact t_add (by show (-2147483648 : Int) ≤ x8.toInt + r9.toInt; omega) (by show x8.toInt + r9.toInt ≤ 2147483647; omega)
    refine lv_istore_n (lv' := [(1, .int x15), (0, .ref (g 45))]) hx hb dX12_coming_22 rfl hl (by decide) rfl (fun ls hl => ?_)
    refine lv_aload_n hx hb dX12_coming_23 rfl (lv_at hl 1 rfl) ?_
    refine lv_iconst (v := 0) hx hb dX12_coming_24 (by decide) ?_
    refine lv_bipush (v := 100) hx hb dX12_coming_25 (by decide) ?_
    refine wvi (As := [.int 0, .int 100]) (rest := []) (b := (g 45)) (d := 3) F hK hP hD hS hA (s_X12_number l G g q I11 J12 R13 L14 hvI hvR  0 100 (by decide) (by decide) (by omega) (by omega) (by omega)) kmV_X12_number mlX12_370 clX12 rfl 0 (Wm_at0 G g q I11 J12 R13 L14) ⟨(Nat.le_of_ble_eq_true rfl), (Nat.le_of_ble_eq_true rfl)⟩ hl.1 rfl (Nat.le_of_ble_eq_true rfl) dX12_coming_27 (fun r16 u17 H locs hwr16 hP hD hS => ?_)
    obtain ⟨I18, J19, R20, L21⟩ := u17
    replace hP : va_P G.1 vwCl (Wm G g q I18 J19 R20 L21) H := hP
    replace hD : va_D A (Wm G g q I18 J19 R20 L21) := hD
    obtain ⟨hvI, hvR, tIr16, tRr16, F0r16, F1r16, F2r16, F3r16, F4r16, F5r16⟩ := hwr16
    replace F0r16 : ((0 : Int) ≤ r16.toInt ∧ r16.toInt ≤ (9999 : Int)) := F0r16
    replace F1r16 : ((I18 3).toInt ≤ (I18 4).toInt) := F1r16
    replace F2r16 : ((I18 4).toInt ≤ (I11 1).toInt) := F2r16
    replace F3r16 : ((¬ (I18 2).toInt = 0) → (I18 3).toInt < (I18 4).toInt) := F3r16
    replace F4r16 : ((¬ (I11 6).toInt = 0) → (¬ (I18 6).toInt = 0)) := F4r16
    replace F5r16 : ((I11 3).toInt ≤ (I18 3).toInt) := F5r16
    replace hvI : InvI Wm_lo Wm_hi I18 := hvI
    replace hvR : InvR Wm_rl R20 := hvR
    replace tIr16 : SmF ([2, 3, 4, 5, 6, 7] : List Nat) I11 I18 := tIr16
    replace tRr16 : SmF ([] : List Nat) R13 R20 := tRr16
    have hv_I18 := hvI
    have hsI := smF_tr hsI tIr16 (by decide)
    have hsR := smF_tr hsR tRr16 (by decide)
    have u_I18_1 : (I18 1).toInt = (I11 1).toInt := congrArg Int32.toInt (tIr16 1 rfl)
    have w_I18_2 := rg (hvI 2 (by decide)) (0) (3) rfl rfl
    have w_I18_3 := rg (hvI 3 (by decide)) (0) (1800) rfl rfl
    have w_I18_4 := rg (hvI 4 (by decide)) (0) (1800) rfl rfl
    have w_I18_6 := rg (hvI 6 (by decide)) (0) (5) rfl rfl
    refine lv_istore_n (lv' := [(2, .int r16), (1, .int x15), (0, .ref (g 45))]) hx hb dX12_coming_30 rfl hl (by decide) rfl (fun ls hl => ?_)
    refine lv_aload_n hx hb dX12_coming_31 rfl (lv_at hl 2 rfl) ?_
    refine g_get F hK hP 0 (Wm_at0 G g q I18 J19 R20 L21) clX12 8 (by decide) flX12_36 rfl dX12_coming_32 ?_
    have w_I18_6 := rg (hv_I18 6 (by decide)) (0) (5) rfl rfl
    refine lv_if_ne (tgt := 45) hx hb dX12_coming_35 (by decide) (fun c22 => ?_) (fun c22 => ?_)
    · have gc22 : ¬ ((I18 6).toInt = 0) := fun q0 => c22 (Int32.toInt_inj.mp q0)
      rw [hQ]
      exact q_v F hr hlk (I18, J19, R20, L21) hP hD hS ⟨hvI, hvR, hsI, hsR, (show (((I18 6).toInt = 0 ∧ ¬ (I0 2).toInt = 0) → (I0 3).toInt < (I18 3).toInt) from by omega), (show ((I18 3).toInt ≤ (I18 4).toInt) from by omega), (show ((I18 4).toInt ≤ (I0 1).toInt) from by omega), (show ((¬ (I18 2).toInt = 0) → (I18 3).toInt < (I18 4).toInt) from by omega), (show ((¬ (I0 6).toInt = 0) → (¬ (I18 6).toInt = 0)) from by omega), (show ((I0 3).toInt ≤ (I18 3).toInt) from by omega)⟩ dX12_coming_45 (Nat.le_of_ble_eq_true rfl) (Nat.le_of_ble_eq_true rfl)
    · have gc22 : (I18 6).toInt = 0 := congrArg Int32.toInt c22
      refine lv_aload_n hx hb dX12_coming_38 rfl (lv_at hl 2 rfl) ?_
      refine g_get F hK hP 0 (Wm_at0 G g q I18 J19 R20 L21) clX12 27 (by decide) flX12_95 rfl dX12_coming_39 ?_
      refine lv_iload_n hx hb dX12_coming_42 rfl (lv_at hl 1 rfl) ?_
      refine lv_iload_n hx hb dX12_coming_43 rfl (lv_at hl 0 rfl) ?_
      refine p_row (W1 := fun y => Wm G g q I18 J19 y L21) (n := 12) F hK hP hD hS 16 (Wm_at16 G g q I18 J19 R20 L21) (in_of (by omega)) dX12_coming_44 (Wm_rowR12 G g q I18 J19 R20 L21) (fun R23 H locs eR23 hP hD hS => ?_)
      have hvR : InvR Wm_rl R23 := inv_upR hvR 12 eR23 (upd_in (hvR 12 (by decide)) (full _))
      have hsR := smF_up hsR eR23 (by decide)
      rw [hQ]
      exact q_v F hr hlk (I18, J19, R23, L21) hP hD hS ⟨hvI, hvR, hsI, hsR, (show (((I18 6).toInt = 0 ∧ ¬ (I0 2).toInt = 0) → (I0 3).toInt < (I18 3).toInt) from by omega), (show ((I18 3).toInt ≤ (I18 4).toInt) from by omega), (show ((I18 4).toInt ≤ (I0 1).toInt) from by omega), (show ((¬ (I18 2).toInt = 0) → (I18 3).toInt < (I18 4).toInt) from by omega), (show ((¬ (I0 6).toInt = 0) → (¬ (I18 6).toInt = 0)) from by omega), (show ((I0 3).toInt ≤ (I18 3).toInt) from by omega)⟩ dX12_coming_45 (Nat.le_of_ble_eq_true rfl) (Nat.le_of_ble_eq_true rfl)
  · have gc7 : r1.toInt = 0 := congrArg Int32.toInt c7
    rw [hQ]
    exact q_v F hr hlk (I3, J4, R5, L6) hP hD hS ⟨hvI, hvR, hsI, hsR, (show (((I3 6).toInt = 0 ∧ ¬ (I0 2).toInt = 0) → (I0 3).toInt < (I3 3).toInt) from by omega), (show ((I3 3).toInt ≤ (I3 4).toInt) from by omega), (show ((I3 4).toInt ≤ (I0 1).toInt) from by omega), (show ((¬ (I3 2).toInt = 0) → (I3 3).toInt < (I3 4).toInt) from by omega), (show ((¬ (I0 6).toInt = 0) → (¬ (I3 6).toInt = 0)) from by omega), (show ((I0 3).toInt ≤ (I3 3).toInt) from by omega)⟩ dX12_coming_8 (Nat.le_of_ble_eq_true rfl) (Nat.le_of_ble_eq_true rfl)
set_option maxHeartbeats 4000000 in
set_option maxRecDepth 100000 in
theorem s_X12_fresh (l : Launch) (G : Gx) (g q : Nat → Nat) (I0 : Nat → Int32) (J0 : Nat → Int64) (R0 : Nat → Nat → Int32) (L0 : Nat → Nat → Int64) (hvI : InvI Wm_lo Wm_hi I0) (hvR : InvR Wm_rl R0)   (hpre0 : ((I0 3).toInt ≤ (I0 4).toInt)) (hpre1 : ((I0 4).toInt ≤ (I0 1).toInt)) (hpre2 : ((¬ (I0 2).toInt = 0) → (I0 3).toInt < (I0 4).toInt)) : CtL (S := St) l yX12_fresh cX12_fresh 3 (some .long) (rmD 3 0 0) G [.ref (g 45)] (Wm G g q I0 J0 R0 L0) (fun r u => InvI Wm_lo Wm_hi u.1 ∧ InvR Wm_rl u.2.2.1 ∧ SmF ([2, 3, 4, 5, 6, 7] : List Nat) I0 u.1 ∧ SmF ([] : List Nat) R0 u.2.2.1 ∧ ((u.1 3).toInt ≤ (u.1 4).toInt) ∧ ((u.1 4).toInt ≤ (I0 1).toInt) ∧ ((¬ (u.1 2).toInt = 0) → (u.1 3).toInt < (u.1 4).toInt) ∧ ((¬ (I0 6).toInt = 0) → (¬ (u.1 6).toInt = 0)) ∧ ((I0 3).toInt ≤ (u.1 3).toInt)) (fun u => Wm G g q u.1 u.2.1 u.2.2.1 u.2.2.2) := by
  refine ctL_of (own := RX12) (by decide +kernel) rfl (Nat.le_of_ble_eq_true rfl) ?_
  intro p e s m below meth c A ls F hr hlk hnm hK hP hD hA hS hl
  have hx := F.1
  have hb := F.2.1
  have hown := F.2.2.2.1
  have hl : lv_has ls 3 [(0, .ref (g 45))] := hl
  obtain ⟨Q, hQ⟩ : ∃ Q : State → Prop, Q = MQ below (va_Ql (S := St) (fun r u => InvI Wm_lo Wm_hi u.1 ∧ InvR Wm_rl u.2.2.1 ∧ SmF ([2, 3, 4, 5, 6, 7] : List Nat) I0 u.1 ∧ SmF ([] : List Nat) R0 u.2.2.1 ∧ ((u.1 3).toInt ≤ (u.1 4).toInt) ∧ ((u.1 4).toInt ≤ (I0 1).toInt) ∧ ((¬ (u.1 2).toInt = 0) → (u.1 3).toInt < (u.1 4).toInt) ∧ ((¬ (I0 6).toInt = 0) → (¬ (u.1 6).toInt = 0)) ∧ ((I0 3).toInt ≤ (u.1 3).toInt)) (BX G A (fun u => Wm G g q u.1 u.2.1 u.2.2.1 u.2.2.2)) A) [.ref (g 45)].toArray s 0 0 A := ⟨_, rfl⟩
  rw [show (MQ below (va_Ql (S := St) (fun r u => InvI Wm_lo Wm_hi u.1 ∧ InvR Wm_rl u.2.2.1 ∧ SmF ([2, 3, 4, 5, 6, 7] : List Nat) I0 u.1 ∧ SmF ([] : List Nat) R0 u.2.2.1 ∧ ((u.1 3).toInt ≤ (u.1 4).toInt) ∧ ((u.1 4).toInt ≤ (I0 1).toInt) ∧ ((¬ (u.1 2).toInt = 0) → (u.1 3).toInt < (u.1 4).toInt) ∧ ((¬ (I0 6).toInt = 0) → (¬ (u.1 6).toInt = 0)) ∧ ((I0 3).toInt ≤ (u.1 3).toInt)) (BX G A (fun u => Wm G g q u.1 u.2.1 u.2.2.1 u.2.2.2)) A) [.ref (g 45)].toArray s (rmD 3 0 0).cells (rmD 3 0 0).slots A) = Q from hQ.symm]
  have hsI := smF_rf ([2, 3, 4, 5, 6, 7] : List Nat) I0
  have hsR := smF_rf ([] : List Nat) R0
  have hvI0 := hvI
  have lab_92 : ∀  (I_92 : Nat → Int32) (J_92 : Nat → Int64) (R_92 : Nat → Nat → Int32) (L_92 : Nat → Nat → Int64) (H : Heap) (locs : List Loc) (ls : Array Slot), InvI Wm_lo Wm_hi I_92 → InvR Wm_rl R_92 → SmF ([2, 3, 4, 5, 6, 7] : List Nat) I0 I_92 → SmF ([] : List Nat) R0 R_92 → ((I_92 3).toInt ≤ (I_92 4).toInt) → ((I_92 4).toInt ≤ (I0 1).toInt) → ((¬ (I_92 2).toInt = 0) → (I_92 3).toInt < (I_92 4).toInt) → ((¬ (I0 6).toInt = 0) → (¬ (I_92 6).toInt = 0)) → ((I0 3).toInt ≤ (I_92 3).toInt) → va_P G.1 vwCl (Wm G g q I_92 J_92 R_92 L_92) H → va_D A (Wm G g q I_92 J_92 R_92 L_92) → va_S A s.heap H locs → lv_has ls 3 [(0, .ref (g 45))] → W p l e (rmD 3 0 0) s m [.ref (g 45)].toArray below meth c H locs 0 0 Q (F0 m 92 ls []) := by
    intro I_92 J_92 R_92 L_92 H locs ls hvI hvR hsI hsR z0_92 z1_92 z2_92 z3_92 z4_92 hP hD hS hl
    have hv_I_92 := hvI
    have w_I_92_1 := rg (hvI 1 (by decide)) (0) (1800) rfl rfl
    have v_I_92_1 : (I_92 1).toInt = (I0 1).toInt := congrArg Int32.toInt (hsI 1 rfl)
    have w_I_92_2 := rg (hvI 2 (by decide)) (0) (3) rfl rfl
    have w_I_92_3 := rg (hvI 3 (by decide)) (0) (1800) rfl rfl
    have w_I_92_4 := rg (hvI 4 (by decide)) (0) (1800) rfl rfl
    have w_I_92_6 := rg (hvI 6 (by decide)) (0) (5) rfl rfl
    refine lv_aload_n hx hb dX12_fresh_92 rfl (lv_at hl 0 rfl) ?_
    refine g_get F hK hP 0 (Wm_at0 G g q I_92 J_92 R_92 L_92) clX12 7 (by decide) flX12_32 rfl dX12_fresh_93 ?_
    refine lv_lstore_n (lv' := [(1, .long (J_92 0)), (0, .ref (g 45))]) hx hb dX12_fresh_96 rfl hl (by decide) rfl (fun ls hl => ?_)
    refine lv_aload_n hx hb dX12_fresh_97 rfl (lv_at hl 1 rfl) ?_
    refine g_get F hK hP 0 (Wm_at0 G g q I_92 J_92 R_92 L_92) clX12 8 (by decide) flX12_36 rfl dX12_fresh_98 ?_
    have w_I_92_6 := rg (hv_I_92 6 (by decide)) (0) (5) rfl rfl
    refine lv_if_ne (tgt := 108) hx hb dX12_fresh_101 (by decide) (fun c1 => ?_) (fun c1 => ?_)
    · have gc1 : ¬ ((I_92 6).toInt = 0) := fun q0 => c1 (Int32.toInt_inj.mp q0)
      refine lv_lload_n hx hb dX12_fresh_108 rfl (lv_at hl 0 rfl) ?_
      rw [hQ]
      exact q_l F hr hlk (I_92, J_92, R_92, L_92) hP hD hS ⟨hvI, hvR, hsI, hsR, (show ((I_92 3).toInt ≤ (I_92 4).toInt) from by omega), (show ((I_92 4).toInt ≤ (I0 1).toInt) from by omega), (show ((¬ (I_92 2).toInt = 0) → (I_92 3).toInt < (I_92 4).toInt) from by omega), (show ((¬ (I0 6).toInt = 0) → (¬ (I_92 6).toInt = 0)) from by omega), (show ((I0 3).toInt ≤ (I_92 3).toInt) from by omega)⟩ dX12_fresh_109 (Nat.le_of_ble_eq_true rfl) (Nat.le_of_ble_eq_true rfl)
    · have gc1 : (I_92 6).toInt = 0 := congrArg Int32.toInt c1
      refine lv_aload_n hx hb dX12_fresh_104 rfl (lv_at hl 1 rfl) ?_
      refine wvv (As := []) (rest := []) (b := (g 45)) (d := 2) F hK hP hD hS hA (s_X12_ahead l G g q I_92 J_92 R_92 L_92 hvI hvR   (by omega) (by omega) (by omega)) kmV_X12_ahead mlX12_247 clX12 rfl 0 (Wm_at0 G g q I_92 J_92 R_92 L_92) ⟨(Nat.le_of_ble_eq_true rfl), (Nat.le_of_ble_eq_true rfl)⟩ hl.1 rfl (Nat.le_of_ble_eq_true rfl) dX12_fresh_105 (fun u3 H locs hwr2 hP hD hS => ?_)
      obtain ⟨I4, J5, R6, L7⟩ := u3
      replace hP : va_P G.1 vwCl (Wm G g q I4 J5 R6 L7) H := hP
      replace hD : va_D A (Wm G g q I4 J5 R6 L7) := hD
      obtain ⟨hvI, hvR, tIr2, tRr2, F0r2, F1r2, F2r2, F3r2, F4r2, F5r2⟩ := hwr2
      replace F0r2 : ((I_92 4).toInt ≤ (I4 3).toInt) := F0r2
      replace F1r2 : ((I4 3).toInt ≤ (I4 4).toInt) := F1r2
      replace F2r2 : ((I4 4).toInt ≤ (I_92 1).toInt) := F2r2
      replace F3r2 : ((¬ (I4 2).toInt = 0) → (I4 3).toInt < (I4 4).toInt) := F3r2
      replace F4r2 : ((¬ (I_92 6).toInt = 0) → (¬ (I4 6).toInt = 0)) := F4r2
      replace F5r2 : ((I_92 3).toInt ≤ (I4 3).toInt) := F5r2
      replace hvI : InvI Wm_lo Wm_hi I4 := hvI
      replace hvR : InvR Wm_rl R6 := hvR
      replace tIr2 : SmF ([2, 3, 4, 5, 6, 7] : List Nat) I_92 I4 := tIr2
      replace tRr2 : SmF ([] : List Nat) R_92 R6 := tRr2
      have hv_I4 := hvI
      have hsI := smF_tr hsI tIr2 (by decide)
      have hsR := smF_tr hsR tRr2 (by decide)
      have u_I4_1 : (I4 1).toInt = (I_92 1).toInt := congrArg Int32.toInt (tIr2 1 rfl)
      have w_I4_2 := rg (hvI 2 (by decide)) (0) (3) rfl rfl
      have w_I4_3 := rg (hvI 3 (by decide)) (0) (1800) rfl rfl
      have w_I4_4 := rg (hvI 4 (by decide)) (0) (1800) rfl rfl
      have w_I4_6 := rg (hvI 6 (by decide)) (0) (5) rfl rfl
      refine lv_lload_n hx hb dX12_fresh_108 rfl (lv_at hl 0 rfl) ?_
      rw [hQ]
      exact q_l F hr hlk (I4, J5, R6, L7) hP hD hS ⟨hvI, hvR, hsI, hsR, (show ((I4 3).toInt ≤ (I4 4).toInt) from by omega), (show ((I4 4).toInt ≤ (I0 1).toInt) from by omega), (show ((¬ (I4 2).toInt = 0) → (I4 3).toInt < (I4 4).toInt) from by omega), (show ((¬ (I0 6).toInt = 0) → (¬ (I4 6).toInt = 0)) from by omega), (show ((I0 3).toInt ≤ (I4 3).toInt) from by omega)⟩ dX12_fresh_109 (Nat.le_of_ble_eq_true rfl) (Nat.le_of_ble_eq_true rfl)
  have lab_83 : ∀  (I_83 : Nat → Int32) (J_83 : Nat → Int64) (R_83 : Nat → Nat → Int32) (L_83 : Nat → Nat → Int64) (H : Heap) (locs : List Loc) (ls : Array Slot), InvI Wm_lo Wm_hi I_83 → InvR Wm_rl R_83 → SmF ([2, 3, 4, 5, 6, 7] : List Nat) I0 I_83 → SmF ([] : List Nat) R0 R_83 → ((I_83 3).toInt ≤ (I_83 4).toInt) → ((I_83 4).toInt ≤ (I0 1).toInt) → ((¬ (I_83 2).toInt = 0) → (I_83 3).toInt < (I_83 4).toInt) → ((¬ (I0 6).toInt = 0) → (¬ (I_83 6).toInt = 0)) → ((I0 3).toInt ≤ (I_83 3).toInt) → va_P G.1 vwCl (Wm G g q I_83 J_83 R_83 L_83) H → va_D A (Wm G g q I_83 J_83 R_83 L_83) → va_S A s.heap H locs → lv_has ls 3 [(0, .ref (g 45))] → W p l e (rmD 3 0 0) s m [.ref (g 45)].toArray below meth c H locs 0 0 Q (F0 m 83 ls []) := by
    intro I_83 J_83 R_83 L_83 H locs ls hvI hvR hsI hsR z0_83 z1_83 z2_83 z3_83 z4_83 hP hD hS hl
    have hv_I_83 := hvI
    have w_I_83_1 := rg (hvI 1 (by decide)) (0) (1800) rfl rfl
    have v_I_83_1 : (I_83 1).toInt = (I0 1).toInt := congrArg Int32.toInt (hsI 1 rfl)
    have w_I_83_2 := rg (hvI 2 (by decide)) (0) (3) rfl rfl
    have w_I_83_3 := rg (hvI 3 (by decide)) (0) (1800) rfl rfl
    have w_I_83_4 := rg (hvI 4 (by decide)) (0) (1800) rfl rfl
    have w_I_83_6 := rg (hvI 6 (by decide)) (0) (5) rfl rfl
    refine lv_aload_n hx hb dX12_fresh_83 rfl (lv_at hl 0 rfl) ?_
    refine lv_iconst (v := 2) hx hb dX12_fresh_84 (by decide) ?_
    refine lv_aload_n hx hb dX12_fresh_85 rfl (lv_at hl 0 rfl) ?_
    refine g_get F hK hP 0 (Wm_at0 G g q I_83 J_83 R_83 L_83) clX12 4 (by decide) flX12_23 rfl dX12_fresh_86 ?_
    have w_I_83_3 := rg (hv_I_83 3 (by decide)) (0) (1800) rfl rfl
    refine wvv (As := [.int 2, .int (I_83 3)]) (rest := []) (b := (g 45)) (d := 1) F hK hP hD hS hA (s_X12_blame l G g q I_83 J_83 R_83 L_83 hvI hvR  2 ((I_83 3)) (by decide) (show ((0 : Int) ≤ (I_83 3).toInt ∧ (I_83 3).toInt ≤ (1800 : Int)) from by omega)) kmV_X12_blame mlX12_240 clX12 rfl 0 (Wm_at0 G g q I_83 J_83 R_83 L_83) ⟨(Nat.le_of_ble_eq_true rfl), (Nat.le_of_ble_eq_true rfl)⟩ hl.1 rfl (Nat.le_of_ble_eq_true rfl) dX12_fresh_89 (fun u9 H locs hwr8 hP hD hS => ?_)
    obtain ⟨I10, J11, R12, L13⟩ := u9
    replace hP : va_P G.1 vwCl (Wm G g q I10 J11 R12 L13) H := hP
    replace hD : va_D A (Wm G g q I10 J11 R12 L13) := hD
    obtain ⟨hvI, hvR, tIr8, tRr8, F0r8⟩ := hwr8
    replace F0r8 : (¬ (I10 6).toInt = 0) := F0r8
    replace hvI : InvI Wm_lo Wm_hi I10 := hvI
    replace hvR : InvR Wm_rl R12 := hvR
    replace tIr8 : SmF ([6, 7] : List Nat) I_83 I10 := tIr8
    replace tRr8 : SmF ([] : List Nat) R_83 R12 := tRr8
    have hv_I10 := hvI
    have hsI := smF_tr hsI tIr8 (by decide)
    have hsR := smF_tr hsR tRr8 (by decide)
    have u_I10_1 : (I10 1).toInt = (I_83 1).toInt := congrArg Int32.toInt (tIr8 1 rfl)
    have u_I10_2 : (I10 2).toInt = (I_83 2).toInt := congrArg Int32.toInt (tIr8 2 rfl)
    have u_I10_3 : (I10 3).toInt = (I_83 3).toInt := congrArg Int32.toInt (tIr8 3 rfl)
    have u_I10_4 : (I10 4).toInt = (I_83 4).toInt := congrArg Int32.toInt (tIr8 4 rfl)
    have w_I10_6 := rg (hvI 6 (by decide)) (0) (5) rfl rfl
    exact lab_92  I10 J11 R12 L13 _ _ _ hvI hvR hsI hsR (show ((I10 3).toInt ≤ (I10 4).toInt) from by omega) (show ((I10 4).toInt ≤ (I0 1).toInt) from by omega) (show ((¬ (I10 2).toInt = 0) → (I10 3).toInt < (I10 4).toInt) from by omega) (show ((¬ (I0 6).toInt = 0) → (¬ (I10 6).toInt = 0)) from by omega) (show ((I0 3).toInt ≤ (I10 3).toInt) from by omega) hP hD hS (lv_sub hl [0] rfl)
  have lab_37 : ∀  (I_37 : Nat → Int32) (J_37 : Nat → Int64) (R_37 : Nat → Nat → Int32) (L_37 : Nat → Nat → Int64) (H : Heap) (locs : List Loc) (ls : Array Slot), InvI Wm_lo Wm_hi I_37 → InvR Wm_rl R_37 → SmF ([2, 3, 4, 5, 6, 7] : List Nat) I0 I_37 → SmF ([] : List Nat) R0 R_37 → ((I_37 3).toInt ≤ (I_37 4).toInt) → ((I_37 4).toInt ≤ (I0 1).toInt) → ((¬ (I_37 2).toInt = 0) → (I_37 3).toInt < (I_37 4).toInt) → ((¬ (I0 6).toInt = 0) → (¬ (I_37 6).toInt = 0)) → ((I0 3).toInt ≤ (I_37 3).toInt) → va_P G.1 vwCl (Wm G g q I_37 J_37 R_37 L_37) H → va_D A (Wm G g q I_37 J_37 R_37 L_37) → va_S A s.heap H locs → lv_has ls 3 [(0, .ref (g 45))] → W p l e (rmD 3 0 0) s m [.ref (g 45)].toArray below meth c H locs 0 0 Q (F0 m 37 ls []) := by
    intro I_37 J_37 R_37 L_37 H locs ls hvI hvR hsI hsR z0_37 z1_37 z2_37 z3_37 z4_37 hP hD hS hl
    have hv_I_37 := hvI
    have w_I_37_1 := rg (hvI 1 (by decide)) (0) (1800) rfl rfl
    have v_I_37_1 : (I_37 1).toInt = (I0 1).toInt := congrArg Int32.toInt (hsI 1 rfl)
    have w_I_37_2 := rg (hvI 2 (by decide)) (0) (3) rfl rfl
    have w_I_37_3 := rg (hvI 3 (by decide)) (0) (1800) rfl rfl
    have w_I_37_4 := rg (hvI 4 (by decide)) (0) (1800) rfl rfl
    have w_I_37_6 := rg (hvI 6 (by decide)) (0) (5) rfl rfl
    refine lv_aload_n hx hb dX12_fresh_37 rfl (lv_at hl 0 rfl) ?_
    refine g_get F hK hP 0 (Wm_at0 G g q I_37 J_37 R_37 L_37) clX12 8 (by decide) flX12_36 rfl dX12_fresh_38 ?_
    have w_I_37_6 := rg (hv_I_37 6 (by decide)) (0) (5) rfl rfl
    refine lv_if_ne (tgt := 92) hx hb dX12_fresh_41 (by decide) (fun c14 => ?_) (fun c14 => ?_)
    · have gc14 : ¬ ((I_37 6).toInt = 0) := fun q0 => c14 (Int32.toInt_inj.mp q0)
      exact lab_92  I_37 J_37 R_37 L_37 _ _ _ hvI hvR hsI hsR (show ((I_37 3).toInt ≤ (I_37 4).toInt) from by omega) (show ((I_37 4).toInt ≤ (I0 1).toInt) from by omega) (show ((¬ (I_37 2).toInt = 0) → (I_37 3).toInt < (I_37 4).toInt) from by omega) (show ((¬ (I0 6).toInt = 0) → (¬ (I_37 6).toInt = 0)) from by omega) (show ((I0 3).toInt ≤ (I_37 3).toInt) from by omega) hP hD hS (lv_sub hl [0] rfl)
    · have gc14 : (I_37 6).toInt = 0 := congrArg Int32.toInt c14
      refine lv_aload_n hx hb dX12_fresh_44 rfl (lv_at hl 0 rfl) ?_
      refine lv_iconst (v := 0) hx hb dX12_fresh_45 (by decide) ?_
      refine lv_aload_n hx hb dX12_fresh_46 rfl (lv_at hl 0 rfl) ?_
      refine g_get F hK hP 0 (Wm_at0 G g q I_37 J_37 R_37 L_37) clX12 7 (by decide) flX12_32 rfl dX12_fresh_47 ?_
      refine wvi (As := [.int 0, .long (J_37 0)]) (rest := []) (b := (g 45)) (d := 1) F hK hP hD hS hA (s_X12_named l G g q I_37 J_37 R_37 L_37 hvI hvR  0 ((J_37 0)) (by decide)) kmV_X12_named mlX12_354 clX12 rfl 0 (Wm_at0 G g q I_37 J_37 R_37 L_37) ⟨(Nat.le_of_ble_eq_true rfl), (Nat.le_of_ble_eq_true rfl)⟩ hl.1 rfl (Nat.le_of_ble_eq_true rfl) dX12_fresh_50 (fun r15 u16 H locs hwr15 hP hD hS => ?_)
      obtain ⟨F0r15, F1r15, F2r15⟩ := hwr15
      replace F0r15 : ((-1 : Int) ≤ r15.toInt ∧ r15.toInt ≤ (11 : Int)) := F0r15
      replace F1r15 : (0 = 0 → r15.toInt ≤ 4) := F1r15
      replace F2r15 : (0 = 1 → r15.toInt ≤ 5) := F2r15
      refine lv_iconst (v := (-1)) hx hb dX12_fresh_53 (by decide) ?_
      refine lv_icmp_ne (tgt := 83) hx hb dX12_fresh_54 (by decide) (fun c17 => ?_) (fun c17 => ?_)
      · have gc17 : ¬ (r15.toInt = (-1)) := fun q0 => c17 (Int32.toInt_inj.mp q0)
        exact lab_83  I_37 J_37 R_37 L_37 _ _ _ hvI hvR hsI hsR (show ((I_37 3).toInt ≤ (I_37 4).toInt) from by omega) (show ((I_37 4).toInt ≤ (I0 1).toInt) from by omega) (show ((¬ (I_37 2).toInt = 0) → (I_37 3).toInt < (I_37 4).toInt) from by omega) (show ((¬ (I0 6).toInt = 0) → (¬ (I_37 6).toInt = 0)) from by omega) (show ((I0 3).toInt ≤ (I_37 3).toInt) from by omega) hP hD hS (lv_sub hl [0] rfl)
      · have gc17 : r15.toInt = (-1) := congrArg Int32.toInt c17
        refine lv_aload_n hx hb dX12_fresh_57 rfl (lv_at hl 0 rfl) ?_
        refine lv_iconst (v := 1) hx hb dX12_fresh_58 (by decide) ?_
        refine lv_aload_n hx hb dX12_fresh_59 rfl (lv_at hl 0 rfl) ?_
        refine g_get F hK hP 0 (Wm_at0 G g q I_37 J_37 R_37 L_37) clX12 7 (by decide) flX12_32 rfl dX12_fresh_60 ?_
        refine wvi (As := [.int 1, .long (J_37 0)]) (rest := []) (b := (g 45)) (d := 1) F hK hP hD hS hA (s_X12_named l G g q I_37 J_37 R_37 L_37 hvI hvR  1 ((J_37 0)) (by decide)) kmV_X12_named mlX12_354 clX12 rfl 0 (Wm_at0 G g q I_37 J_37 R_37 L_37) ⟨(Nat.le_of_ble_eq_true rfl), (Nat.le_of_ble_eq_true rfl)⟩ hl.1 rfl (Nat.le_of_ble_eq_true rfl) dX12_fresh_63 (fun r18 u19 H locs hwr18 hP hD hS => ?_)
        obtain ⟨F0r18, F1r18, F2r18⟩ := hwr18
        replace F0r18 : ((-1 : Int) ≤ r18.toInt ∧ r18.toInt ≤ (11 : Int)) := F0r18
        replace F1r18 : (1 = 0 → r18.toInt ≤ 4) := F1r18
        replace F2r18 : (1 = 1 → r18.toInt ≤ 5) := F2r18
        refine lv_iconst (v := (-1)) hx hb dX12_fresh_66 (by decide) ?_
        refine lv_icmp_ne (tgt := 83) hx hb dX12_fresh_67 (by decide) (fun c20 => ?_) (fun c20 => ?_)
        · have gc20 : ¬ (r18.toInt = (-1)) := fun q0 => c20 (Int32.toInt_inj.mp q0)
          exact lab_83  I_37 J_37 R_37 L_37 _ _ _ hvI hvR hsI hsR (show ((I_37 3).toInt ≤ (I_37 4).toInt) from by omega) (show ((I_37 4).toInt ≤ (I0 1).toInt) from by omega) (show ((¬ (I_37 2).toInt = 0) → (I_37 3).toInt < (I_37 4).toInt) from by omega) (show ((¬ (I0 6).toInt = 0) → (¬ (I_37 6).toInt = 0)) from by omega) (show ((I0 3).toInt ≤ (I_37 3).toInt) from by omega) hP hD hS (lv_sub hl [0] rfl)
        · have gc20 : r18.toInt = (-1) := congrArg Int32.toInt c20
          refine lv_aload_n hx hb dX12_fresh_70 rfl (lv_at hl 0 rfl) ?_
          refine lv_iconst (v := 2) hx hb dX12_fresh_71 (by decide) ?_
          refine lv_aload_n hx hb dX12_fresh_72 rfl (lv_at hl 0 rfl) ?_
          refine g_get F hK hP 0 (Wm_at0 G g q I_37 J_37 R_37 L_37) clX12 7 (by decide) flX12_32 rfl dX12_fresh_73 ?_
          refine wvi (As := [.int 2, .long (J_37 0)]) (rest := []) (b := (g 45)) (d := 1) F hK hP hD hS hA (s_X12_named l G g q I_37 J_37 R_37 L_37 hvI hvR  2 ((J_37 0)) (by decide)) kmV_X12_named mlX12_354 clX12 rfl 0 (Wm_at0 G g q I_37 J_37 R_37 L_37) ⟨(Nat.le_of_ble_eq_true rfl), (Nat.le_of_ble_eq_true rfl)⟩ hl.1 rfl (Nat.le_of_ble_eq_true rfl) dX12_fresh_76 (fun r21 u22 H locs hwr21 hP hD hS => ?_)
          obtain ⟨F0r21, F1r21, F2r21⟩ := hwr21
          replace F0r21 : ((-1 : Int) ≤ r21.toInt ∧ r21.toInt ≤ (11 : Int)) := F0r21
          replace F1r21 : (2 = 0 → r21.toInt ≤ 4) := F1r21
          replace F2r21 : (2 = 1 → r21.toInt ≤ 5) := F2r21
          refine lv_iconst (v := (-1)) hx hb dX12_fresh_79 (by decide) ?_
          refine lv_icmp_eq (tgt := 92) hx hb dX12_fresh_80 (by decide) (fun c23 => ?_) (fun c23 => ?_)
          · have gc23 : r21.toInt = (-1) := congrArg Int32.toInt c23
            exact lab_92  I_37 J_37 R_37 L_37 _ _ _ hvI hvR hsI hsR (show ((I_37 3).toInt ≤ (I_37 4).toInt) from by omega) (show ((I_37 4).toInt ≤ (I0 1).toInt) from by omega) (show ((¬ (I_37 2).toInt = 0) → (I_37 3).toInt < (I_37 4).toInt) from by omega) (show ((¬ (I0 6).toInt = 0) → (¬ (I_37 6).toInt = 0)) from by omega) (show ((I0 3).toInt ≤ (I_37 3).toInt) from by omega) hP hD hS (lv_sub hl [0] rfl)
          · have gc23 : ¬ (r21.toInt = (-1)) := fun q0 => c23 (Int32.toInt_inj.mp q0)
            exact lab_83  I_37 J_37 R_37 L_37 _ _ _ hvI hvR hsI hsR (show ((I_37 3).toInt ≤ (I_37 4).toInt) from by omega) (show ((I_37 4).toInt ≤ (I0 1).toInt) from by omega) (show ((¬ (I_37 2).toInt = 0) → (I_37 3).toInt < (I_37 4).toInt) from by omega) (show ((¬ (I0 6).toInt = 0) → (¬ (I_37 6).toInt = 0)) from by omega) (show ((I0 3).toInt ≤ (I_37 3).toInt) from by omega) hP hD hS (lv_sub hl [0] rfl)
  have lab_28 : ∀  (I_28 : Nat → Int32) (J_28 : Nat → Int64) (R_28 : Nat → Nat → Int32) (L_28 : Nat → Nat → Int64) (H : Heap) (locs : List Loc) (ls : Array Slot), InvI Wm_lo Wm_hi I_28 → InvR Wm_rl R_28 → SmF ([2, 3, 4, 5, 6, 7] : List Nat) I0 I_28 → SmF ([] : List Nat) R0 R_28 → ((I_28 3).toInt ≤ (I_28 4).toInt) → ((I_28 4).toInt ≤ (I0 1).toInt) → ((¬ (I_28 2).toInt = 0) → (I_28 3).toInt < (I_28 4).toInt) → ((¬ (I0 6).toInt = 0) → (¬ (I_28 6).toInt = 0)) → ((I0 3).toInt ≤ (I_28 3).toInt) → va_P G.1 vwCl (Wm G g q I_28 J_28 R_28 L_28) H → va_D A (Wm G g q I_28 J_28 R_28 L_28) → va_S A s.heap H locs → lv_has ls 3 [(0, .ref (g 45))] → W p l e (rmD 3 0 0) s m [.ref (g 45)].toArray below meth c H locs 0 0 Q (F0 m 28 ls []) := by
    intro I_28 J_28 R_28 L_28 H locs ls hvI hvR hsI hsR z0_28 z1_28 z2_28 z3_28 z4_28 hP hD hS hl
    have hv_I_28 := hvI
    have w_I_28_1 := rg (hvI 1 (by decide)) (0) (1800) rfl rfl
    have v_I_28_1 : (I_28 1).toInt = (I0 1).toInt := congrArg Int32.toInt (hsI 1 rfl)
    have w_I_28_2 := rg (hvI 2 (by decide)) (0) (3) rfl rfl
    have w_I_28_3 := rg (hvI 3 (by decide)) (0) (1800) rfl rfl
    have w_I_28_4 := rg (hvI 4 (by decide)) (0) (1800) rfl rfl
    have w_I_28_6 := rg (hvI 6 (by decide)) (0) (5) rfl rfl
    refine lv_aload_n hx hb dX12_fresh_28 rfl (lv_at hl 0 rfl) ?_
    refine lv_iconst (v := 1) hx hb dX12_fresh_29 (by decide) ?_
    refine lv_aload_n hx hb dX12_fresh_30 rfl (lv_at hl 0 rfl) ?_
    refine g_get F hK hP 0 (Wm_at0 G g q I_28 J_28 R_28 L_28) clX12 4 (by decide) flX12_23 rfl dX12_fresh_31 ?_
    have w_I_28_3 := rg (hv_I_28 3 (by decide)) (0) (1800) rfl rfl
    refine wvv (As := [.int 1, .int (I_28 3)]) (rest := []) (b := (g 45)) (d := 1) F hK hP hD hS hA (s_X12_blame l G g q I_28 J_28 R_28 L_28 hvI hvR  1 ((I_28 3)) (by decide) (show ((0 : Int) ≤ (I_28 3).toInt ∧ (I_28 3).toInt ≤ (1800 : Int)) from by omega)) kmV_X12_blame mlX12_240 clX12 rfl 0 (Wm_at0 G g q I_28 J_28 R_28 L_28) ⟨(Nat.le_of_ble_eq_true rfl), (Nat.le_of_ble_eq_true rfl)⟩ hl.1 rfl (Nat.le_of_ble_eq_true rfl) dX12_fresh_34 (fun u25 H locs hwr24 hP hD hS => ?_)
    obtain ⟨I26, J27, R28, L29⟩ := u25
    replace hP : va_P G.1 vwCl (Wm G g q I26 J27 R28 L29) H := hP
    replace hD : va_D A (Wm G g q I26 J27 R28 L29) := hD
    obtain ⟨hvI, hvR, tIr24, tRr24, F0r24⟩ := hwr24
    replace F0r24 : (¬ (I26 6).toInt = 0) := F0r24
    replace hvI : InvI Wm_lo Wm_hi I26 := hvI
    replace hvR : InvR Wm_rl R28 := hvR
    replace tIr24 : SmF ([6, 7] : List Nat) I_28 I26 := tIr24
    replace tRr24 : SmF ([] : List Nat) R_28 R28 := tRr24
    have hv_I26 := hvI
    have hsI := smF_tr hsI tIr24 (by decide)
    have hsR := smF_tr hsR tRr24 (by decide)
    have u_I26_1 : (I26 1).toInt = (I_28 1).toInt := congrArg Int32.toInt (tIr24 1 rfl)
    have u_I26_2 : (I26 2).toInt = (I_28 2).toInt := congrArg Int32.toInt (tIr24 2 rfl)
    have u_I26_3 : (I26 3).toInt = (I_28 3).toInt := congrArg Int32.toInt (tIr24 3 rfl)
    have u_I26_4 : (I26 4).toInt = (I_28 4).toInt := congrArg Int32.toInt (tIr24 4 rfl)
    have w_I26_6 := rg (hvI 6 (by decide)) (0) (5) rfl rfl
    exact lab_37  I26 J27 R28 L29 _ _ _ hvI hvR hsI hsR (show ((I26 3).toInt ≤ (I26 4).toInt) from by omega) (show ((I26 4).toInt ≤ (I0 1).toInt) from by omega) (show ((¬ (I26 2).toInt = 0) → (I26 3).toInt < (I26 4).toInt) from by omega) (show ((¬ (I0 6).toInt = 0) → (¬ (I26 6).toInt = 0)) from by omega) (show ((I0 3).toInt ≤ (I26 3).toInt) from by omega) hP hD hS (lv_sub hl [0] rfl)
  have w_I0_1 := rg (hvI 1 (by decide)) (0) (1800) rfl rfl
  have w_I0_2 := rg (hvI 2 (by decide)) (0) (3) rfl rfl
  have w_I0_3 := rg (hvI 3 (by decide)) (0) (1800) rfl rfl
  have w_I0_4 := rg (hvI 4 (by decide)) (0) (1800) rfl rfl
  have w_I0_6 := rg (hvI 6 (by decide)) (0) (5) rfl rfl
  refine lv_aload_n hx hb dX12_fresh_0 rfl (lv_at hl 0 rfl) ?_
  refine g_get F hK hP 0 (Wm_at0 G g q I0 J0 R0 L0) clX12 8 (by decide) flX12_36 rfl dX12_fresh_1 ?_
  have w_I0_6 := rg (hvI0 6 (by decide)) (0) (5) rfl rfl
  refine lv_if_le (tgt := 9) hx hb dX12_fresh_4 (by decide) (fun c30 => ?_) (fun c30 => ?_)
  · have gc30 : (I0 6).toInt ≤ 0 := (tle _ _).mp c30
    refine lv_aload_n hx hb dX12_fresh_9 rfl (lv_at hl 0 rfl) ?_
    refine g_get F hK hP 0 (Wm_at0 G g q I0 J0 R0 L0) clX12 3 (by decide) flX12_20 rfl dX12_fresh_10 ?_
    have w_I0_2 := rg (hvI0 2 (by decide)) (0) (3) rfl rfl
    refine lv_iconst (v := 1) hx hb dX12_fresh_13 (by decide) ?_
    refine lv_icmp_ne (tgt := 28) hx hb dX12_fresh_14 (by decide) (fun c31 => ?_) (fun c31 => ?_)
    · have gc31 : ¬ ((I0 2).toInt = 1) := fun q0 => c31 (Int32.toInt_inj.mp q0)
      exact lab_28  I0 J0 R0 L0 _ _ _ hvI hvR hsI hsR (show ((I0 3).toInt ≤ (I0 4).toInt) from by omega) (show ((I0 4).toInt ≤ (I0 1).toInt) from by omega) (show ((¬ (I0 2).toInt = 0) → (I0 3).toInt < (I0 4).toInt) from by omega) (show ((¬ (I0 6).toInt = 0) → (¬ (I0 6).toInt = 0)) from by omega) (show ((I0 3).toInt ≤ (I0 3).toInt) from by omega) hP hD hS (lv_sub hl [0] rfl)
    · have gc31 : (I0 2).toInt = 1 := congrArg Int32.toInt c31
      refine lv_aload_n hx hb dX12_fresh_17 rfl (lv_at hl 0 rfl) ?_
      refine lv_aload_n hx hb dX12_fresh_18 rfl (lv_at hl 0 rfl) ?_
      refine g_get F hK hP 0 (Wm_at0 G g q I0 J0 R0 L0) clX12 7 (by decide) flX12_32 rfl dX12_fresh_19 ?_
      refine wvi (As := [.long (J0 0)]) (rest := []) (b := (g 45)) (d := 1) F hK hP hD hS hA (s_X12_isOwn l G g q I0 J0 R0 L0 hvI hvR  ((J0 0)) ) kmV_X12_isOwn mlX12_351 clX12 rfl 0 (Wm_at0 G g q I0 J0 R0 L0) ⟨(Nat.le_of_ble_eq_true rfl), (Nat.le_of_ble_eq_true rfl)⟩ hl.1 rfl (Nat.le_of_ble_eq_true rfl) dX12_fresh_22 (fun r32 u33 H locs hwr32 hP hD hS => ?_)
      have F0r32 := hwr32
      replace F0r32 : ((0 : Int) ≤ r32.toInt ∧ r32.toInt ≤ (1 : Int)) := F0r32
      refine lv_if_eq (tgt := 37) hx hb dX12_fresh_25 (by decide) (fun c34 => ?_) (fun c34 => ?_)
      · have gc34 : r32.toInt = 0 := congrArg Int32.toInt c34
        exact lab_37  I0 J0 R0 L0 _ _ _ hvI hvR hsI hsR (show ((I0 3).toInt ≤ (I0 4).toInt) from by omega) (show ((I0 4).toInt ≤ (I0 1).toInt) from by omega) (show ((¬ (I0 2).toInt = 0) → (I0 3).toInt < (I0 4).toInt) from by omega) (show ((¬ (I0 6).toInt = 0) → (¬ (I0 6).toInt = 0)) from by omega) (show ((I0 3).toInt ≤ (I0 3).toInt) from by omega) hP hD hS (lv_sub hl [0] rfl)
      · have gc34 : ¬ (r32.toInt = 0) := fun q0 => c34 (Int32.toInt_inj.mp q0)
        exact lab_28  I0 J0 R0 L0 _ _ _ hvI hvR hsI hsR (show ((I0 3).toInt ≤ (I0 4).toInt) from by omega) (show ((I0 4).toInt ≤ (I0 1).toInt) from by omega) (show ((¬ (I0 2).toInt = 0) → (I0 3).toInt < (I0 4).toInt) from by omega) (show ((¬ (I0 6).toInt = 0) → (¬ (I0 6).toInt = 0)) from by omega) (show ((I0 3).toInt ≤ (I0 3).toInt) from by omega) hP hD hS (lv_sub hl [0] rfl)
  · have gc30 : ¬ ((I0 6).toInt ≤ 0) := fun q0 => c30 ((tle _ _).mpr q0)
    refine lv_lconst (v := 0) hx hb dX12_fresh_7 (by decide) ?_
    rw [hQ]
    exact q_l F hr hlk (I0, J0, R0, L0) hP hD hS ⟨hvI, hvR, hsI, hsR, (show ((I0 3).toInt ≤ (I0 4).toInt) from by omega), (show ((I0 4).toInt ≤ (I0 1).toInt) from by omega), (show ((¬ (I0 2).toInt = 0) → (I0 3).toInt < (I0 4).toInt) from by omega), (show ((¬ (I0 6).toInt = 0) → (¬ (I0 6).toInt = 0)) from by omega), (show ((I0 3).toInt ≤ (I0 3).toInt) from by omega)⟩ dX12_fresh_8 (Nat.le_of_ble_eq_true rfl) (Nat.le_of_ble_eq_true rfl)
set_option maxHeartbeats 4000000 in
set_option maxRecDepth 100000 in
theorem s_X12_must_ (l : Launch) (G : Gx) (g q : Nat → Nat) (I0 : Nat → Int32) (J0 : Nat → Int64) (R0 : Nat → Nat → Int32) (L0 : Nat → Nat → Int64) (hvI : InvI Wm_lo Wm_hi I0) (hvR : InvR Wm_rl R0)  (p1 : Int64) (hpre0 : ((I0 3).toInt ≤ (I0 4).toInt)) (hpre1 : ((I0 4).toInt ≤ (I0 1).toInt)) (hpre2 : ((¬ (I0 2).toInt = 0) → (I0 3).toInt < (I0 4).toInt)) : CtV (S := St) l yX12_must_ cX12_must_ 3 none (rmD 3 0 0) G [.ref (g 45), .long p1] (Wm G g q I0 J0 R0 L0) (fun u => InvI Wm_lo Wm_hi u.1 ∧ InvR Wm_rl u.2.2.1 ∧ SmF ([2, 3, 4, 5, 6, 7] : List Nat) I0 u.1 ∧ SmF ([] : List Nat) R0 u.2.2.1 ∧ ((u.1 3).toInt ≤ (u.1 4).toInt) ∧ ((u.1 4).toInt ≤ (I0 1).toInt) ∧ ((¬ (u.1 2).toInt = 0) → (u.1 3).toInt < (u.1 4).toInt) ∧ ((¬ (I0 6).toInt = 0) → (¬ (u.1 6).toInt = 0)) ∧ ((I0 3).toInt ≤ (u.1 3).toInt)) (fun u => Wm G g q u.1 u.2.1 u.2.2.1 u.2.2.2) := by
  refine ctV_of (own := RX12) (by decide +kernel) rfl (Nat.le_of_ble_eq_true rfl) ?_
  intro p e s m below meth c A ls F hr hlk hnm hK hP hD hA hS hl
  have hx := F.1
  have hb := F.2.1
  have hown := F.2.2.2.1
  have hl : lv_has ls 3 [(0, .ref (g 45)), (1, .long p1)] := hl
  obtain ⟨Q, hQ⟩ : ∃ Q : State → Prop, Q = MQ below (va_Qv (S := St) (fun u => InvI Wm_lo Wm_hi u.1 ∧ InvR Wm_rl u.2.2.1 ∧ SmF ([2, 3, 4, 5, 6, 7] : List Nat) I0 u.1 ∧ SmF ([] : List Nat) R0 u.2.2.1 ∧ ((u.1 3).toInt ≤ (u.1 4).toInt) ∧ ((u.1 4).toInt ≤ (I0 1).toInt) ∧ ((¬ (u.1 2).toInt = 0) → (u.1 3).toInt < (u.1 4).toInt) ∧ ((¬ (I0 6).toInt = 0) → (¬ (u.1 6).toInt = 0)) ∧ ((I0 3).toInt ≤ (u.1 3).toInt)) (BX G A (fun u => Wm G g q u.1 u.2.1 u.2.2.1 u.2.2.2)) A) [.ref (g 45), .long p1].toArray s 0 0 A := ⟨_, rfl⟩
  rw [show (MQ below (va_Qv (S := St) (fun u => InvI Wm_lo Wm_hi u.1 ∧ InvR Wm_rl u.2.2.1 ∧ SmF ([2, 3, 4, 5, 6, 7] : List Nat) I0 u.1 ∧ SmF ([] : List Nat) R0 u.2.2.1 ∧ ((u.1 3).toInt ≤ (u.1 4).toInt) ∧ ((u.1 4).toInt ≤ (I0 1).toInt) ∧ ((¬ (u.1 2).toInt = 0) → (u.1 3).toInt < (u.1 4).toInt) ∧ ((¬ (I0 6).toInt = 0) → (¬ (u.1 6).toInt = 0)) ∧ ((I0 3).toInt ≤ (u.1 3).toInt)) (BX G A (fun u => Wm G g q u.1 u.2.1 u.2.2.1 u.2.2.2)) A) [.ref (g 45), .long p1].toArray s (rmD 3 0 0).cells (rmD 3 0 0).slots A) = Q from hQ.symm]
  have hsI := smF_rf ([2, 3, 4, 5, 6, 7] : List Nat) I0
  have hsR := smF_rf ([] : List Nat) R0
  have hvI0 := hvI
  have lab_25 : ∀  (I_25 : Nat → Int32) (J_25 : Nat → Int64) (R_25 : Nat → Nat → Int32) (L_25 : Nat → Nat → Int64) (H : Heap) (locs : List Loc) (ls : Array Slot), InvI Wm_lo Wm_hi I_25 → InvR Wm_rl R_25 → SmF ([2, 3, 4, 5, 6, 7] : List Nat) I0 I_25 → SmF ([] : List Nat) R0 R_25 → ((I_25 3).toInt ≤ (I_25 4).toInt) → ((I_25 4).toInt ≤ (I0 1).toInt) → ((¬ (I_25 2).toInt = 0) → (I_25 3).toInt < (I_25 4).toInt) → ((¬ (I0 6).toInt = 0) → (¬ (I_25 6).toInt = 0)) → ((I0 3).toInt ≤ (I_25 3).toInt) → va_P G.1 vwCl (Wm G g q I_25 J_25 R_25 L_25) H → va_D A (Wm G g q I_25 J_25 R_25 L_25) → va_S A s.heap H locs → lv_has ls 3 [(0, .ref (g 45))] → W p l e (rmD 3 0 0) s m [.ref (g 45), .long p1].toArray below meth c H locs 0 0 Q (F0 m 25 ls []) := by
    intro I_25 J_25 R_25 L_25 H locs ls hvI hvR hsI hsR z0_25 z1_25 z2_25 z3_25 z4_25 hP hD hS hl
    have hv_I_25 := hvI
    have w_I_25_1 := rg (hvI 1 (by decide)) (0) (1800) rfl rfl
    have v_I_25_1 : (I_25 1).toInt = (I0 1).toInt := congrArg Int32.toInt (hsI 1 rfl)
    have w_I_25_2 := rg (hvI 2 (by decide)) (0) (3) rfl rfl
    have w_I_25_3 := rg (hvI 3 (by decide)) (0) (1800) rfl rfl
    have w_I_25_4 := rg (hvI 4 (by decide)) (0) (1800) rfl rfl
    have w_I_25_6 := rg (hvI 6 (by decide)) (0) (5) rfl rfl
    refine lv_aload_n hx hb dX12_must__25 rfl (lv_at hl 0 rfl) ?_
    refine g_get F hK hP 0 (Wm_at0 G g q I_25 J_25 R_25 L_25) clX12 8 (by decide) flX12_36 rfl dX12_must__26 ?_
    have w_I_25_6 := rg (hv_I_25 6 (by decide)) (0) (5) rfl rfl
    refine lv_if_ne (tgt := 36) hx hb dX12_must__29 (by decide) (fun c1 => ?_) (fun c1 => ?_)
    · have gc1 : ¬ ((I_25 6).toInt = 0) := fun q0 => c1 (Int32.toInt_inj.mp q0)
      rw [hQ]
      exact q_v F hr hlk (I_25, J_25, R_25, L_25) hP hD hS ⟨hvI, hvR, hsI, hsR, (show ((I_25 3).toInt ≤ (I_25 4).toInt) from by omega), (show ((I_25 4).toInt ≤ (I0 1).toInt) from by omega), (show ((¬ (I_25 2).toInt = 0) → (I_25 3).toInt < (I_25 4).toInt) from by omega), (show ((¬ (I0 6).toInt = 0) → (¬ (I_25 6).toInt = 0)) from by omega), (show ((I0 3).toInt ≤ (I_25 3).toInt) from by omega)⟩ dX12_must__36 (Nat.le_of_ble_eq_true rfl) (Nat.le_of_ble_eq_true rfl)
    · have gc1 : (I_25 6).toInt = 0 := congrArg Int32.toInt c1
      refine lv_aload_n hx hb dX12_must__32 rfl (lv_at hl 0 rfl) ?_
      refine wvv (As := []) (rest := []) (b := (g 45)) (d := 2) F hK hP hD hS hA (s_X12_ahead l G g q I_25 J_25 R_25 L_25 hvI hvR   (by omega) (by omega) (by omega)) kmV_X12_ahead mlX12_247 clX12 rfl 0 (Wm_at0 G g q I_25 J_25 R_25 L_25) ⟨(Nat.le_of_ble_eq_true rfl), (Nat.le_of_ble_eq_true rfl)⟩ hl.1 rfl (Nat.le_of_ble_eq_true rfl) dX12_must__33 (fun u3 H locs hwr2 hP hD hS => ?_)
      obtain ⟨I4, J5, R6, L7⟩ := u3
      replace hP : va_P G.1 vwCl (Wm G g q I4 J5 R6 L7) H := hP
      replace hD : va_D A (Wm G g q I4 J5 R6 L7) := hD
      obtain ⟨hvI, hvR, tIr2, tRr2, F0r2, F1r2, F2r2, F3r2, F4r2, F5r2⟩ := hwr2
      replace F0r2 : ((I_25 4).toInt ≤ (I4 3).toInt) := F0r2
      replace F1r2 : ((I4 3).toInt ≤ (I4 4).toInt) := F1r2
      replace F2r2 : ((I4 4).toInt ≤ (I_25 1).toInt) := F2r2
      replace F3r2 : ((¬ (I4 2).toInt = 0) → (I4 3).toInt < (I4 4).toInt) := F3r2
      replace F4r2 : ((¬ (I_25 6).toInt = 0) → (¬ (I4 6).toInt = 0)) := F4r2
      replace F5r2 : ((I_25 3).toInt ≤ (I4 3).toInt) := F5r2
      replace hvI : InvI Wm_lo Wm_hi I4 := hvI
      replace hvR : InvR Wm_rl R6 := hvR
      replace tIr2 : SmF ([2, 3, 4, 5, 6, 7] : List Nat) I_25 I4 := tIr2
      replace tRr2 : SmF ([] : List Nat) R_25 R6 := tRr2
      have hv_I4 := hvI
      have hsI := smF_tr hsI tIr2 (by decide)
      have hsR := smF_tr hsR tRr2 (by decide)
      have u_I4_1 : (I4 1).toInt = (I_25 1).toInt := congrArg Int32.toInt (tIr2 1 rfl)
      have w_I4_2 := rg (hvI 2 (by decide)) (0) (3) rfl rfl
      have w_I4_3 := rg (hvI 3 (by decide)) (0) (1800) rfl rfl
      have w_I4_4 := rg (hvI 4 (by decide)) (0) (1800) rfl rfl
      have w_I4_6 := rg (hvI 6 (by decide)) (0) (5) rfl rfl
      rw [hQ]
      exact q_v F hr hlk (I4, J5, R6, L7) hP hD hS ⟨hvI, hvR, hsI, hsR, (show ((I4 3).toInt ≤ (I4 4).toInt) from by omega), (show ((I4 4).toInt ≤ (I0 1).toInt) from by omega), (show ((¬ (I4 2).toInt = 0) → (I4 3).toInt < (I4 4).toInt) from by omega), (show ((¬ (I0 6).toInt = 0) → (¬ (I4 6).toInt = 0)) from by omega), (show ((I0 3).toInt ≤ (I4 3).toInt) from by omega)⟩ dX12_must__36 (Nat.le_of_ble_eq_true rfl) (Nat.le_of_ble_eq_true rfl)
  have w_I0_1 := rg (hvI 1 (by decide)) (0) (1800) rfl rfl
  have w_I0_2 := rg (hvI 2 (by decide)) (0) (3) rfl rfl
  have w_I0_3 := rg (hvI 3 (by decide)) (0) (1800) rfl rfl
  have w_I0_4 := rg (hvI 4 (by decide)) (0) (1800) rfl rfl
  have w_I0_6 := rg (hvI 6 (by decide)) (0) (5) rfl rfl
  refine lv_aload_n hx hb dX12_must__0 rfl (lv_at hl 0 rfl) ?_
  refine g_get F hK hP 0 (Wm_at0 G g q I0 J0 R0 L0) clX12 8 (by decide) flX12_36 rfl dX12_must__1 ?_
  have w_I0_6 := rg (hvI0 6 (by decide)) (0) (5) rfl rfl
  refine lv_if_le (tgt := 8) hx hb dX12_must__4 (by decide) (fun c8 => ?_) (fun c8 => ?_)
  · have gc8 : (I0 6).toInt ≤ 0 := (tle _ _).mp c8
    refine lv_aload_n hx hb dX12_must__8 rfl (lv_at hl 0 rfl) ?_
    refine lv_lload_n hx hb dX12_must__9 rfl (lv_at hl 1 rfl) ?_
    refine wvi (As := [.long p1]) (rest := []) (b := (g 45)) (d := 1) F hK hP hD hS hA (s_X12_isWord l G g q I0 J0 R0 L0 hvI hvR  p1 ) kmV_X12_isWord mlX12_332 clX12 rfl 0 (Wm_at0 G g q I0 J0 R0 L0) ⟨(Nat.le_of_ble_eq_true rfl), (Nat.le_of_ble_eq_true rfl)⟩ hl.1 rfl (Nat.le_of_ble_eq_true rfl) dX12_must__10 (fun r9 u10 H locs hwr9 hP hD hS => ?_)
    have F0r9 := hwr9
    replace F0r9 : ((0 : Int) ≤ r9.toInt ∧ r9.toInt ≤ (1 : Int)) := F0r9
    refine lv_if_ne (tgt := 25) hx hb dX12_must__13 (by decide) (fun c11 => ?_) (fun c11 => ?_)
    · have gc11 : ¬ (r9.toInt = 0) := fun q0 => c11 (Int32.toInt_inj.mp q0)
      exact lab_25  I0 J0 R0 L0 _ _ _ hvI hvR hsI hsR (show ((I0 3).toInt ≤ (I0 4).toInt) from by omega) (show ((I0 4).toInt ≤ (I0 1).toInt) from by omega) (show ((¬ (I0 2).toInt = 0) → (I0 3).toInt < (I0 4).toInt) from by omega) (show ((¬ (I0 6).toInt = 0) → (¬ (I0 6).toInt = 0)) from by omega) (show ((I0 3).toInt ≤ (I0 3).toInt) from by omega) hP hD hS (lv_sub hl [0] rfl)
    · have gc11 : r9.toInt = 0 := congrArg Int32.toInt c11
      refine lv_aload_n hx hb dX12_must__16 rfl (lv_at hl 0 rfl) ?_
      refine lv_iconst (v := 1) hx hb dX12_must__17 (by decide) ?_
      refine lv_aload_n hx hb dX12_must__18 rfl (lv_at hl 0 rfl) ?_
      refine g_get F hK hP 0 (Wm_at0 G g q I0 J0 R0 L0) clX12 4 (by decide) flX12_23 rfl dX12_must__19 ?_
      have w_I0_3 := rg (hvI0 3 (by decide)) (0) (1800) rfl rfl
      refine wvv (As := [.int 1, .int (I0 3)]) (rest := []) (b := (g 45)) (d := 1) F hK hP hD hS hA (s_X12_blame l G g q I0 J0 R0 L0 hvI hvR  1 ((I0 3)) (by decide) (show ((0 : Int) ≤ (I0 3).toInt ∧ (I0 3).toInt ≤ (1800 : Int)) from by omega)) kmV_X12_blame mlX12_240 clX12 rfl 0 (Wm_at0 G g q I0 J0 R0 L0) ⟨(Nat.le_of_ble_eq_true rfl), (Nat.le_of_ble_eq_true rfl)⟩ hl.1 rfl (Nat.le_of_ble_eq_true rfl) dX12_must__22 (fun u13 H locs hwr12 hP hD hS => ?_)
      obtain ⟨I14, J15, R16, L17⟩ := u13
      replace hP : va_P G.1 vwCl (Wm G g q I14 J15 R16 L17) H := hP
      replace hD : va_D A (Wm G g q I14 J15 R16 L17) := hD
      obtain ⟨hvI, hvR, tIr12, tRr12, F0r12⟩ := hwr12
      replace F0r12 : (¬ (I14 6).toInt = 0) := F0r12
      replace hvI : InvI Wm_lo Wm_hi I14 := hvI
      replace hvR : InvR Wm_rl R16 := hvR
      replace tIr12 : SmF ([6, 7] : List Nat) I0 I14 := tIr12
      replace tRr12 : SmF ([] : List Nat) R0 R16 := tRr12
      have hv_I14 := hvI
      have hsI := smF_tr hsI tIr12 (by decide)
      have hsR := smF_tr hsR tRr12 (by decide)
      have u_I14_1 : (I14 1).toInt = (I0 1).toInt := congrArg Int32.toInt (tIr12 1 rfl)
      have u_I14_2 : (I14 2).toInt = (I0 2).toInt := congrArg Int32.toInt (tIr12 2 rfl)
      have u_I14_3 : (I14 3).toInt = (I0 3).toInt := congrArg Int32.toInt (tIr12 3 rfl)
      have u_I14_4 : (I14 4).toInt = (I0 4).toInt := congrArg Int32.toInt (tIr12 4 rfl)
      have w_I14_6 := rg (hvI 6 (by decide)) (0) (5) rfl rfl
      exact lab_25  I14 J15 R16 L17 _ _ _ hvI hvR hsI hsR (show ((I14 3).toInt ≤ (I14 4).toInt) from by omega) (show ((I14 4).toInt ≤ (I0 1).toInt) from by omega) (show ((¬ (I14 2).toInt = 0) → (I14 3).toInt < (I14 4).toInt) from by omega) (show ((¬ (I0 6).toInt = 0) → (¬ (I14 6).toInt = 0)) from by omega) (show ((I0 3).toInt ≤ (I14 3).toInt) from by omega) hP hD hS (lv_sub hl [0] rfl)
  · have gc8 : ¬ ((I0 6).toInt ≤ 0) := fun q0 => c8 ((tle _ _).mpr q0)
    rw [hQ]
    exact q_v F hr hlk (I0, J0, R0, L0) hP hD hS ⟨hvI, hvR, hsI, hsR, (show ((I0 3).toInt ≤ (I0 4).toInt) from by omega), (show ((I0 4).toInt ≤ (I0 1).toInt) from by omega), (show ((¬ (I0 2).toInt = 0) → (I0 3).toInt < (I0 4).toInt) from by omega), (show ((¬ (I0 6).toInt = 0) → (¬ (I0 6).toInt = 0)) from by omega), (show ((I0 3).toInt ≤ (I0 3).toInt) from by omega)⟩ dX12_must__7 (Nat.le_of_ble_eq_true rfl) (Nat.le_of_ble_eq_true rfl)
set_option maxHeartbeats 4000000 in
set_option maxRecDepth 100000 in
theorem s_X12_floor (l : Launch) (G : Gx) (g q : Nat → Nat) (I0 : Nat → Int32) (J0 : Nat → Int64) (R0 : Nat → Nat → Int32) (L0 : Nat → Nat → Int64) (hvI : InvI Wm_lo Wm_hi I0) (hvR : InvR Wm_rl R0)   (hpre0 : ((I0 3).toInt ≤ (I0 4).toInt)) (hpre1 : ((I0 4).toInt ≤ (I0 1).toInt)) (hpre2 : ((¬ (I0 2).toInt = 0) → (I0 3).toInt < (I0 4).toInt)) : CtV (S := St) l yX12_floor cX12_floor 2 none (rmD 4 0 0) G [.ref (g 45)] (Wm G g q I0 J0 R0 L0) (fun u => InvI Wm_lo Wm_hi u.1 ∧ InvR Wm_rl u.2.2.1 ∧ SmF ([2, 3, 4, 5, 6, 7] : List Nat) I0 u.1 ∧ SmF ([1, 2, 3, 4] : List Nat) R0 u.2.2.1 ∧ (((u.1 6).toInt = 0 ∧ ¬ (I0 2).toInt = 0) → (I0 3).toInt < (u.1 3).toInt) ∧ ((u.1 3).toInt ≤ (u.1 4).toInt) ∧ ((u.1 4).toInt ≤ (I0 1).toInt) ∧ ((¬ (u.1 2).toInt = 0) → (u.1 3).toInt < (u.1 4).toInt) ∧ ((¬ (I0 6).toInt = 0) → (¬ (u.1 6).toInt = 0)) ∧ ((I0 3).toInt ≤ (u.1 3).toInt)) (fun u => Wm G g q u.1 u.2.1 u.2.2.1 u.2.2.2) := by
  refine ctV_of (own := RX12) (by decide +kernel) rfl (Nat.le_of_ble_eq_true rfl) ?_
  intro p e s m below meth c A ls F hr hlk hnm hK hP hD hA hS hl
  have hx := F.1
  have hb := F.2.1
  have hown := F.2.2.2.1
  have hl : lv_has ls 2 [(0, .ref (g 45))] := hl
  obtain ⟨Q, hQ⟩ : ∃ Q : State → Prop, Q = MQ below (va_Qv (S := St) (fun u => InvI Wm_lo Wm_hi u.1 ∧ InvR Wm_rl u.2.2.1 ∧ SmF ([2, 3, 4, 5, 6, 7] : List Nat) I0 u.1 ∧ SmF ([1, 2, 3, 4] : List Nat) R0 u.2.2.1 ∧ (((u.1 6).toInt = 0 ∧ ¬ (I0 2).toInt = 0) → (I0 3).toInt < (u.1 3).toInt) ∧ ((u.1 3).toInt ≤ (u.1 4).toInt) ∧ ((u.1 4).toInt ≤ (I0 1).toInt) ∧ ((¬ (u.1 2).toInt = 0) → (u.1 3).toInt < (u.1 4).toInt) ∧ ((¬ (I0 6).toInt = 0) → (¬ (u.1 6).toInt = 0)) ∧ ((I0 3).toInt ≤ (u.1 3).toInt)) (BX G A (fun u => Wm G g q u.1 u.2.1 u.2.2.1 u.2.2.2)) A) [.ref (g 45)].toArray s 0 0 A := ⟨_, rfl⟩
  rw [show (MQ below (va_Qv (S := St) (fun u => InvI Wm_lo Wm_hi u.1 ∧ InvR Wm_rl u.2.2.1 ∧ SmF ([2, 3, 4, 5, 6, 7] : List Nat) I0 u.1 ∧ SmF ([1, 2, 3, 4] : List Nat) R0 u.2.2.1 ∧ (((u.1 6).toInt = 0 ∧ ¬ (I0 2).toInt = 0) → (I0 3).toInt < (u.1 3).toInt) ∧ ((u.1 3).toInt ≤ (u.1 4).toInt) ∧ ((u.1 4).toInt ≤ (I0 1).toInt) ∧ ((¬ (u.1 2).toInt = 0) → (u.1 3).toInt < (u.1 4).toInt) ∧ ((¬ (I0 6).toInt = 0) → (¬ (u.1 6).toInt = 0)) ∧ ((I0 3).toInt ≤ (u.1 3).toInt)) (BX G A (fun u => Wm G g q u.1 u.2.1 u.2.2.1 u.2.2.2)) A) [.ref (g 45)].toArray s (rmD 4 0 0).cells (rmD 4 0 0).slots A) = Q from hQ.symm]
  have hsI := smF_rf ([2, 3, 4, 5, 6, 7] : List Nat) I0
  have hsR := smF_rf ([1, 2, 3, 4] : List Nat) R0
  have hvI0 := hvI
  have lab_19 : ∀ (b0_19 : Int32) (I_19 : Nat → Int32) (J_19 : Nat → Int64) (R_19 : Nat → Nat → Int32) (L_19 : Nat → Nat → Int64) (H : Heap) (locs : List Loc) (ls : Array Slot), InvI Wm_lo Wm_hi I_19 → InvR Wm_rl R_19 → SmF ([2, 3, 4, 5, 6, 7] : List Nat) I0 I_19 → SmF ([1, 2, 3, 4] : List Nat) R0 R_19 → ((0 : Int) ≤ b0_19.toInt ∧ b0_19.toInt ≤ (1 : Int)) → (b0_19.toInt = 0 → (R_19 1 (Int32.toNatClampNeg (I0 12))).toInt ≤ 4) → ((I_19 2).toInt = (I0 2).toInt) → ((I_19 4).toInt = (I0 4).toInt) → ((I_19 3).toInt = (I0 3).toInt) → ((I_19 3).toInt ≤ (I_19 4).toInt) → ((I_19 4).toInt ≤ (I0 1).toInt) → ((¬ (I_19 2).toInt = 0) → (I_19 3).toInt < (I_19 4).toInt) → ((¬ (I0 6).toInt = 0) → (¬ (I_19 6).toInt = 0)) → ((I0 3).toInt ≤ (I_19 3).toInt) → va_P G.1 vwCl (Wm G g q I_19 J_19 R_19 L_19) H → va_D A (Wm G g q I_19 J_19 R_19 L_19) → va_S A s.heap H locs → lv_has ls 2 [(0, .ref (g 45))] → W p l e (rmD 4 0 0) s m [.ref (g 45)].toArray below meth c H locs 0 0 Q (F0 m 19 ls [.int b0_19, .ref (g 45)]) := by
    intro b0_19 I_19 J_19 R_19 L_19 H locs ls hvI hvR hsI hsR y0_19 z0_19 z1_19 z2_19 z3_19 z4_19 z5_19 z6_19 z7_19 z8_19 hP hD hS hl
    have hv_I_19 := hvI
    have w_I_19_1 := rg (hvI 1 (by decide)) (0) (1800) rfl rfl
    have v_I_19_1 : (I_19 1).toInt = (I0 1).toInt := congrArg Int32.toInt (hsI 1 rfl)
    have w_I_19_2 := rg (hvI 2 (by decide)) (0) (3) rfl rfl
    have w_I_19_3 := rg (hvI 3 (by decide)) (0) (1800) rfl rfl
    have w_I_19_4 := rg (hvI 4 (by decide)) (0) (1800) rfl rfl
    have w_I_19_6 := rg (hvI 6 (by decide)) (0) (5) rfl rfl
    have w_I_19_12 := rg (hvI 12 (by decide)) (0) (1) rfl rfl
    have v_I_19_12 : (I_19 12).toInt = (I0 12).toInt := congrArg Int32.toInt (hsI 12 rfl)
    refine wvi (As := [.int b0_19]) (rest := []) (b := (g 45)) (d := 3) F hK hP hD hS hA (s_X12_counts l G g q I_19 J_19 R_19 L_19 hvI hvR  b0_19 (show ((0 : Int) ≤ b0_19.toInt ∧ b0_19.toInt ≤ (1 : Int)) from by omega) (by omega) (by omega) (by omega)) kmV_X12_counts mlX12_358 clX12 rfl 0 (Wm_at0 G g q I_19 J_19 R_19 L_19) ⟨(Nat.le_of_ble_eq_true rfl), (Nat.le_of_ble_eq_true rfl)⟩ hl.1 rfl (Nat.le_of_ble_eq_true rfl) dX12_floor_19 (fun r1 u2 H locs hwr1 hP hD hS => ?_)
    obtain ⟨I3, J4, R5, L6⟩ := u2
    replace hP : va_P G.1 vwCl (Wm G g q I3 J4 R5 L6) H := hP
    replace hD : va_D A (Wm G g q I3 J4 R5 L6) := hD
    obtain ⟨hvI, hvR, tIr1, tRr1, F0r1, F1r1, F2r1, F3r1, F4r1, F5r1, F6r1⟩ := hwr1
    replace F0r1 : ((0 : Int) ≤ r1.toInt ∧ r1.toInt ≤ (1 : Int)) := F0r1
    replace F1r1 : ((r1.toInt = 1 ∧ b0_19.toInt = 0 ∧ (I3 6).toInt = 0 ∧ (I_19 4).toInt ≤ (I3 3).toInt) ∨ (r1.toInt = 0 ∧ ¬ (I3 6).toInt = 0)) := F1r1
    replace F2r1 : ((I3 3).toInt ≤ (I3 4).toInt) := F2r1
    replace F3r1 : ((I3 4).toInt ≤ (I_19 1).toInt) := F3r1
    replace F4r1 : ((¬ (I3 2).toInt = 0) → (I3 3).toInt < (I3 4).toInt) := F4r1
    replace F5r1 : ((¬ (I_19 6).toInt = 0) → (¬ (I3 6).toInt = 0)) := F5r1
    replace F6r1 : ((I_19 3).toInt ≤ (I3 3).toInt) := F6r1
    replace hvI : InvI Wm_lo Wm_hi I3 := hvI
    replace hvR : InvR Wm_rl R5 := hvR
    replace tIr1 : SmF ([2, 3, 4, 5, 6, 7] : List Nat) I_19 I3 := tIr1
    replace tRr1 : SmF ([] : List Nat) R_19 R5 := tRr1
    have hv_I3 := hvI
    have hsI := smF_tr hsI tIr1 (by decide)
    have hsR := smF_tr hsR tRr1 (by decide)
    have u_I3_1 : (I3 1).toInt = (I_19 1).toInt := congrArg Int32.toInt (tIr1 1 rfl)
    have w_I3_2 := rg (hvI 2 (by decide)) (0) (3) rfl rfl
    have w_I3_3 := rg (hvI 3 (by decide)) (0) (1800) rfl rfl
    have w_I3_4 := rg (hvI 4 (by decide)) (0) (1800) rfl rfl
    have w_I3_6 := rg (hvI 6 (by decide)) (0) (5) rfl rfl
    have u_I3_12 : (I3 12).toInt = (I_19 12).toInt := congrArg Int32.toInt (tIr1 12 rfl)
    refine lv_if_ne (tgt := 26) hx hb dX12_floor_22 (by decide) (fun c7 => ?_) (fun c7 => ?_)
    · have gc7 : ¬ (r1.toInt = 0) := fun q0 => c7 (Int32.toInt_inj.mp q0)
      refine lv_iconst (v := 5) hx hb dX12_floor_26 (by decide) ?_
      refine lv_aload_n hx hb dX12_floor_27 rfl (lv_at hl 0 rfl) ?_
      refine g_get F hK hP 0 (Wm_at0 G g q I3 J4 R5 L6) clX12 44 (by decide) flX12_146 rfl dX12_floor_28 ?_
      refine cst_i (hsI 12 rfl) ?_
      have w_I0_12 := rg (hvI0 12 (by decide)) (0) (1) rfl rfl
      refine lv_imul hx hb dX12_floor_31 ?_
      refine lv_topi (fun x8 ex8 => ?_)
      have fx8 : x8.toInt = 5 * (I0 12).toInt := by rw [ex8]; exact t_mul (by show (-2147483648 : Int) ≤ 5 * (I0 12).toInt; omega) (by show 5 * (I0 12).toInt ≤ 2147483647; omega)
      refine lv_aload_n hx hb dX12_floor_32 rfl (lv_at hl 0 rfl) ?_
      refine g_get F hK hP 0 (Wm_at0 G g q I3 J4 R5 L6) clX12 13 (by decide) flX12_51 rfl dX12_floor_33 ?_
      refine lv_aload_n hx hb dX12_floor_36 rfl (lv_at hl 0 rfl) ?_
      refine g_get F hK hP 0 (Wm_at0 G g q I3 J4 R5 L6) clX12 44 (by decide) flX12_146 rfl dX12_floor_37 ?_
      refine cst_i (hsI 12 rfl) ?_
      refine g_iald F hK hP 2 (Wm_at2 G g q I3 J4 R5 L6) (in_of (by omega)) dX12_floor_40 rfl ?_
      refine lv_topi (fun x9 ex9 => ?_)
      have gx9 : x9.toInt = (R_19 1 (Int32.toNatClampNeg (I0 12))).toInt := congrArg Int32.toInt ((ex9).trans (congrFun (tRr1 1 rfl) _))
      have fx9 : ((0 : Int) ≤ x9.toInt ∧ x9.toInt ≤ (5 : Int)) := by rw [ex9]; exact hvR 1 (by decide) _ (clamp_lt (n := 2) (in_of (by omega)))
      refine lv_iadd hx hb dX12_floor_41 ?_
      refine lv_topi (fun x10 ex10 => ?_)
      have fx10 : x10.toInt = x8.toInt + x9.toInt := by rw [ex10]; exact t_add (by show (-2147483648 : Int) ≤ x8.toInt + x9.toInt; omega) (by show x8.toInt + x9.toInt ≤ 2147483647; omega)
      refine lv_istore_n (lv' := [(1, .int x10), (0, .ref (g 45))]) hx hb dX12_floor_42 rfl hl (by decide) rfl (fun ls hl => ?_)
      refine lv_aload_n hx hb dX12_floor_43 rfl (lv_at hl 1 rfl) ?_
      refine g_get F hK hP 0 (Wm_at0 G g q I3 J4 R5 L6) clX12 14 (by decide) flX12_54 rfl dX12_floor_44 ?_
      refine lv_iload_n hx hb dX12_floor_47 rfl (lv_at hl 0 rfl) ?_
      refine lv_aload_n hx hb dX12_floor_48 rfl (lv_at hl 1 rfl) ?_
      refine wvl (As := []) (rest := [.int x10, .ref (g 2)]) (b := (g 45)) (d := 3) F hK hP hD hS hA (s_X12_fresh l G g q I3 J4 R5 L6 hvI hvR   (by omega) (by omega) (by omega)) kmV_X12_fresh mlX12_362 clX12 rfl 0 (Wm_at0 G g q I3 J4 R5 L6) ⟨(Nat.le_of_ble_eq_true rfl), (Nat.le_of_ble_eq_true rfl)⟩ hl.1 rfl (Nat.le_of_ble_eq_true rfl) dX12_floor_49 (fun r11 u12 H locs hwr11 hP hD hS => ?_)
      obtain ⟨I13, J14, R15, L16⟩ := u12
      replace hP : va_P G.1 vwCl (Wm G g q I13 J14 R15 L16) H := hP
      replace hD : va_D A (Wm G g q I13 J14 R15 L16) := hD
      obtain ⟨hvI, hvR, tIr11, tRr11, F0r11, F1r11, F2r11, F3r11, F4r11⟩ := hwr11
      replace F0r11 : ((I13 3).toInt ≤ (I13 4).toInt) := F0r11
      replace F1r11 : ((I13 4).toInt ≤ (I3 1).toInt) := F1r11
      replace F2r11 : ((¬ (I13 2).toInt = 0) → (I13 3).toInt < (I13 4).toInt) := F2r11
      replace F3r11 : ((¬ (I3 6).toInt = 0) → (¬ (I13 6).toInt = 0)) := F3r11
      replace F4r11 : ((I3 3).toInt ≤ (I13 3).toInt) := F4r11
      replace hvI : InvI Wm_lo Wm_hi I13 := hvI
      replace hvR : InvR Wm_rl R15 := hvR
      replace tIr11 : SmF ([2, 3, 4, 5, 6, 7] : List Nat) I3 I13 := tIr11
      replace tRr11 : SmF ([] : List Nat) R5 R15 := tRr11
      have hv_I13 := hvI
      have hsI := smF_tr hsI tIr11 (by decide)
      have hsR := smF_tr hsR tRr11 (by decide)
      have u_I13_1 : (I13 1).toInt = (I3 1).toInt := congrArg Int32.toInt (tIr11 1 rfl)
      have w_I13_2 := rg (hvI 2 (by decide)) (0) (3) rfl rfl
      have w_I13_3 := rg (hvI 3 (by decide)) (0) (1800) rfl rfl
      have w_I13_4 := rg (hvI 4 (by decide)) (0) (1800) rfl rfl
      have w_I13_6 := rg (hvI 6 (by decide)) (0) (5) rfl rfl
      have u_I13_12 : (I13 12).toInt = (I3 12).toInt := congrArg Int32.toInt (tIr11 12 rfl)
      refine p_lrow (W1 := fun y => Wm G g q I13 J14 R15 y) (n := 0) F hK hP hD hS 3 (Wm_at3 G g q I13 J14 R15 L16) (in_of (by omega)) dX12_floor_52 (Wm_rowL0 G g q I13 J14 R15 L16) (fun L17 H locs eL17 hP hD hS => ?_)
      refine lv_aload_n hx hb dX12_floor_53 rfl (lv_at hl 1 rfl) ?_
      refine lv_ldc2 hx hb hown (F.2.2.2.2 _ clX12_252) dX12_floor_54 ?_
      refine wvv (As := [.long 431198792563]) (rest := []) (b := (g 45)) (d := 3) F hK hP hD hS hA (s_X12_must_ l G g q I13 J14 R15 L17 hvI hvR  431198792563 (by omega) (by omega) (by omega)) kmV_X12_must_ mlX12_366 clX12 rfl 0 (Wm_at0 G g q I13 J14 R15 L17) ⟨(Nat.le_of_ble_eq_true rfl), (Nat.le_of_ble_eq_true rfl)⟩ hl.1 rfl (Nat.le_of_ble_eq_true rfl) dX12_floor_57 (fun u19 H locs hwr18 hP hD hS => ?_)
      obtain ⟨I20, J21, R22, L23⟩ := u19
      replace hP : va_P G.1 vwCl (Wm G g q I20 J21 R22 L23) H := hP
      replace hD : va_D A (Wm G g q I20 J21 R22 L23) := hD
      obtain ⟨hvI, hvR, tIr18, tRr18, F0r18, F1r18, F2r18, F3r18, F4r18⟩ := hwr18
      replace F0r18 : ((I20 3).toInt ≤ (I20 4).toInt) := F0r18
      replace F1r18 : ((I20 4).toInt ≤ (I13 1).toInt) := F1r18
      replace F2r18 : ((¬ (I20 2).toInt = 0) → (I20 3).toInt < (I20 4).toInt) := F2r18
      replace F3r18 : ((¬ (I13 6).toInt = 0) → (¬ (I20 6).toInt = 0)) := F3r18
      replace F4r18 : ((I13 3).toInt ≤ (I20 3).toInt) := F4r18
      replace hvI : InvI Wm_lo Wm_hi I20 := hvI
      replace hvR : InvR Wm_rl R22 := hvR
      replace tIr18 : SmF ([2, 3, 4, 5, 6, 7] : List Nat) I13 I20 := tIr18
      replace tRr18 : SmF ([] : List Nat) R15 R22 := tRr18
      have hv_I20 := hvI
      have hsI := smF_tr hsI tIr18 (by decide)
      have hsR := smF_tr hsR tRr18 (by decide)
      have u_I20_1 : (I20 1).toInt = (I13 1).toInt := congrArg Int32.toInt (tIr18 1 rfl)
      have w_I20_2 := rg (hvI 2 (by decide)) (0) (3) rfl rfl
      have w_I20_3 := rg (hvI 3 (by decide)) (0) (1800) rfl rfl
      have w_I20_4 := rg (hvI 4 (by decide)) (0) (1800) rfl rfl
      have w_I20_6 := rg (hvI 6 (by decide)) (0) (5) rfl rfl
      have u_I20_12 : (I20 12).toInt = (I13 12).toInt := congrArg Int32.toInt (tIr18 12 rfl)
      refine lv_aload_n hx hb dX12_floor_60 rfl (lv_at hl 1 rfl) ?_
      refine g_get F hK hP 0 (Wm_at0 G g q I20 J21 R22 L23) clX12 15 (by decide) flX12_58 rfl dX12_floor_61 ?_
      refine lv_iload_n hx hb dX12_floor_64 rfl (lv_at hl 0 rfl) ?_
      refine lv_aload_n hx hb dX12_floor_65 rfl (lv_at hl 1 rfl) ?_
      refine lv_iconst (v := 0) hx hb dX12_floor_66 (by decide) ?_
      refine lv_bipush (v := 20) hx hb dX12_floor_67 (by decide) ?_
      refine wvi (As := [.int 0, .int 20]) (rest := [.int x10, .ref (g 3)]) (b := (g 45)) (d := 3) F hK hP hD hS hA (s_X12_number l G g q I20 J21 R22 L23 hvI hvR  0 20 (by decide) (by decide) (by omega) (by omega) (by omega)) kmV_X12_number mlX12_370 clX12 rfl 0 (Wm_at0 G g q I20 J21 R22 L23) ⟨(Nat.le_of_ble_eq_true rfl), (Nat.le_of_ble_eq_true rfl)⟩ hl.1 rfl (Nat.le_of_ble_eq_true rfl) dX12_floor_69 (fun r24 u25 H locs hwr24 hP hD hS => ?_)
      obtain ⟨I26, J27, R28, L29⟩ := u25
      replace hP : va_P G.1 vwCl (Wm G g q I26 J27 R28 L29) H := hP
      replace hD : va_D A (Wm G g q I26 J27 R28 L29) := hD
      obtain ⟨hvI, hvR, tIr24, tRr24, F0r24, F1r24, F2r24, F3r24, F4r24, F5r24⟩ := hwr24
      replace F0r24 : ((0 : Int) ≤ r24.toInt ∧ r24.toInt ≤ (9999 : Int)) := F0r24
      replace F1r24 : ((I26 3).toInt ≤ (I26 4).toInt) := F1r24
      replace F2r24 : ((I26 4).toInt ≤ (I20 1).toInt) := F2r24
      replace F3r24 : ((¬ (I26 2).toInt = 0) → (I26 3).toInt < (I26 4).toInt) := F3r24
      replace F4r24 : ((¬ (I20 6).toInt = 0) → (¬ (I26 6).toInt = 0)) := F4r24
      replace F5r24 : ((I20 3).toInt ≤ (I26 3).toInt) := F5r24
      replace hvI : InvI Wm_lo Wm_hi I26 := hvI
      replace hvR : InvR Wm_rl R28 := hvR
      replace tIr24 : SmF ([2, 3, 4, 5, 6, 7] : List Nat) I20 I26 := tIr24
      replace tRr24 : SmF ([] : List Nat) R22 R28 := tRr24
      have hv_I26 := hvI
      have hsI := smF_tr hsI tIr24 (by decide)
      have hsR := smF_tr hsR tRr24 (by decide)
      have u_I26_1 : (I26 1).toInt = (I20 1).toInt := congrArg Int32.toInt (tIr24 1 rfl)
      have w_I26_2 := rg (hvI 2 (by decide)) (0) (3) rfl rfl
      have w_I26_3 := rg (hvI 3 (by decide)) (0) (1800) rfl rfl
      have w_I26_4 := rg (hvI 4 (by decide)) (0) (1800) rfl rfl
      have w_I26_6 := rg (hvI 6 (by decide)) (0) (5) rfl rfl
      have u_I26_12 : (I26 12).toInt = (I20 12).toInt := congrArg Int32.toInt (tIr24 12 rfl)
      refine p_row (W1 := fun y => Wm G g q I26 J27 y L29) (n := 2) F hK hP hD hS 4 (Wm_at4 G g q I26 J27 R28 L29) (in_of (by omega)) dX12_floor_72 (Wm_rowR2 G g q I26 J27 R28 L29) (fun R30 H locs eR30 hP hD hS => ?_)
      have hvR : InvR Wm_rl R30 := inv_upR hvR 2 eR30 (upd_in (hvR 2 (by decide)) (show ((0 : Int) ≤ r24.toInt ∧ r24.toInt ≤ (9999 : Int)) from by omega))
      have hsR := smF_up hsR eR30 (by decide)
      refine lv_aload_n hx hb dX12_floor_73 rfl (lv_at hl 1 rfl) ?_
      refine lv_ldc2 hx hb hown (F.2.2.2.2 _ clX12_254) dX12_floor_74 ?_
      refine wvv (As := [.long 474315584357]) (rest := []) (b := (g 45)) (d := 3) F hK hP hD hS hA (s_X12_must_ l G g q I26 J27 R30 L29 hvI hvR  474315584357 (by omega) (by omega) (by omega)) kmV_X12_must_ mlX12_366 clX12 rfl 0 (Wm_at0 G g q I26 J27 R30 L29) ⟨(Nat.le_of_ble_eq_true rfl), (Nat.le_of_ble_eq_true rfl)⟩ hl.1 rfl (Nat.le_of_ble_eq_true rfl) dX12_floor_77 (fun u32 H locs hwr31 hP hD hS => ?_)
      obtain ⟨I33, J34, R35, L36⟩ := u32
      replace hP : va_P G.1 vwCl (Wm G g q I33 J34 R35 L36) H := hP
      replace hD : va_D A (Wm G g q I33 J34 R35 L36) := hD
      obtain ⟨hvI, hvR, tIr31, tRr31, F0r31, F1r31, F2r31, F3r31, F4r31⟩ := hwr31
      replace F0r31 : ((I33 3).toInt ≤ (I33 4).toInt) := F0r31
      replace F1r31 : ((I33 4).toInt ≤ (I26 1).toInt) := F1r31
      replace F2r31 : ((¬ (I33 2).toInt = 0) → (I33 3).toInt < (I33 4).toInt) := F2r31
      replace F3r31 : ((¬ (I26 6).toInt = 0) → (¬ (I33 6).toInt = 0)) := F3r31
      replace F4r31 : ((I26 3).toInt ≤ (I33 3).toInt) := F4r31
      replace hvI : InvI Wm_lo Wm_hi I33 := hvI
      replace hvR : InvR Wm_rl R35 := hvR
      replace tIr31 : SmF ([2, 3, 4, 5, 6, 7] : List Nat) I26 I33 := tIr31
      replace tRr31 : SmF ([] : List Nat) R30 R35 := tRr31
      have hv_I33 := hvI
      have hsI := smF_tr hsI tIr31 (by decide)
      have hsR := smF_tr hsR tRr31 (by decide)
      have u_I33_1 : (I33 1).toInt = (I26 1).toInt := congrArg Int32.toInt (tIr31 1 rfl)
      have w_I33_2 := rg (hvI 2 (by decide)) (0) (3) rfl rfl
      have w_I33_3 := rg (hvI 3 (by decide)) (0) (1800) rfl rfl
      have w_I33_4 := rg (hvI 4 (by decide)) (0) (1800) rfl rfl
      have w_I33_6 := rg (hvI 6 (by decide)) (0) (5) rfl rfl
      have u_I33_12 : (I33 12).toInt = (I26 12).toInt := congrArg Int32.toInt (tIr31 12 rfl)
      refine lv_aload_n hx hb dX12_floor_80 rfl (lv_at hl 1 rfl) ?_
      refine g_get F hK hP 0 (Wm_at0 G g q I33 J34 R35 L36) clX12 16 (by decide) flX12_61 rfl dX12_floor_81 ?_
      refine lv_iload_n hx hb dX12_floor_84 rfl (lv_at hl 0 rfl) ?_
      refine lv_aload_n hx hb dX12_floor_85 rfl (lv_at hl 1 rfl) ?_
      refine lv_iconst (v := 0) hx hb dX12_floor_86 (by decide) ?_
      refine lv_bipush (v := 99) hx hb dX12_floor_87 (by decide) ?_
      refine wvi (As := [.int 0, .int 99]) (rest := [.int x10, .ref (g 4)]) (b := (g 45)) (d := 3) F hK hP hD hS hA (s_X12_number l G g q I33 J34 R35 L36 hvI hvR  0 99 (by decide) (by decide) (by omega) (by omega) (by omega)) kmV_X12_number mlX12_370 clX12 rfl 0 (Wm_at0 G g q I33 J34 R35 L36) ⟨(Nat.le_of_ble_eq_true rfl), (Nat.le_of_ble_eq_true rfl)⟩ hl.1 rfl (Nat.le_of_ble_eq_true rfl) dX12_floor_89 (fun r37 u38 H locs hwr37 hP hD hS => ?_)
      obtain ⟨I39, J40, R41, L42⟩ := u38
      replace hP : va_P G.1 vwCl (Wm G g q I39 J40 R41 L42) H := hP
      replace hD : va_D A (Wm G g q I39 J40 R41 L42) := hD
      obtain ⟨hvI, hvR, tIr37, tRr37, F0r37, F1r37, F2r37, F3r37, F4r37, F5r37⟩ := hwr37
      replace F0r37 : ((0 : Int) ≤ r37.toInt ∧ r37.toInt ≤ (9999 : Int)) := F0r37
      replace F1r37 : ((I39 3).toInt ≤ (I39 4).toInt) := F1r37
      replace F2r37 : ((I39 4).toInt ≤ (I33 1).toInt) := F2r37
      replace F3r37 : ((¬ (I39 2).toInt = 0) → (I39 3).toInt < (I39 4).toInt) := F3r37
      replace F4r37 : ((¬ (I33 6).toInt = 0) → (¬ (I39 6).toInt = 0)) := F4r37
      replace F5r37 : ((I33 3).toInt ≤ (I39 3).toInt) := F5r37
      replace hvI : InvI Wm_lo Wm_hi I39 := hvI
      replace hvR : InvR Wm_rl R41 := hvR
      replace tIr37 : SmF ([2, 3, 4, 5, 6, 7] : List Nat) I33 I39 := tIr37
      replace tRr37 : SmF ([] : List Nat) R35 R41 := tRr37
      have hv_I39 := hvI
      have hsI := smF_tr hsI tIr37 (by decide)
      have hsR := smF_tr hsR tRr37 (by decide)
      have u_I39_1 : (I39 1).toInt = (I33 1).toInt := congrArg Int32.toInt (tIr37 1 rfl)
      have w_I39_2 := rg (hvI 2 (by decide)) (0) (3) rfl rfl
      have w_I39_3 := rg (hvI 3 (by decide)) (0) (1800) rfl rfl
      have w_I39_4 := rg (hvI 4 (by decide)) (0) (1800) rfl rfl
      have w_I39_6 := rg (hvI 6 (by decide)) (0) (5) rfl rfl
      have u_I39_12 : (I39 12).toInt = (I33 12).toInt := congrArg Int32.toInt (tIr37 12 rfl)
      refine p_row (W1 := fun y => Wm G g q I39 J40 y L42) (n := 3) F hK hP hD hS 5 (Wm_at5 G g q I39 J40 R41 L42) (in_of (by omega)) dX12_floor_92 (Wm_rowR3 G g q I39 J40 R41 L42) (fun R43 H locs eR43 hP hD hS => ?_)
      have hvR : InvR Wm_rl R43 := inv_upR hvR 3 eR43 (upd_in (hvR 3 (by decide)) (full _))
      have hsR := smF_up hsR eR43 (by decide)
      refine lv_aload_n hx hb dX12_floor_93 rfl (lv_at hl 1 rfl) ?_
      refine lv_ldc2 hx hb hown (F.2.2.2.2 _ clX12_256) dX12_floor_94 ?_
      refine wvv (As := [.long 1668248436]) (rest := []) (b := (g 45)) (d := 3) F hK hP hD hS hA (s_X12_must_ l G g q I39 J40 R43 L42 hvI hvR  1668248436 (by omega) (by omega) (by omega)) kmV_X12_must_ mlX12_366 clX12 rfl 0 (Wm_at0 G g q I39 J40 R43 L42) ⟨(Nat.le_of_ble_eq_true rfl), (Nat.le_of_ble_eq_true rfl)⟩ hl.1 rfl (Nat.le_of_ble_eq_true rfl) dX12_floor_97 (fun u45 H locs hwr44 hP hD hS => ?_)
      obtain ⟨I46, J47, R48, L49⟩ := u45
      replace hP : va_P G.1 vwCl (Wm G g q I46 J47 R48 L49) H := hP
      replace hD : va_D A (Wm G g q I46 J47 R48 L49) := hD
      obtain ⟨hvI, hvR, tIr44, tRr44, F0r44, F1r44, F2r44, F3r44, F4r44⟩ := hwr44
      replace F0r44 : ((I46 3).toInt ≤ (I46 4).toInt) := F0r44
      replace F1r44 : ((I46 4).toInt ≤ (I39 1).toInt) := F1r44
      replace F2r44 : ((¬ (I46 2).toInt = 0) → (I46 3).toInt < (I46 4).toInt) := F2r44
      replace F3r44 : ((¬ (I39 6).toInt = 0) → (¬ (I46 6).toInt = 0)) := F3r44
      replace F4r44 : ((I39 3).toInt ≤ (I46 3).toInt) := F4r44
      replace hvI : InvI Wm_lo Wm_hi I46 := hvI
      replace hvR : InvR Wm_rl R48 := hvR
      replace tIr44 : SmF ([2, 3, 4, 5, 6, 7] : List Nat) I39 I46 := tIr44
      replace tRr44 : SmF ([] : List Nat) R43 R48 := tRr44
      have hv_I46 := hvI
      have hsI := smF_tr hsI tIr44 (by decide)
      have hsR := smF_tr hsR tRr44 (by decide)
      have u_I46_1 : (I46 1).toInt = (I39 1).toInt := congrArg Int32.toInt (tIr44 1 rfl)
      have w_I46_2 := rg (hvI 2 (by decide)) (0) (3) rfl rfl
      have w_I46_3 := rg (hvI 3 (by decide)) (0) (1800) rfl rfl
      have w_I46_4 := rg (hvI 4 (by decide)) (0) (1800) rfl rfl
      have w_I46_6 := rg (hvI 6 (by decide)) (0) (5) rfl rfl
      have u_I46_12 : (I46 12).toInt = (I39 12).toInt := congrArg Int32.toInt (tIr44 12 rfl)
      refine lv_aload_n hx hb dX12_floor_100 rfl (lv_at hl 1 rfl) ?_
      refine g_get F hK hP 0 (Wm_at0 G g q I46 J47 R48 L49) clX12 17 (by decide) flX12_64 rfl dX12_floor_101 ?_
      refine lv_iload_n hx hb dX12_floor_104 rfl (lv_at hl 0 rfl) ?_
      refine lv_aload_n hx hb dX12_floor_105 rfl (lv_at hl 1 rfl) ?_
      refine lv_iconst (v := 0) hx hb dX12_floor_106 (by decide) ?_
      refine lv_sipush (v := 999) hx hb dX12_floor_107 (by decide) ?_
      refine wvi (As := [.int 0, .int 999]) (rest := [.int x10, .ref (g 5)]) (b := (g 45)) (d := 3) F hK hP hD hS hA (s_X12_number l G g q I46 J47 R48 L49 hvI hvR  0 999 (by decide) (by decide) (by omega) (by omega) (by omega)) kmV_X12_number mlX12_370 clX12 rfl 0 (Wm_at0 G g q I46 J47 R48 L49) ⟨(Nat.le_of_ble_eq_true rfl), (Nat.le_of_ble_eq_true rfl)⟩ hl.1 rfl (Nat.le_of_ble_eq_true rfl) dX12_floor_110 (fun r50 u51 H locs hwr50 hP hD hS => ?_)
      obtain ⟨I52, J53, R54, L55⟩ := u51
      replace hP : va_P G.1 vwCl (Wm G g q I52 J53 R54 L55) H := hP
      replace hD : va_D A (Wm G g q I52 J53 R54 L55) := hD
      obtain ⟨hvI, hvR, tIr50, tRr50, F0r50, F1r50, F2r50, F3r50, F4r50, F5r50⟩ := hwr50
      replace F0r50 : ((0 : Int) ≤ r50.toInt ∧ r50.toInt ≤ (9999 : Int)) := F0r50
      replace F1r50 : ((I52 3).toInt ≤ (I52 4).toInt) := F1r50
      replace F2r50 : ((I52 4).toInt ≤ (I46 1).toInt) := F2r50
      replace F3r50 : ((¬ (I52 2).toInt = 0) → (I52 3).toInt < (I52 4).toInt) := F3r50
      replace F4r50 : ((¬ (I46 6).toInt = 0) → (¬ (I52 6).toInt = 0)) := F4r50
      replace F5r50 : ((I46 3).toInt ≤ (I52 3).toInt) := F5r50
      replace hvI : InvI Wm_lo Wm_hi I52 := hvI
      replace hvR : InvR Wm_rl R54 := hvR
      replace tIr50 : SmF ([2, 3, 4, 5, 6, 7] : List Nat) I46 I52 := tIr50
      replace tRr50 : SmF ([] : List Nat) R48 R54 := tRr50
      have hv_I52 := hvI
      have hsI := smF_tr hsI tIr50 (by decide)
      have hsR := smF_tr hsR tRr50 (by decide)
      have u_I52_1 : (I52 1).toInt = (I46 1).toInt := congrArg Int32.toInt (tIr50 1 rfl)
      have w_I52_2 := rg (hvI 2 (by decide)) (0) (3) rfl rfl
      have w_I52_3 := rg (hvI 3 (by decide)) (0) (1800) rfl rfl
      have w_I52_4 := rg (hvI 4 (by decide)) (0) (1800) rfl rfl
      have w_I52_6 := rg (hvI 6 (by decide)) (0) (5) rfl rfl
      have u_I52_12 : (I52 12).toInt = (I46 12).toInt := congrArg Int32.toInt (tIr50 12 rfl)
      refine p_row (W1 := fun y => Wm G g q I52 J53 y L55) (n := 4) F hK hP hD hS 6 (Wm_at6 G g q I52 J53 R54 L55) (in_of (by omega)) dX12_floor_113 (Wm_rowR4 G g q I52 J53 R54 L55) (fun R56 H locs eR56 hP hD hS => ?_)
      have hvR : InvR Wm_rl R56 := inv_upR hvR 4 eR56 (upd_in (hvR 4 (by decide)) (full _))
      have hsR := smF_up hsR eR56 (by decide)
      refine lv_aload_n hx hb dX12_floor_114 rfl (lv_at hl 1 rfl) ?_
      refine g_get F hK hP 0 (Wm_at0 G g q I52 J53 R56 L55) clX12 8 (by decide) flX12_36 rfl dX12_floor_115 ?_
      have w_I52_6 := rg (hv_I52 6 (by decide)) (0) (5) rfl rfl
      refine lv_if_ne (tgt := 134) hx hb dX12_floor_118 (by decide) (fun c57 => ?_) (fun c57 => ?_)
      · have gc57 : ¬ ((I52 6).toInt = 0) := fun q0 => c57 (Int32.toInt_inj.mp q0)
        rw [hQ]
        exact q_v F hr hlk (I52, J53, R56, L55) hP hD hS ⟨hvI, hvR, hsI, hsR, (show (((I52 6).toInt = 0 ∧ ¬ (I0 2).toInt = 0) → (I0 3).toInt < (I52 3).toInt) from by omega), (show ((I52 3).toInt ≤ (I52 4).toInt) from by omega), (show ((I52 4).toInt ≤ (I0 1).toInt) from by omega), (show ((¬ (I52 2).toInt = 0) → (I52 3).toInt < (I52 4).toInt) from by omega), (show ((¬ (I0 6).toInt = 0) → (¬ (I52 6).toInt = 0)) from by omega), (show ((I0 3).toInt ≤ (I52 3).toInt) from by omega)⟩ dX12_floor_134 (Nat.le_of_ble_eq_true rfl) (Nat.le_of_ble_eq_true rfl)
      · have gc57 : (I52 6).toInt = 0 := congrArg Int32.toInt c57
        refine lv_aload_n hx hb dX12_floor_121 rfl (lv_at hl 1 rfl) ?_
        refine g_get F hK hP 0 (Wm_at0 G g q I52 J53 R56 L55) clX12 13 (by decide) flX12_51 rfl dX12_floor_122 ?_
        refine lv_aload_n hx hb dX12_floor_125 rfl (lv_at hl 1 rfl) ?_
        refine g_get F hK hP 0 (Wm_at0 G g q I52 J53 R56 L55) clX12 44 (by decide) flX12_146 rfl dX12_floor_126 ?_
        refine cst_i (hsI 12 rfl) ?_
        refine lv_dup2_11 hx hb dX12_floor_129 rfl rfl ?_
        refine g_iald F hK hP 2 (Wm_at2 G g q I52 J53 R56 L55) (in_of (by omega)) dX12_floor_130 rfl ?_
        refine lv_topi (fun x58 ex58 => ?_)
        have gx58 : x58.toInt = (R_19 1 (Int32.toNatClampNeg (I0 12))).toInt := congrArg Int32.toInt ((((((((((((ex58).trans (congrFun (up_ne eR56 (by decide)) _)).trans (congrFun (tRr50 1 rfl) _)).trans (congrFun (tRr44 1 rfl) _)).trans (congrFun (up_ne eR43 (by decide)) _)).trans (congrFun (tRr37 1 rfl) _)).trans (congrFun (tRr31 1 rfl) _)).trans (congrFun (up_ne eR30 (by decide)) _)).trans (congrFun (tRr24 1 rfl) _)).trans (congrFun (tRr18 1 rfl) _)).trans (congrFun (tRr11 1 rfl) _)).trans (congrFun (tRr1 1 rfl) _))
        have fx58 : ((0 : Int) ≤ x58.toInt ∧ x58.toInt ≤ (5 : Int)) := by rw [ex58]; exact hvR 1 (by decide) _ (clamp_lt (n := 2) (in_of (by omega)))
        refine lv_iconst (v := 1) hx hb dX12_floor_131 (by decide) ?_
        refine lv_iadd hx hb dX12_floor_132 ?_
        refine lv_topi (fun x59 ex59 => ?_)
        have fx59 : x59.toInt = x58.toInt + 1 := by rw [ex59]; exact t_add (by show (-2147483648 : Int) ≤ x58.toInt + 1; omega) (by show x58.toInt + 1 ≤ 2147483647; omega)
        refine p_row (W1 := fun y => Wm G g q I52 J53 y L55) (n := 1) F hK hP hD hS 2 (Wm_at2 G g q I52 J53 R56 L55) (in_of (by omega)) dX12_floor_133 (Wm_rowR1 G g q I52 J53 R56 L55) (fun R60 H locs eR60 hP hD hS => ?_)
        have hvR : InvR Wm_rl R60 := inv_upR hvR 1 eR60 (upd_in (hvR 1 (by decide)) (show ((0 : Int) ≤ x59.toInt ∧ x59.toInt ≤ (5 : Int)) from by omega))
        have hsR := smF_up hsR eR60 (by decide)
        rw [hQ]
        exact q_v F hr hlk (I52, J53, R60, L55) hP hD hS ⟨hvI, hvR, hsI, hsR, (show (((I52 6).toInt = 0 ∧ ¬ (I0 2).toInt = 0) → (I0 3).toInt < (I52 3).toInt) from by omega), (show ((I52 3).toInt ≤ (I52 4).toInt) from by omega), (show ((I52 4).toInt ≤ (I0 1).toInt) from by omega), (show ((¬ (I52 2).toInt = 0) → (I52 3).toInt < (I52 4).toInt) from by omega), (show ((¬ (I0 6).toInt = 0) → (¬ (I52 6).toInt = 0)) from by omega), (show ((I0 3).toInt ≤ (I52 3).toInt) from by omega)⟩ dX12_floor_134 (Nat.le_of_ble_eq_true rfl) (Nat.le_of_ble_eq_true rfl)
    · have gc7 : r1.toInt = 0 := congrArg Int32.toInt c7
      rw [hQ]
      exact q_v F hr hlk (I3, J4, R5, L6) hP hD hS ⟨hvI, hvR, hsI, hsR, (show (((I3 6).toInt = 0 ∧ ¬ (I0 2).toInt = 0) → (I0 3).toInt < (I3 3).toInt) from by omega), (show ((I3 3).toInt ≤ (I3 4).toInt) from by omega), (show ((I3 4).toInt ≤ (I0 1).toInt) from by omega), (show ((¬ (I3 2).toInt = 0) → (I3 3).toInt < (I3 4).toInt) from by omega), (show ((¬ (I0 6).toInt = 0) → (¬ (I3 6).toInt = 0)) from by omega), (show ((I0 3).toInt ≤ (I3 3).toInt) from by omega)⟩ dX12_floor_25 (Nat.le_of_ble_eq_true rfl) (Nat.le_of_ble_eq_true rfl)
  have w_I0_1 := rg (hvI 1 (by decide)) (0) (1800) rfl rfl
  have w_I0_2 := rg (hvI 2 (by decide)) (0) (3) rfl rfl
  have w_I0_3 := rg (hvI 3 (by decide)) (0) (1800) rfl rfl
  have w_I0_4 := rg (hvI 4 (by decide)) (0) (1800) rfl rfl
  have w_I0_6 := rg (hvI 6 (by decide)) (0) (5) rfl rfl
  have w_I0_12 := rg (hvI 12 (by decide)) (0) (1) rfl rfl
  refine lv_aload_n hx hb dX12_floor_0 rfl (lv_at hl 0 rfl) ?_
  refine lv_aload_n hx hb dX12_floor_1 rfl (lv_at hl 0 rfl) ?_
  refine g_get F hK hP 0 (Wm_at0 G g q I0 J0 R0 L0) clX12 13 (by decide) flX12_51 rfl dX12_floor_2 ?_
  refine lv_aload_n hx hb dX12_floor_5 rfl (lv_at hl 0 rfl) ?_
  refine g_get F hK hP 0 (Wm_at0 G g q I0 J0 R0 L0) clX12 44 (by decide) flX12_146 rfl dX12_floor_6 ?_
  have w_I0_12 := rg (hvI0 12 (by decide)) (0) (1) rfl rfl
  refine g_iald F hK hP 2 (Wm_at2 G g q I0 J0 R0 L0) (in_of (by omega)) dX12_floor_9 rfl ?_
  refine lv_topi (fun x61 ex61 => ?_)
  have gx61 : x61.toInt = (R0 1 (Int32.toNatClampNeg (I0 12))).toInt := congrArg Int32.toInt (ex61)
  have fx61 : ((0 : Int) ≤ x61.toInt ∧ x61.toInt ≤ (5 : Int)) := by rw [ex61]; exact hvR 1 (by decide) _ (clamp_lt (n := 2) (in_of (by omega)))
  refine lv_iconst (v := 5) hx hb dX12_floor_10 (by decide) ?_
  refine lv_icmp_ne (tgt := 18) hx hb dX12_floor_11 (by decide) (fun c62 => ?_) (fun c62 => ?_)
  · have gc62 : ¬ (x61.toInt = 5) := fun q0 => c62 (Int32.toInt_inj.mp q0)
    refine lv_iconst (v := 0) hx hb dX12_floor_18 (by decide) ?_
    exact lab_19 0 I0 J0 R0 L0 _ _ _ hvI hvR hsI hsR (by decide) (show (0 = 0 → (R0 1 (Int32.toNatClampNeg (I0 12))).toInt ≤ 4) from by omega) (show ((I0 2).toInt = (I0 2).toInt) from by omega) (show ((I0 4).toInt = (I0 4).toInt) from by omega) (show ((I0 3).toInt = (I0 3).toInt) from by omega) (show ((I0 3).toInt ≤ (I0 4).toInt) from by omega) (show ((I0 4).toInt ≤ (I0 1).toInt) from by omega) (show ((¬ (I0 2).toInt = 0) → (I0 3).toInt < (I0 4).toInt) from by omega) (show ((¬ (I0 6).toInt = 0) → (¬ (I0 6).toInt = 0)) from by omega) (show ((I0 3).toInt ≤ (I0 3).toInt) from by omega) hP hD hS (lv_sub hl [0] rfl)
  · have gc62 : x61.toInt = 5 := congrArg Int32.toInt c62
    refine lv_iconst (v := 1) hx hb dX12_floor_14 (by decide) ?_
    refine lv_goto (tgt := 19) hx hb dX12_floor_15 (by decide) ?_
    exact lab_19 1 I0 J0 R0 L0 _ _ _ hvI hvR hsI hsR (by decide) (show (1 = 0 → (R0 1 (Int32.toNatClampNeg (I0 12))).toInt ≤ 4) from by omega) (show ((I0 2).toInt = (I0 2).toInt) from by omega) (show ((I0 4).toInt = (I0 4).toInt) from by omega) (show ((I0 3).toInt = (I0 3).toInt) from by omega) (show ((I0 3).toInt ≤ (I0 4).toInt) from by omega) (show ((I0 4).toInt ≤ (I0 1).toInt) from by omega) (show ((¬ (I0 2).toInt = 0) → (I0 3).toInt < (I0 4).toInt) from by omega) (show ((¬ (I0 6).toInt = 0) → (¬ (I0 6).toInt = 0)) from by omega) (show ((I0 3).toInt ≤ (I0 3).toInt) from by omega) hP hD hS (lv_sub hl [0] rfl)
set_option maxHeartbeats 4000000 in
set_option maxRecDepth 100000 in
theorem s_X12_liking (l : Launch) (G : Gx) (g q : Nat → Nat) (I0 : Nat → Int32) (J0 : Nat → Int64) (R0 : Nat → Nat → Int32) (L0 : Nat → Nat → Int64) (hvI : InvI Wm_lo Wm_hi I0) (hvR : InvR Wm_rl R0)   (hpre0 : ((I0 3).toInt ≤ (I0 4).toInt)) (hpre1 : ((I0 4).toInt ≤ (I0 1).toInt)) (hpre2 : ((¬ (I0 2).toInt = 0) → (I0 3).toInt < (I0 4).toInt)) : CtV (S := St) l yX12_liking cX12_liking 4 none (rmD 4 0 0) G [.ref (g 45)] (Wm G g q I0 J0 R0 L0) (fun u => InvI Wm_lo Wm_hi u.1 ∧ InvR Wm_rl u.2.2.1 ∧ SmF ([2, 3, 4, 5, 6, 7] : List Nat) I0 u.1 ∧ SmF ([11] : List Nat) R0 u.2.2.1 ∧ (((u.1 6).toInt = 0 ∧ ¬ (I0 2).toInt = 0) → (I0 3).toInt < (u.1 3).toInt) ∧ ((u.1 3).toInt ≤ (u.1 4).toInt) ∧ ((u.1 4).toInt ≤ (I0 1).toInt) ∧ ((¬ (u.1 2).toInt = 0) → (u.1 3).toInt < (u.1 4).toInt) ∧ ((¬ (I0 6).toInt = 0) → (¬ (u.1 6).toInt = 0)) ∧ ((I0 3).toInt ≤ (u.1 3).toInt)) (fun u => Wm G g q u.1 u.2.1 u.2.2.1 u.2.2.2) := by
  refine ctV_of (own := RX12) (by decide +kernel) rfl (Nat.le_of_ble_eq_true rfl) ?_
  intro p e s m below meth c A ls F hr hlk hnm hK hP hD hA hS hl
  have hx := F.1
  have hb := F.2.1
  have hown := F.2.2.2.1
  have hl : lv_has ls 4 [(0, .ref (g 45))] := hl
  obtain ⟨Q, hQ⟩ : ∃ Q : State → Prop, Q = MQ below (va_Qv (S := St) (fun u => InvI Wm_lo Wm_hi u.1 ∧ InvR Wm_rl u.2.2.1 ∧ SmF ([2, 3, 4, 5, 6, 7] : List Nat) I0 u.1 ∧ SmF ([11] : List Nat) R0 u.2.2.1 ∧ (((u.1 6).toInt = 0 ∧ ¬ (I0 2).toInt = 0) → (I0 3).toInt < (u.1 3).toInt) ∧ ((u.1 3).toInt ≤ (u.1 4).toInt) ∧ ((u.1 4).toInt ≤ (I0 1).toInt) ∧ ((¬ (u.1 2).toInt = 0) → (u.1 3).toInt < (u.1 4).toInt) ∧ ((¬ (I0 6).toInt = 0) → (¬ (u.1 6).toInt = 0)) ∧ ((I0 3).toInt ≤ (u.1 3).toInt)) (BX G A (fun u => Wm G g q u.1 u.2.1 u.2.2.1 u.2.2.2)) A) [.ref (g 45)].toArray s 0 0 A := ⟨_, rfl⟩
  rw [show (MQ below (va_Qv (S := St) (fun u => InvI Wm_lo Wm_hi u.1 ∧ InvR Wm_rl u.2.2.1 ∧ SmF ([2, 3, 4, 5, 6, 7] : List Nat) I0 u.1 ∧ SmF ([11] : List Nat) R0 u.2.2.1 ∧ (((u.1 6).toInt = 0 ∧ ¬ (I0 2).toInt = 0) → (I0 3).toInt < (u.1 3).toInt) ∧ ((u.1 3).toInt ≤ (u.1 4).toInt) ∧ ((u.1 4).toInt ≤ (I0 1).toInt) ∧ ((¬ (u.1 2).toInt = 0) → (u.1 3).toInt < (u.1 4).toInt) ∧ ((¬ (I0 6).toInt = 0) → (¬ (u.1 6).toInt = 0)) ∧ ((I0 3).toInt ≤ (u.1 3).toInt)) (BX G A (fun u => Wm G g q u.1 u.2.1 u.2.2.1 u.2.2.2)) A) [.ref (g 45)].toArray s (rmD 4 0 0).cells (rmD 4 0 0).slots A) = Q from hQ.symm]
  have hsI := smF_rf ([2, 3, 4, 5, 6, 7] : List Nat) I0
  have hsR := smF_rf ([11] : List Nat) R0
  have hvI0 := hvI
  have w_I0_1 := rg (hvI 1 (by decide)) (0) (1800) rfl rfl
  have w_I0_2 := rg (hvI 2 (by decide)) (0) (3) rfl rfl
  have w_I0_3 := rg (hvI 3 (by decide)) (0) (1800) rfl rfl
  have w_I0_4 := rg (hvI 4 (by decide)) (0) (1800) rfl rfl
  have w_I0_6 := rg (hvI 6 (by decide)) (0) (5) rfl rfl
  refine lv_aload_n hx hb dX12_liking_0 rfl (lv_at hl 0 rfl) ?_
  refine lv_iconst (v := 0) hx hb dX12_liking_1 (by decide) ?_
  refine wvi (As := [.int 0]) (rest := []) (b := (g 45)) (d := 3) F hK hP hD hS hA (s_X12_counts l G g q I0 J0 R0 L0 hvI hvR  0 (by decide) (by omega) (by omega) (by omega)) kmV_X12_counts mlX12_358 clX12 rfl 0 (Wm_at0 G g q I0 J0 R0 L0) ⟨(Nat.le_of_ble_eq_true rfl), (Nat.le_of_ble_eq_true rfl)⟩ hl.1 rfl (Nat.le_of_ble_eq_true rfl) dX12_liking_2 (fun r1 u2 H locs hwr1 hP hD hS => ?_)
  obtain ⟨I3, J4, R5, L6⟩ := u2
  replace hP : va_P G.1 vwCl (Wm G g q I3 J4 R5 L6) H := hP
  replace hD : va_D A (Wm G g q I3 J4 R5 L6) := hD
  obtain ⟨hvI, hvR, tIr1, tRr1, F0r1, F1r1, F2r1, F3r1, F4r1, F5r1, F6r1⟩ := hwr1
  replace F0r1 : ((0 : Int) ≤ r1.toInt ∧ r1.toInt ≤ (1 : Int)) := F0r1
  replace F1r1 : ((r1.toInt = 1 ∧ 0 = 0 ∧ (I3 6).toInt = 0 ∧ (I0 4).toInt ≤ (I3 3).toInt) ∨ (r1.toInt = 0 ∧ ¬ (I3 6).toInt = 0)) := F1r1
  replace F2r1 : ((I3 3).toInt ≤ (I3 4).toInt) := F2r1
  replace F3r1 : ((I3 4).toInt ≤ (I0 1).toInt) := F3r1
  replace F4r1 : ((¬ (I3 2).toInt = 0) → (I3 3).toInt < (I3 4).toInt) := F4r1
  replace F5r1 : ((¬ (I0 6).toInt = 0) → (¬ (I3 6).toInt = 0)) := F5r1
  replace F6r1 : ((I0 3).toInt ≤ (I3 3).toInt) := F6r1
  replace hvI : InvI Wm_lo Wm_hi I3 := hvI
  replace hvR : InvR Wm_rl R5 := hvR
  replace tIr1 : SmF ([2, 3, 4, 5, 6, 7] : List Nat) I0 I3 := tIr1
  replace tRr1 : SmF ([] : List Nat) R0 R5 := tRr1
  have hv_I3 := hvI
  have hsI := smF_tr hsI tIr1 (by decide)
  have hsR := smF_tr hsR tRr1 (by decide)
  have u_I3_1 : (I3 1).toInt = (I0 1).toInt := congrArg Int32.toInt (tIr1 1 rfl)
  have w_I3_2 := rg (hvI 2 (by decide)) (0) (3) rfl rfl
  have w_I3_3 := rg (hvI 3 (by decide)) (0) (1800) rfl rfl
  have w_I3_4 := rg (hvI 4 (by decide)) (0) (1800) rfl rfl
  have w_I3_6 := rg (hvI 6 (by decide)) (0) (5) rfl rfl
  refine lv_if_ne (tgt := 9) hx hb dX12_liking_5 (by decide) (fun c7 => ?_) (fun c7 => ?_)
  · have gc7 : ¬ (r1.toInt = 0) := fun q0 => c7 (Int32.toInt_inj.mp q0)
    refine lv_bipush (v := 12) hx hb dX12_liking_9 (by decide) ?_
    refine lv_aload_n hx hb dX12_liking_11 rfl (lv_at hl 0 rfl) ?_
    refine g_get F hK hP 0 (Wm_at0 G g q I3 J4 R5 L6) clX12 44 (by decide) flX12_146 rfl dX12_liking_12 ?_
    refine cst_i (hsI 12 rfl) ?_
    have w_I0_12 := rg (hvI0 12 (by decide)) (0) (1) rfl rfl
    refine lv_imul hx hb dX12_liking_15 ?_
    refine lv_topi (fun x8 ex8 => ?_)
    have fx8 : x8.toInt = 12 * (I0 12).toInt := by rw [ex8]; exact t_mul (by show (-2147483648 : Int) ≤ 12 * (I0 12).toInt; omega) (by show 12 * (I0 12).toInt ≤ 2147483647; omega)
    refine lv_aload_n hx hb dX12_liking_16 rfl (lv_at hl 0 rfl) ?_
    refine lv_iconst (v := 2) hx hb dX12_liking_17 (by decide) ?_
    refine wvi (As := [.int 2]) (rest := [.int x8]) (b := (g 45)) (d := 3) F hK hP hD hS hA (s_X12_asked l G g q I3 J4 R5 L6 hvI hvR  2 (by decide) (by omega) (by omega) (by omega)) kmV_X12_asked mlX12_374 clX12 rfl 0 (Wm_at0 G g q I3 J4 R5 L6) ⟨(Nat.le_of_ble_eq_true rfl), (Nat.le_of_ble_eq_true rfl)⟩ hl.1 rfl (Nat.le_of_ble_eq_true rfl) dX12_liking_18 (fun r9 u10 H locs hwr9 hP hD hS => ?_)
    obtain ⟨I11, J12, R13, L14⟩ := u10
    replace hP : va_P G.1 vwCl (Wm G g q I11 J12 R13 L14) H := hP
    replace hD : va_D A (Wm G g q I11 J12 R13 L14) := hD
    obtain ⟨hvI, hvR, tIr9, tRr9, F0r9, F1r9, F2r9, F3r9, F4r9, F5r9, F6r9, F7r9⟩ := hwr9
    replace F0r9 : ((0 : Int) ≤ r9.toInt ∧ r9.toInt ≤ (11 : Int)) := F0r9
    replace F1r9 : (2 = 0 → r9.toInt ≤ 4) := F1r9
    replace F2r9 : (2 = 1 → r9.toInt ≤ 5) := F2r9
    replace F3r9 : ((I11 3).toInt ≤ (I11 4).toInt) := F3r9
    replace F4r9 : ((I11 4).toInt ≤ (I3 1).toInt) := F4r9
    replace F5r9 : ((¬ (I11 2).toInt = 0) → (I11 3).toInt < (I11 4).toInt) := F5r9
    replace F6r9 : ((¬ (I3 6).toInt = 0) → (¬ (I11 6).toInt = 0)) := F6r9
    replace F7r9 : ((I3 3).toInt ≤ (I11 3).toInt) := F7r9
    replace hvI : InvI Wm_lo Wm_hi I11 := hvI
    replace hvR : InvR Wm_rl R13 := hvR
    replace tIr9 : SmF ([2, 3, 4, 5, 6, 7] : List Nat) I3 I11 := tIr9
    replace tRr9 : SmF ([] : List Nat) R5 R13 := tRr9
    have hv_I11 := hvI
    have hsI := smF_tr hsI tIr9 (by decide)
    have hsR := smF_tr hsR tRr9 (by decide)
    have u_I11_1 : (I11 1).toInt = (I3 1).toInt := congrArg Int32.toInt (tIr9 1 rfl)
    have w_I11_2 := rg (hvI 2 (by decide)) (0) (3) rfl rfl
    have w_I11_3 := rg (hvI 3 (by decide)) (0) (1800) rfl rfl
    have w_I11_4 := rg (hvI 4 (by decide)) (0) (1800) rfl rfl
    have w_I11_6 := rg (hvI 6 (by decide)) (0) (5) rfl rfl
    refine lv_iadd hx hb dX12_liking_21 ?_
    refine lv_topi (fun x15 ex15 => ?_)
    have fx15 : x15.toInt = x8.toInt + r9.toInt := by rw [ex15]; exact t_add (by show (-2147483648 : Int) ≤ x8.toInt + r9.toInt; omega) (by show x8.toInt + r9.toInt ≤ 2147483647; omega)
    refine lv_istore_n (lv' := [(1, .int x15), (0, .ref (g 45))]) hx hb dX12_liking_22 rfl hl (by decide) rfl (fun ls hl => ?_)
    refine lv_aload_n hx hb dX12_liking_23 rfl (lv_at hl 1 rfl) ?_
    refine wvi (As := []) (rest := []) (b := (g 45)) (d := 3) F hK hP hD hS hA (s_X12_dayHere l G g q I11 J12 R13 L14 hvI hvR   (by omega) (by omega) (by omega)) kmV_X12_dayHere mlX12_377 clX12 rfl 0 (Wm_at0 G g q I11 J12 R13 L14) ⟨(Nat.le_of_ble_eq_true rfl), (Nat.le_of_ble_eq_true rfl)⟩ hl.1 rfl (Nat.le_of_ble_eq_true rfl) dX12_liking_24 (fun r16 u17 H locs hwr16 hP hD hS => ?_)
    obtain ⟨I18, J19, R20, L21⟩ := u17
    replace hP : va_P G.1 vwCl (Wm G g q I18 J19 R20 L21) H := hP
    replace hD : va_D A (Wm G g q I18 J19 R20 L21) := hD
    obtain ⟨hvI, hvR, tIr16, tRr16, F0r16, F1r16, F2r16, F3r16, F4r16, F5r16⟩ := hwr16
    replace F0r16 : ((0 : Int) ≤ r16.toInt ∧ r16.toInt ≤ (4 : Int)) := F0r16
    replace F1r16 : ((I18 3).toInt ≤ (I18 4).toInt) := F1r16
    replace F2r16 : ((I18 4).toInt ≤ (I11 1).toInt) := F2r16
    replace F3r16 : ((¬ (I18 2).toInt = 0) → (I18 3).toInt < (I18 4).toInt) := F3r16
    replace F4r16 : ((¬ (I11 6).toInt = 0) → (¬ (I18 6).toInt = 0)) := F4r16
    replace F5r16 : ((I11 3).toInt ≤ (I18 3).toInt) := F5r16
    replace hvI : InvI Wm_lo Wm_hi I18 := hvI
    replace hvR : InvR Wm_rl R20 := hvR
    replace tIr16 : SmF ([2, 3, 4, 5, 6, 7] : List Nat) I11 I18 := tIr16
    replace tRr16 : SmF ([] : List Nat) R13 R20 := tRr16
    have hv_I18 := hvI
    have hsI := smF_tr hsI tIr16 (by decide)
    have hsR := smF_tr hsR tRr16 (by decide)
    have u_I18_1 : (I18 1).toInt = (I11 1).toInt := congrArg Int32.toInt (tIr16 1 rfl)
    have w_I18_2 := rg (hvI 2 (by decide)) (0) (3) rfl rfl
    have w_I18_3 := rg (hvI 3 (by decide)) (0) (1800) rfl rfl
    have w_I18_4 := rg (hvI 4 (by decide)) (0) (1800) rfl rfl
    have w_I18_6 := rg (hvI 6 (by decide)) (0) (5) rfl rfl
    refine lv_istore_n (lv' := [(2, .int r16), (1, .int x15), (0, .ref (g 45))]) hx hb dX12_liking_27 rfl hl (by decide) rfl (fun ls hl => ?_)
    refine lv_aload_n hx hb dX12_liking_28 rfl (lv_at hl 2 rfl) ?_
    refine lv_iconst (v := 0) hx hb dX12_liking_29 (by decide) ?_
    refine lv_bipush (v := 99) hx hb dX12_liking_30 (by decide) ?_
    refine wvi (As := [.int 0, .int 99]) (rest := []) (b := (g 45)) (d := 3) F hK hP hD hS hA (s_X12_number l G g q I18 J19 R20 L21 hvI hvR  0 99 (by decide) (by decide) (by omega) (by omega) (by omega)) kmV_X12_number mlX12_370 clX12 rfl 0 (Wm_at0 G g q I18 J19 R20 L21) ⟨(Nat.le_of_ble_eq_true rfl), (Nat.le_of_ble_eq_true rfl)⟩ hl.1 rfl (Nat.le_of_ble_eq_true rfl) dX12_liking_32 (fun r22 u23 H locs hwr22 hP hD hS => ?_)
    obtain ⟨I24, J25, R26, L27⟩ := u23
    replace hP : va_P G.1 vwCl (Wm G g q I24 J25 R26 L27) H := hP
    replace hD : va_D A (Wm G g q I24 J25 R26 L27) := hD
    obtain ⟨hvI, hvR, tIr22, tRr22, F0r22, F1r22, F2r22, F3r22, F4r22, F5r22⟩ := hwr22
    replace F0r22 : ((0 : Int) ≤ r22.toInt ∧ r22.toInt ≤ (9999 : Int)) := F0r22
    replace F1r22 : ((I24 3).toInt ≤ (I24 4).toInt) := F1r22
    replace F2r22 : ((I24 4).toInt ≤ (I18 1).toInt) := F2r22
    replace F3r22 : ((¬ (I24 2).toInt = 0) → (I24 3).toInt < (I24 4).toInt) := F3r22
    replace F4r22 : ((¬ (I18 6).toInt = 0) → (¬ (I24 6).toInt = 0)) := F4r22
    replace F5r22 : ((I18 3).toInt ≤ (I24 3).toInt) := F5r22
    replace hvI : InvI Wm_lo Wm_hi I24 := hvI
    replace hvR : InvR Wm_rl R26 := hvR
    replace tIr22 : SmF ([2, 3, 4, 5, 6, 7] : List Nat) I18 I24 := tIr22
    replace tRr22 : SmF ([] : List Nat) R20 R26 := tRr22
    have hv_I24 := hvI
    have hsI := smF_tr hsI tIr22 (by decide)
    have hsR := smF_tr hsR tRr22 (by decide)
    have u_I24_1 : (I24 1).toInt = (I18 1).toInt := congrArg Int32.toInt (tIr22 1 rfl)
    have w_I24_2 := rg (hvI 2 (by decide)) (0) (3) rfl rfl
    have w_I24_3 := rg (hvI 3 (by decide)) (0) (1800) rfl rfl
    have w_I24_4 := rg (hvI 4 (by decide)) (0) (1800) rfl rfl
    have w_I24_6 := rg (hvI 6 (by decide)) (0) (5) rfl rfl
    refine lv_istore_n (lv' := [(3, .int r22), (2, .int r16), (1, .int x15), (0, .ref (g 45))]) hx hb dX12_liking_35 rfl hl (by decide) rfl (fun ls hl => ?_)
    refine lv_aload_n hx hb dX12_liking_36 rfl (lv_at hl 3 rfl) ?_
    refine g_get F hK hP 0 (Wm_at0 G g q I24 J25 R26 L27) clX12 8 (by decide) flX12_36 rfl dX12_liking_37 ?_
    have w_I24_6 := rg (hv_I24 6 (by decide)) (0) (5) rfl rfl
    refine lv_if_ne (tgt := 54) hx hb dX12_liking_40 (by decide) (fun c28 => ?_) (fun c28 => ?_)
    · have gc28 : ¬ ((I24 6).toInt = 0) := fun q0 => c28 (Int32.toInt_inj.mp q0)
      rw [hQ]
      exact q_v F hr hlk (I24, J25, R26, L27) hP hD hS ⟨hvI, hvR, hsI, hsR, (show (((I24 6).toInt = 0 ∧ ¬ (I0 2).toInt = 0) → (I0 3).toInt < (I24 3).toInt) from by omega), (show ((I24 3).toInt ≤ (I24 4).toInt) from by omega), (show ((I24 4).toInt ≤ (I0 1).toInt) from by omega), (show ((¬ (I24 2).toInt = 0) → (I24 3).toInt < (I24 4).toInt) from by omega), (show ((¬ (I0 6).toInt = 0) → (¬ (I24 6).toInt = 0)) from by omega), (show ((I0 3).toInt ≤ (I24 3).toInt) from by omega)⟩ dX12_liking_54 (Nat.le_of_ble_eq_true rfl) (Nat.le_of_ble_eq_true rfl)
    · have gc28 : (I24 6).toInt = 0 := congrArg Int32.toInt c28
      refine lv_aload_n hx hb dX12_liking_43 rfl (lv_at hl 3 rfl) ?_
      refine g_get F hK hP 0 (Wm_at0 G g q I24 J25 R26 L27) clX12 26 (by decide) flX12_92 rfl dX12_liking_44 ?_
      refine lv_iconst (v := 5) hx hb dX12_liking_47 (by decide) ?_
      refine lv_iload_n hx hb dX12_liking_48 rfl (lv_at hl 2 rfl) ?_
      refine lv_imul hx hb dX12_liking_49 ?_
      refine lv_topi (fun x29 ex29 => ?_)
      have fx29 : x29.toInt = 5 * x15.toInt := by rw [ex29]; exact t_mul (by show (-2147483648 : Int) ≤ 5 * x15.toInt; omega) (by show 5 * x15.toInt ≤ 2147483647; omega)
      refine lv_iload_n hx hb dX12_liking_50 rfl (lv_at hl 1 rfl) ?_
      refine lv_iadd hx hb dX12_liking_51 ?_
      refine lv_topi (fun x30 ex30 => ?_)
      have fx30 : x30.toInt = x29.toInt + r16.toInt := by rw [ex30]; exact t_add (by show (-2147483648 : Int) ≤ x29.toInt + r16.toInt; omega) (by show x29.toInt + r16.toInt ≤ 2147483647; omega)
      refine lv_iload_n hx hb dX12_liking_52 rfl (lv_at hl 0 rfl) ?_
      refine p_row (W1 := fun y => Wm G g q I24 J25 y L27) (n := 11) F hK hP hD hS 15 (Wm_at15 G g q I24 J25 R26 L27) (in_of (by omega)) dX12_liking_53 (Wm_rowR11 G g q I24 J25 R26 L27) (fun R31 H locs eR31 hP hD hS => ?_)
      have hvR : InvR Wm_rl R31 := inv_upR hvR 11 eR31 (upd_in (hvR 11 (by decide)) (full _))
      have hsR := smF_up hsR eR31 (by decide)
      rw [hQ]
      exact q_v F hr hlk (I24, J25, R31, L27) hP hD hS ⟨hvI, hvR, hsI, hsR, (show (((I24 6).toInt = 0 ∧ ¬ (I0 2).toInt = 0) → (I0 3).toInt < (I24 3).toInt) from by omega), (show ((I24 3).toInt ≤ (I24 4).toInt) from by omega), (show ((I24 4).toInt ≤ (I0 1).toInt) from by omega), (show ((¬ (I24 2).toInt = 0) → (I24 3).toInt < (I24 4).toInt) from by omega), (show ((¬ (I0 6).toInt = 0) → (¬ (I24 6).toInt = 0)) from by omega), (show ((I0 3).toInt ≤ (I24 3).toInt) from by omega)⟩ dX12_liking_54 (Nat.le_of_ble_eq_true rfl) (Nat.le_of_ble_eq_true rfl)
  · have gc7 : r1.toInt = 0 := congrArg Int32.toInt c7
    rw [hQ]
    exact q_v F hr hlk (I3, J4, R5, L6) hP hD hS ⟨hvI, hvR, hsI, hsR, (show (((I3 6).toInt = 0 ∧ ¬ (I0 2).toInt = 0) → (I0 3).toInt < (I3 3).toInt) from by omega), (show ((I3 3).toInt ≤ (I3 4).toInt) from by omega), (show ((I3 4).toInt ≤ (I0 1).toInt) from by omega), (show ((¬ (I3 2).toInt = 0) → (I3 3).toInt < (I3 4).toInt) from by omega), (show ((¬ (I0 6).toInt = 0) → (¬ (I3 6).toInt = 0)) from by omega), (show ((I0 3).toInt ≤ (I3 3).toInt) from by omega)⟩ dX12_liking_8 (Nat.le_of_ble_eq_true rfl) (Nat.le_of_ble_eq_true rfl)
set_option maxHeartbeats 4000000 in
set_option maxRecDepth 100000 in
theorem s_X12_must (l : Launch) (G : Gx) (g q : Nat → Nat) (I0 : Nat → Int32) (J0 : Nat → Int64) (R0 : Nat → Nat → Int32) (L0 : Nat → Nat → Int64) (hvI : InvI Wm_lo Wm_hi I0) (hvR : InvR Wm_rl R0)  (p1 : Int32) (hp1 : ((59 : Int) ≤ p1.toInt ∧ p1.toInt ≤ (59 : Int))) (hpre0 : ((I0 3).toInt ≤ (I0 4).toInt)) (hpre1 : ((I0 4).toInt ≤ (I0 1).toInt)) (hpre2 : ((¬ (I0 2).toInt = 0) → (I0 3).toInt < (I0 4).toInt)) : CtV (S := St) l yX12_must cX12_must 2 none (rmD 3 0 0) G [.ref (g 45), .int p1] (Wm G g q I0 J0 R0 L0) (fun u => InvI Wm_lo Wm_hi u.1 ∧ InvR Wm_rl u.2.2.1 ∧ SmF ([2, 3, 4, 5, 6, 7] : List Nat) I0 u.1 ∧ SmF ([] : List Nat) R0 u.2.2.1 ∧ ((u.1 3).toInt ≤ (u.1 4).toInt) ∧ ((u.1 4).toInt ≤ (I0 1).toInt) ∧ ((¬ (u.1 2).toInt = 0) → (u.1 3).toInt < (u.1 4).toInt) ∧ ((¬ (I0 6).toInt = 0) → (¬ (u.1 6).toInt = 0)) ∧ ((I0 3).toInt ≤ (u.1 3).toInt)) (fun u => Wm G g q u.1 u.2.1 u.2.2.1 u.2.2.2) := by
  refine ctV_of (own := RX12) (by decide +kernel) rfl (Nat.le_of_ble_eq_true rfl) ?_
  intro p e s m below meth c A ls F hr hlk hnm hK hP hD hA hS hl
  have hx := F.1
  have hb := F.2.1
  have hown := F.2.2.2.1
  have hl : lv_has ls 2 [(0, .ref (g 45)), (1, .int p1)] := hl
  obtain ⟨Q, hQ⟩ : ∃ Q : State → Prop, Q = MQ below (va_Qv (S := St) (fun u => InvI Wm_lo Wm_hi u.1 ∧ InvR Wm_rl u.2.2.1 ∧ SmF ([2, 3, 4, 5, 6, 7] : List Nat) I0 u.1 ∧ SmF ([] : List Nat) R0 u.2.2.1 ∧ ((u.1 3).toInt ≤ (u.1 4).toInt) ∧ ((u.1 4).toInt ≤ (I0 1).toInt) ∧ ((¬ (u.1 2).toInt = 0) → (u.1 3).toInt < (u.1 4).toInt) ∧ ((¬ (I0 6).toInt = 0) → (¬ (u.1 6).toInt = 0)) ∧ ((I0 3).toInt ≤ (u.1 3).toInt)) (BX G A (fun u => Wm G g q u.1 u.2.1 u.2.2.1 u.2.2.2)) A) [.ref (g 45), .int p1].toArray s 0 0 A := ⟨_, rfl⟩
  rw [show (MQ below (va_Qv (S := St) (fun u => InvI Wm_lo Wm_hi u.1 ∧ InvR Wm_rl u.2.2.1 ∧ SmF ([2, 3, 4, 5, 6, 7] : List Nat) I0 u.1 ∧ SmF ([] : List Nat) R0 u.2.2.1 ∧ ((u.1 3).toInt ≤ (u.1 4).toInt) ∧ ((u.1 4).toInt ≤ (I0 1).toInt) ∧ ((¬ (u.1 2).toInt = 0) → (u.1 3).toInt < (u.1 4).toInt) ∧ ((¬ (I0 6).toInt = 0) → (¬ (u.1 6).toInt = 0)) ∧ ((I0 3).toInt ≤ (u.1 3).toInt)) (BX G A (fun u => Wm G g q u.1 u.2.1 u.2.2.1 u.2.2.2)) A) [.ref (g 45), .int p1].toArray s (rmD 3 0 0).cells (rmD 3 0 0).slots A) = Q from hQ.symm]
  have hsI := smF_rf ([2, 3, 4, 5, 6, 7] : List Nat) I0
  have hsR := smF_rf ([] : List Nat) R0
  have hvI0 := hvI
  have lab_17 : ∀  (I_17 : Nat → Int32) (J_17 : Nat → Int64) (R_17 : Nat → Nat → Int32) (L_17 : Nat → Nat → Int64) (H : Heap) (locs : List Loc) (ls : Array Slot), InvI Wm_lo Wm_hi I_17 → InvR Wm_rl R_17 → SmF ([2, 3, 4, 5, 6, 7] : List Nat) I0 I_17 → SmF ([] : List Nat) R0 R_17 → ((I_17 3).toInt ≤ (I_17 4).toInt) → ((I_17 4).toInt ≤ (I0 1).toInt) → ((¬ (I_17 2).toInt = 0) → (I_17 3).toInt < (I_17 4).toInt) → ((¬ (I0 6).toInt = 0) → (¬ (I_17 6).toInt = 0)) → ((I0 3).toInt ≤ (I_17 3).toInt) → va_P G.1 vwCl (Wm G g q I_17 J_17 R_17 L_17) H → va_D A (Wm G g q I_17 J_17 R_17 L_17) → va_S A s.heap H locs → lv_has ls 2 [(0, .ref (g 45))] → W p l e (rmD 3 0 0) s m [.ref (g 45), .int p1].toArray below meth c H locs 0 0 Q (F0 m 17 ls []) := by
    intro I_17 J_17 R_17 L_17 H locs ls hvI hvR hsI hsR z0_17 z1_17 z2_17 z3_17 z4_17 hP hD hS hl
    have hv_I_17 := hvI
    have w_I_17_1 := rg (hvI 1 (by decide)) (0) (1800) rfl rfl
    have v_I_17_1 : (I_17 1).toInt = (I0 1).toInt := congrArg Int32.toInt (hsI 1 rfl)
    have w_I_17_2 := rg (hvI 2 (by decide)) (0) (3) rfl rfl
    have w_I_17_3 := rg (hvI 3 (by decide)) (0) (1800) rfl rfl
    have w_I_17_4 := rg (hvI 4 (by decide)) (0) (1800) rfl rfl
    have w_I_17_6 := rg (hvI 6 (by decide)) (0) (5) rfl rfl
    refine lv_aload_n hx hb dX12_must_17 rfl (lv_at hl 0 rfl) ?_
    refine g_get F hK hP 0 (Wm_at0 G g q I_17 J_17 R_17 L_17) clX12 8 (by decide) flX12_36 rfl dX12_must_18 ?_
    have w_I_17_6 := rg (hv_I_17 6 (by decide)) (0) (5) rfl rfl
    refine lv_if_ne (tgt := 28) hx hb dX12_must_21 (by decide) (fun c1 => ?_) (fun c1 => ?_)
    · have gc1 : ¬ ((I_17 6).toInt = 0) := fun q0 => c1 (Int32.toInt_inj.mp q0)
      rw [hQ]
      exact q_v F hr hlk (I_17, J_17, R_17, L_17) hP hD hS ⟨hvI, hvR, hsI, hsR, (show ((I_17 3).toInt ≤ (I_17 4).toInt) from by omega), (show ((I_17 4).toInt ≤ (I0 1).toInt) from by omega), (show ((¬ (I_17 2).toInt = 0) → (I_17 3).toInt < (I_17 4).toInt) from by omega), (show ((¬ (I0 6).toInt = 0) → (¬ (I_17 6).toInt = 0)) from by omega), (show ((I0 3).toInt ≤ (I_17 3).toInt) from by omega)⟩ dX12_must_28 (Nat.le_of_ble_eq_true rfl) (Nat.le_of_ble_eq_true rfl)
    · have gc1 : (I_17 6).toInt = 0 := congrArg Int32.toInt c1
      refine lv_aload_n hx hb dX12_must_24 rfl (lv_at hl 0 rfl) ?_
      refine wvv (As := []) (rest := []) (b := (g 45)) (d := 2) F hK hP hD hS hA (s_X12_ahead l G g q I_17 J_17 R_17 L_17 hvI hvR   (by omega) (by omega) (by omega)) kmV_X12_ahead mlX12_247 clX12 rfl 0 (Wm_at0 G g q I_17 J_17 R_17 L_17) ⟨(Nat.le_of_ble_eq_true rfl), (Nat.le_of_ble_eq_true rfl)⟩ hl.1 rfl (Nat.le_of_ble_eq_true rfl) dX12_must_25 (fun u3 H locs hwr2 hP hD hS => ?_)
      obtain ⟨I4, J5, R6, L7⟩ := u3
      replace hP : va_P G.1 vwCl (Wm G g q I4 J5 R6 L7) H := hP
      replace hD : va_D A (Wm G g q I4 J5 R6 L7) := hD
      obtain ⟨hvI, hvR, tIr2, tRr2, F0r2, F1r2, F2r2, F3r2, F4r2, F5r2⟩ := hwr2
      replace F0r2 : ((I_17 4).toInt ≤ (I4 3).toInt) := F0r2
      replace F1r2 : ((I4 3).toInt ≤ (I4 4).toInt) := F1r2
      replace F2r2 : ((I4 4).toInt ≤ (I_17 1).toInt) := F2r2
      replace F3r2 : ((¬ (I4 2).toInt = 0) → (I4 3).toInt < (I4 4).toInt) := F3r2
      replace F4r2 : ((¬ (I_17 6).toInt = 0) → (¬ (I4 6).toInt = 0)) := F4r2
      replace F5r2 : ((I_17 3).toInt ≤ (I4 3).toInt) := F5r2
      replace hvI : InvI Wm_lo Wm_hi I4 := hvI
      replace hvR : InvR Wm_rl R6 := hvR
      replace tIr2 : SmF ([2, 3, 4, 5, 6, 7] : List Nat) I_17 I4 := tIr2
      replace tRr2 : SmF ([] : List Nat) R_17 R6 := tRr2
      have hv_I4 := hvI
      have hsI := smF_tr hsI tIr2 (by decide)
      have hsR := smF_tr hsR tRr2 (by decide)
      have u_I4_1 : (I4 1).toInt = (I_17 1).toInt := congrArg Int32.toInt (tIr2 1 rfl)
      have w_I4_2 := rg (hvI 2 (by decide)) (0) (3) rfl rfl
      have w_I4_3 := rg (hvI 3 (by decide)) (0) (1800) rfl rfl
      have w_I4_4 := rg (hvI 4 (by decide)) (0) (1800) rfl rfl
      have w_I4_6 := rg (hvI 6 (by decide)) (0) (5) rfl rfl
      rw [hQ]
      exact q_v F hr hlk (I4, J5, R6, L7) hP hD hS ⟨hvI, hvR, hsI, hsR, (show ((I4 3).toInt ≤ (I4 4).toInt) from by omega), (show ((I4 4).toInt ≤ (I0 1).toInt) from by omega), (show ((¬ (I4 2).toInt = 0) → (I4 3).toInt < (I4 4).toInt) from by omega), (show ((¬ (I0 6).toInt = 0) → (¬ (I4 6).toInt = 0)) from by omega), (show ((I0 3).toInt ≤ (I4 3).toInt) from by omega)⟩ dX12_must_28 (Nat.le_of_ble_eq_true rfl) (Nat.le_of_ble_eq_true rfl)
  have w_I0_1 := rg (hvI 1 (by decide)) (0) (1800) rfl rfl
  have w_I0_2 := rg (hvI 2 (by decide)) (0) (3) rfl rfl
  have w_I0_3 := rg (hvI 3 (by decide)) (0) (1800) rfl rfl
  have w_I0_4 := rg (hvI 4 (by decide)) (0) (1800) rfl rfl
  have w_I0_6 := rg (hvI 6 (by decide)) (0) (5) rfl rfl
  refine lv_aload_n hx hb dX12_must_0 rfl (lv_at hl 0 rfl) ?_
  refine lv_iload_n hx hb dX12_must_1 rfl (lv_at hl 1 rfl) ?_
  refine wvi (As := [.int p1]) (rest := []) (b := (g 45)) (d := 1) F hK hP hD hS hA (s_X12_isSign l G g q I0 J0 R0 L0 hvI hvR  p1 (show ((37 : Int) ≤ p1.toInt ∧ p1.toInt ≤ (93 : Int)) from by omega)) kmV_X12_isSign mlX12_244 clX12 rfl 0 (Wm_at0 G g q I0 J0 R0 L0) ⟨(Nat.le_of_ble_eq_true rfl), (Nat.le_of_ble_eq_true rfl)⟩ hl.1 rfl (Nat.le_of_ble_eq_true rfl) dX12_must_2 (fun r8 u9 H locs hwr8 hP hD hS => ?_)
  have F0r8 := hwr8
  replace F0r8 : ((0 : Int) ≤ r8.toInt ∧ r8.toInt ≤ (1 : Int)) := F0r8
  refine lv_if_ne (tgt := 17) hx hb dX12_must_5 (by decide) (fun c10 => ?_) (fun c10 => ?_)
  · have gc10 : ¬ (r8.toInt = 0) := fun q0 => c10 (Int32.toInt_inj.mp q0)
    exact lab_17  I0 J0 R0 L0 _ _ _ hvI hvR hsI hsR (show ((I0 3).toInt ≤ (I0 4).toInt) from by omega) (show ((I0 4).toInt ≤ (I0 1).toInt) from by omega) (show ((¬ (I0 2).toInt = 0) → (I0 3).toInt < (I0 4).toInt) from by omega) (show ((¬ (I0 6).toInt = 0) → (¬ (I0 6).toInt = 0)) from by omega) (show ((I0 3).toInt ≤ (I0 3).toInt) from by omega) hP hD hS (lv_sub hl [0] rfl)
  · have gc10 : r8.toInt = 0 := congrArg Int32.toInt c10
    refine lv_aload_n hx hb dX12_must_8 rfl (lv_at hl 0 rfl) ?_
    refine lv_iconst (v := 1) hx hb dX12_must_9 (by decide) ?_
    refine lv_aload_n hx hb dX12_must_10 rfl (lv_at hl 0 rfl) ?_
    refine g_get F hK hP 0 (Wm_at0 G g q I0 J0 R0 L0) clX12 4 (by decide) flX12_23 rfl dX12_must_11 ?_
    have w_I0_3 := rg (hvI0 3 (by decide)) (0) (1800) rfl rfl
    refine wvv (As := [.int 1, .int (I0 3)]) (rest := []) (b := (g 45)) (d := 1) F hK hP hD hS hA (s_X12_blame l G g q I0 J0 R0 L0 hvI hvR  1 ((I0 3)) (by decide) (show ((0 : Int) ≤ (I0 3).toInt ∧ (I0 3).toInt ≤ (1800 : Int)) from by omega)) kmV_X12_blame mlX12_240 clX12 rfl 0 (Wm_at0 G g q I0 J0 R0 L0) ⟨(Nat.le_of_ble_eq_true rfl), (Nat.le_of_ble_eq_true rfl)⟩ hl.1 rfl (Nat.le_of_ble_eq_true rfl) dX12_must_14 (fun u12 H locs hwr11 hP hD hS => ?_)
    obtain ⟨I13, J14, R15, L16⟩ := u12
    replace hP : va_P G.1 vwCl (Wm G g q I13 J14 R15 L16) H := hP
    replace hD : va_D A (Wm G g q I13 J14 R15 L16) := hD
    obtain ⟨hvI, hvR, tIr11, tRr11, F0r11⟩ := hwr11
    replace F0r11 : (¬ (I13 6).toInt = 0) := F0r11
    replace hvI : InvI Wm_lo Wm_hi I13 := hvI
    replace hvR : InvR Wm_rl R15 := hvR
    replace tIr11 : SmF ([6, 7] : List Nat) I0 I13 := tIr11
    replace tRr11 : SmF ([] : List Nat) R0 R15 := tRr11
    have hv_I13 := hvI
    have hsI := smF_tr hsI tIr11 (by decide)
    have hsR := smF_tr hsR tRr11 (by decide)
    have u_I13_1 : (I13 1).toInt = (I0 1).toInt := congrArg Int32.toInt (tIr11 1 rfl)
    have u_I13_2 : (I13 2).toInt = (I0 2).toInt := congrArg Int32.toInt (tIr11 2 rfl)
    have u_I13_3 : (I13 3).toInt = (I0 3).toInt := congrArg Int32.toInt (tIr11 3 rfl)
    have u_I13_4 : (I13 4).toInt = (I0 4).toInt := congrArg Int32.toInt (tIr11 4 rfl)
    have w_I13_6 := rg (hvI 6 (by decide)) (0) (5) rfl rfl
    exact lab_17  I13 J14 R15 L16 _ _ _ hvI hvR hsI hsR (show ((I13 3).toInt ≤ (I13 4).toInt) from by omega) (show ((I13 4).toInt ≤ (I0 1).toInt) from by omega) (show ((¬ (I13 2).toInt = 0) → (I13 3).toInt < (I13 4).toInt) from by omega) (show ((¬ (I0 6).toInt = 0) → (¬ (I13 6).toInt = 0)) from by omega) (show ((I0 3).toInt ≤ (I13 3).toInt) from by omega) hP hD hS (lv_sub hl [0] rfl)
set_option maxHeartbeats 4000000 in
set_option maxRecDepth 100000 in
theorem s_X12_meeting (l : Launch) (G : Gx) (g q : Nat → Nat) (I0 : Nat → Int32) (J0 : Nat → Int64) (R0 : Nat → Nat → Int32) (L0 : Nat → Nat → Int64) (hvI : InvI Wm_lo Wm_hi I0) (hvR : InvR Wm_rl R0)   (hpre0 : ((I0 3).toInt ≤ (I0 4).toInt)) (hpre1 : ((I0 4).toInt ≤ (I0 1).toInt)) (hpre2 : ((¬ (I0 2).toInt = 0) → (I0 3).toInt < (I0 4).toInt)) : CtV (S := St) l yX12_meeting cX12_meeting 2 none (rmD 4 0 0) G [.ref (g 45)] (Wm G g q I0 J0 R0 L0) (fun u => InvI Wm_lo Wm_hi u.1 ∧ InvR Wm_rl u.2.2.1 ∧ SmF ([2, 3, 4, 5, 6, 7] : List Nat) I0 u.1 ∧ SmF ([6] : List Nat) R0 u.2.2.1 ∧ (((u.1 6).toInt = 0 ∧ ¬ (I0 2).toInt = 0) → (I0 3).toInt < (u.1 3).toInt) ∧ ((u.1 3).toInt ≤ (u.1 4).toInt) ∧ ((u.1 4).toInt ≤ (I0 1).toInt) ∧ ((¬ (u.1 2).toInt = 0) → (u.1 3).toInt < (u.1 4).toInt) ∧ ((¬ (I0 6).toInt = 0) → (¬ (u.1 6).toInt = 0)) ∧ ((I0 3).toInt ≤ (u.1 3).toInt)) (fun u => Wm G g q u.1 u.2.1 u.2.2.1 u.2.2.2) := by
  refine ctV_of (own := RX12) (by decide +kernel) rfl (Nat.le_of_ble_eq_true rfl) ?_
  intro p e s m below meth c A ls F hr hlk hnm hK hP hD hA hS hl
  have hx := F.1
  have hb := F.2.1
  have hown := F.2.2.2.1
  have hl : lv_has ls 2 [(0, .ref (g 45))] := hl
  obtain ⟨Q, hQ⟩ : ∃ Q : State → Prop, Q = MQ below (va_Qv (S := St) (fun u => InvI Wm_lo Wm_hi u.1 ∧ InvR Wm_rl u.2.2.1 ∧ SmF ([2, 3, 4, 5, 6, 7] : List Nat) I0 u.1 ∧ SmF ([6] : List Nat) R0 u.2.2.1 ∧ (((u.1 6).toInt = 0 ∧ ¬ (I0 2).toInt = 0) → (I0 3).toInt < (u.1 3).toInt) ∧ ((u.1 3).toInt ≤ (u.1 4).toInt) ∧ ((u.1 4).toInt ≤ (I0 1).toInt) ∧ ((¬ (u.1 2).toInt = 0) → (u.1 3).toInt < (u.1 4).toInt) ∧ ((¬ (I0 6).toInt = 0) → (¬ (u.1 6).toInt = 0)) ∧ ((I0 3).toInt ≤ (u.1 3).toInt)) (BX G A (fun u => Wm G g q u.1 u.2.1 u.2.2.1 u.2.2.2)) A) [.ref (g 45)].toArray s 0 0 A := ⟨_, rfl⟩
  rw [show (MQ below (va_Qv (S := St) (fun u => InvI Wm_lo Wm_hi u.1 ∧ InvR Wm_rl u.2.2.1 ∧ SmF ([2, 3, 4, 5, 6, 7] : List Nat) I0 u.1 ∧ SmF ([6] : List Nat) R0 u.2.2.1 ∧ (((u.1 6).toInt = 0 ∧ ¬ (I0 2).toInt = 0) → (I0 3).toInt < (u.1 3).toInt) ∧ ((u.1 3).toInt ≤ (u.1 4).toInt) ∧ ((u.1 4).toInt ≤ (I0 1).toInt) ∧ ((¬ (u.1 2).toInt = 0) → (u.1 3).toInt < (u.1 4).toInt) ∧ ((¬ (I0 6).toInt = 0) → (¬ (u.1 6).toInt = 0)) ∧ ((I0 3).toInt ≤ (u.1 3).toInt)) (BX G A (fun u => Wm G g q u.1 u.2.1 u.2.2.1 u.2.2.2)) A) [.ref (g 45)].toArray s (rmD 4 0 0).cells (rmD 4 0 0).slots A) = Q from hQ.symm]
  have hsI := smF_rf ([2, 3, 4, 5, 6, 7] : List Nat) I0
  have hsR := smF_rf ([6] : List Nat) R0
  have hvI0 := hvI
  have w_I0_1 := rg (hvI 1 (by decide)) (0) (1800) rfl rfl
  have w_I0_2 := rg (hvI 2 (by decide)) (0) (3) rfl rfl
  have w_I0_3 := rg (hvI 3 (by decide)) (0) (1800) rfl rfl
  have w_I0_4 := rg (hvI 4 (by decide)) (0) (1800) rfl rfl
  have w_I0_6 := rg (hvI 6 (by decide)) (0) (5) rfl rfl
  refine lv_aload_n hx hb dX12_meeting_0 rfl (lv_at hl 0 rfl) ?_
  refine lv_iconst (v := 0) hx hb dX12_meeting_1 (by decide) ?_
  refine wvi (As := [.int 0]) (rest := []) (b := (g 45)) (d := 3) F hK hP hD hS hA (s_X12_counts l G g q I0 J0 R0 L0 hvI hvR  0 (by decide) (by omega) (by omega) (by omega)) kmV_X12_counts mlX12_358 clX12 rfl 0 (Wm_at0 G g q I0 J0 R0 L0) ⟨(Nat.le_of_ble_eq_true rfl), (Nat.le_of_ble_eq_true rfl)⟩ hl.1 rfl (Nat.le_of_ble_eq_true rfl) dX12_meeting_2 (fun r1 u2 H locs hwr1 hP hD hS => ?_)
  obtain ⟨I3, J4, R5, L6⟩ := u2
  replace hP : va_P G.1 vwCl (Wm G g q I3 J4 R5 L6) H := hP
  replace hD : va_D A (Wm G g q I3 J4 R5 L6) := hD
  obtain ⟨hvI, hvR, tIr1, tRr1, F0r1, F1r1, F2r1, F3r1, F4r1, F5r1, F6r1⟩ := hwr1
  replace F0r1 : ((0 : Int) ≤ r1.toInt ∧ r1.toInt ≤ (1 : Int)) := F0r1
  replace F1r1 : ((r1.toInt = 1 ∧ 0 = 0 ∧ (I3 6).toInt = 0 ∧ (I0 4).toInt ≤ (I3 3).toInt) ∨ (r1.toInt = 0 ∧ ¬ (I3 6).toInt = 0)) := F1r1
  replace F2r1 : ((I3 3).toInt ≤ (I3 4).toInt) := F2r1
  replace F3r1 : ((I3 4).toInt ≤ (I0 1).toInt) := F3r1
  replace F4r1 : ((¬ (I3 2).toInt = 0) → (I3 3).toInt < (I3 4).toInt) := F4r1
  replace F5r1 : ((¬ (I0 6).toInt = 0) → (¬ (I3 6).toInt = 0)) := F5r1
  replace F6r1 : ((I0 3).toInt ≤ (I3 3).toInt) := F6r1
  replace hvI : InvI Wm_lo Wm_hi I3 := hvI
  replace hvR : InvR Wm_rl R5 := hvR
  replace tIr1 : SmF ([2, 3, 4, 5, 6, 7] : List Nat) I0 I3 := tIr1
  replace tRr1 : SmF ([] : List Nat) R0 R5 := tRr1
  have hv_I3 := hvI
  have hsI := smF_tr hsI tIr1 (by decide)
  have hsR := smF_tr hsR tRr1 (by decide)
  have u_I3_1 : (I3 1).toInt = (I0 1).toInt := congrArg Int32.toInt (tIr1 1 rfl)
  have w_I3_2 := rg (hvI 2 (by decide)) (0) (3) rfl rfl
  have w_I3_3 := rg (hvI 3 (by decide)) (0) (1800) rfl rfl
  have w_I3_4 := rg (hvI 4 (by decide)) (0) (1800) rfl rfl
  have w_I3_6 := rg (hvI 6 (by decide)) (0) (5) rfl rfl
  refine lv_if_ne (tgt := 9) hx hb dX12_meeting_5 (by decide) (fun c7 => ?_) (fun c7 => ?_)
  · have gc7 : ¬ (r1.toInt = 0) := fun q0 => c7 (Int32.toInt_inj.mp q0)
    refine lv_aload_n hx hb dX12_meeting_9 rfl (lv_at hl 0 rfl) ?_
    refine lv_iconst (v := 1) hx hb dX12_meeting_10 (by decide) ?_
    refine wvi (As := [.int 1]) (rest := []) (b := (g 45)) (d := 3) F hK hP hD hS hA (s_X12_asked l G g q I3 J4 R5 L6 hvI hvR  1 (by decide) (by omega) (by omega) (by omega)) kmV_X12_asked mlX12_374 clX12 rfl 0 (Wm_at0 G g q I3 J4 R5 L6) ⟨(Nat.le_of_ble_eq_true rfl), (Nat.le_of_ble_eq_true rfl)⟩ hl.1 rfl (Nat.le_of_ble_eq_true rfl) dX12_meeting_11 (fun r8 u9 H locs hwr8 hP hD hS => ?_)
    obtain ⟨I10, J11, R12, L13⟩ := u9
    replace hP : va_P G.1 vwCl (Wm G g q I10 J11 R12 L13) H := hP
    replace hD : va_D A (Wm G g q I10 J11 R12 L13) := hD
    obtain ⟨hvI, hvR, tIr8, tRr8, F0r8, F1r8, F2r8, F3r8, F4r8, F5r8, F6r8, F7r8⟩ := hwr8
    replace F0r8 : ((0 : Int) ≤ r8.toInt ∧ r8.toInt ≤ (11 : Int)) := F0r8
    replace F1r8 : (1 = 0 → r8.toInt ≤ 4) := F1r8
    replace F2r8 : (1 = 1 → r8.toInt ≤ 5) := F2r8
    replace F3r8 : ((I10 3).toInt ≤ (I10 4).toInt) := F3r8
    replace F4r8 : ((I10 4).toInt ≤ (I3 1).toInt) := F4r8
    replace F5r8 : ((¬ (I10 2).toInt = 0) → (I10 3).toInt < (I10 4).toInt) := F5r8
    replace F6r8 : ((¬ (I3 6).toInt = 0) → (¬ (I10 6).toInt = 0)) := F6r8
    replace F7r8 : ((I3 3).toInt ≤ (I10 3).toInt) := F7r8
    replace hvI : InvI Wm_lo Wm_hi I10 := hvI
    replace hvR : InvR Wm_rl R12 := hvR
    replace tIr8 : SmF ([2, 3, 4, 5, 6, 7] : List Nat) I3 I10 := tIr8
    replace tRr8 : SmF ([] : List Nat) R5 R12 := tRr8
    have hv_I10 := hvI
    have hsI := smF_tr hsI tIr8 (by decide)
    have hsR := smF_tr hsR tRr8 (by decide)
    have u_I10_1 : (I10 1).toInt = (I3 1).toInt := congrArg Int32.toInt (tIr8 1 rfl)
    have w_I10_2 := rg (hvI 2 (by decide)) (0) (3) rfl rfl
    have w_I10_3 := rg (hvI 3 (by decide)) (0) (1800) rfl rfl
    have w_I10_4 := rg (hvI 4 (by decide)) (0) (1800) rfl rfl
    have w_I10_6 := rg (hvI 6 (by decide)) (0) (5) rfl rfl
    refine lv_istore_n (lv' := [(1, .int r8), (0, .ref (g 45))]) hx hb dX12_meeting_14 rfl hl (by decide) rfl (fun ls hl => ?_)
    refine lv_aload_n hx hb dX12_meeting_15 rfl (lv_at hl 1 rfl) ?_
    refine g_get F hK hP 0 (Wm_at0 G g q I10 J11 R12 L13) clX12 8 (by decide) flX12_36 rfl dX12_meeting_16 ?_
    have w_I10_6 := rg (hv_I10 6 (by decide)) (0) (5) rfl rfl
    refine lv_if_ne (tgt := 37) hx hb dX12_meeting_19 (by decide) (fun c14 => ?_) (fun c14 => ?_)
    · have gc14 : ¬ ((I10 6).toInt = 0) := fun q0 => c14 (Int32.toInt_inj.mp q0)
      rw [hQ]
      exact q_v F hr hlk (I10, J11, R12, L13) hP hD hS ⟨hvI, hvR, hsI, hsR, (show (((I10 6).toInt = 0 ∧ ¬ (I0 2).toInt = 0) → (I0 3).toInt < (I10 3).toInt) from by omega), (show ((I10 3).toInt ≤ (I10 4).toInt) from by omega), (show ((I10 4).toInt ≤ (I0 1).toInt) from by omega), (show ((¬ (I10 2).toInt = 0) → (I10 3).toInt < (I10 4).toInt) from by omega), (show ((¬ (I0 6).toInt = 0) → (¬ (I10 6).toInt = 0)) from by omega), (show ((I0 3).toInt ≤ (I10 3).toInt) from by omega)⟩ dX12_meeting_37 (Nat.le_of_ble_eq_true rfl) (Nat.le_of_ble_eq_true rfl)
    · have gc14 : (I10 6).toInt = 0 := congrArg Int32.toInt c14
      refine lv_aload_n hx hb dX12_meeting_22 rfl (lv_at hl 1 rfl) ?_
      refine g_get F hK hP 0 (Wm_at0 G g q I10 J11 R12 L13) clX12 20 (by decide) flX12_73 rfl dX12_meeting_23 ?_
      refine lv_bipush (v := 6) hx hb dX12_meeting_26 (by decide) ?_
      refine lv_aload_n hx hb dX12_meeting_28 rfl (lv_at hl 1 rfl) ?_
      refine g_get F hK hP 0 (Wm_at0 G g q I10 J11 R12 L13) clX12 44 (by decide) flX12_146 rfl dX12_meeting_29 ?_
      refine cst_i (hsI 12 rfl) ?_
      have w_I0_12 := rg (hvI0 12 (by decide)) (0) (1) rfl rfl
      refine lv_imul hx hb dX12_meeting_32 ?_
      refine lv_topi (fun x15 ex15 => ?_)
      have fx15 : x15.toInt = 6 * (I0 12).toInt := by rw [ex15]; exact t_mul (by show (-2147483648 : Int) ≤ 6 * (I0 12).toInt; omega) (by show 6 * (I0 12).toInt ≤ 2147483647; omega)
      refine lv_iload_n hx hb dX12_meeting_33 rfl (lv_at hl 0 rfl) ?_
      refine lv_iadd hx hb dX12_meeting_34 ?_
      refine lv_topi (fun x16 ex16 => ?_)
      have fx16 : x16.toInt = x15.toInt + r8.toInt := by rw [ex16]; exact t_add (by show (-2147483648 : Int) ≤ x15.toInt + r8.toInt; omega) (by show x15.toInt + r8.toInt ≤ 2147483647; omega)
      refine lv_iconst (v := 1) hx hb dX12_meeting_35 (by decide) ?_
      refine p_zrow (W1 := fun y => Wm G g q I10 J11 y L13) (n := 6) F hK hP hD hS 9 (Wm_at9 G g q I10 J11 R12 L13) (narz (by decide)) (in_of (by omega)) dX12_meeting_36 (Wm_rowR6 G g q I10 J11 R12 L13) (fun R17 H locs eR17 hP hD hS => ?_)
      have hvR : InvR Wm_rl R17 := inv_upR hvR 6 eR17 (upd_in (hvR 6 (by decide)) (by decide))
      have hsR := smF_up hsR eR17 (by decide)
      rw [hQ]
      exact q_v F hr hlk (I10, J11, R17, L13) hP hD hS ⟨hvI, hvR, hsI, hsR, (show (((I10 6).toInt = 0 ∧ ¬ (I0 2).toInt = 0) → (I0 3).toInt < (I10 3).toInt) from by omega), (show ((I10 3).toInt ≤ (I10 4).toInt) from by omega), (show ((I10 4).toInt ≤ (I0 1).toInt) from by omega), (show ((¬ (I10 2).toInt = 0) → (I10 3).toInt < (I10 4).toInt) from by omega), (show ((¬ (I0 6).toInt = 0) → (¬ (I10 6).toInt = 0)) from by omega), (show ((I0 3).toInt ≤ (I10 3).toInt) from by omega)⟩ dX12_meeting_37 (Nat.le_of_ble_eq_true rfl) (Nat.le_of_ble_eq_true rfl)
  · have gc7 : r1.toInt = 0 := congrArg Int32.toInt c7
    rw [hQ]
    exact q_v F hr hlk (I3, J4, R5, L6) hP hD hS ⟨hvI, hvR, hsI, hsR, (show (((I3 6).toInt = 0 ∧ ¬ (I0 2).toInt = 0) → (I0 3).toInt < (I3 3).toInt) from by omega), (show ((I3 3).toInt ≤ (I3 4).toInt) from by omega), (show ((I3 4).toInt ≤ (I0 1).toInt) from by omega), (show ((¬ (I3 2).toInt = 0) → (I3 3).toInt < (I3 4).toInt) from by omega), (show ((¬ (I0 6).toInt = 0) → (¬ (I3 6).toInt = 0)) from by omega), (show ((I0 3).toInt ≤ (I3 3).toInt) from by omega)⟩ dX12_meeting_8 (Nat.le_of_ble_eq_true rfl) (Nat.le_of_ble_eq_true rfl)
set_option maxHeartbeats 4000000 in
set_option maxRecDepth 100000 in
theorem s_X12_owns (l : Launch) (G : Gx) (g q : Nat → Nat) (I0 : Nat → Int32) (J0 : Nat → Int64) (R0 : Nat → Nat → Int32) (L0 : Nat → Nat → Int64) (hvI : InvI Wm_lo Wm_hi I0) (hvR : InvR Wm_rl R0)   (hpre0 : ((I0 3).toInt ≤ (I0 4).toInt)) (hpre1 : ((I0 4).toInt ≤ (I0 1).toInt)) (hpre2 : ((¬ (I0 2).toInt = 0) → (I0 3).toInt < (I0 4).toInt)) : CtV (S := St) l yX12_owns cX12_owns 3 none (rmD 4 0 0) G [.ref (g 45)] (Wm G g q I0 J0 R0 L0) (fun u => InvI Wm_lo Wm_hi u.1 ∧ InvR Wm_rl u.2.2.1 ∧ SmF ([2, 3, 4, 5, 6, 7] : List Nat) I0 u.1 ∧ SmF ([13] : List Nat) R0 u.2.2.1 ∧ (((u.1 6).toInt = 0 ∧ ¬ (I0 2).toInt = 0) → (I0 3).toInt < (u.1 3).toInt) ∧ ((u.1 3).toInt ≤ (u.1 4).toInt) ∧ ((u.1 4).toInt ≤ (I0 1).toInt) ∧ ((¬ (u.1 2).toInt = 0) → (u.1 3).toInt < (u.1 4).toInt) ∧ ((¬ (I0 6).toInt = 0) → (¬ (u.1 6).toInt = 0)) ∧ ((I0 3).toInt ≤ (u.1 3).toInt)) (fun u => Wm G g q u.1 u.2.1 u.2.2.1 u.2.2.2) := by
  refine ctV_of (own := RX12) (by decide +kernel) rfl (Nat.le_of_ble_eq_true rfl) ?_
  intro p e s m below meth c A ls F hr hlk hnm hK hP hD hA hS hl
  have hx := F.1
  have hb := F.2.1
  have hown := F.2.2.2.1
  have hl : lv_has ls 3 [(0, .ref (g 45))] := hl
  obtain ⟨Q, hQ⟩ : ∃ Q : State → Prop, Q = MQ below (va_Qv (S := St) (fun u => InvI Wm_lo Wm_hi u.1 ∧ InvR Wm_rl u.2.2.1 ∧ SmF ([2, 3, 4, 5, 6, 7] : List Nat) I0 u.1 ∧ SmF ([13] : List Nat) R0 u.2.2.1 ∧ (((u.1 6).toInt = 0 ∧ ¬ (I0 2).toInt = 0) → (I0 3).toInt < (u.1 3).toInt) ∧ ((u.1 3).toInt ≤ (u.1 4).toInt) ∧ ((u.1 4).toInt ≤ (I0 1).toInt) ∧ ((¬ (u.1 2).toInt = 0) → (u.1 3).toInt < (u.1 4).toInt) ∧ ((¬ (I0 6).toInt = 0) → (¬ (u.1 6).toInt = 0)) ∧ ((I0 3).toInt ≤ (u.1 3).toInt)) (BX G A (fun u => Wm G g q u.1 u.2.1 u.2.2.1 u.2.2.2)) A) [.ref (g 45)].toArray s 0 0 A := ⟨_, rfl⟩
  rw [show (MQ below (va_Qv (S := St) (fun u => InvI Wm_lo Wm_hi u.1 ∧ InvR Wm_rl u.2.2.1 ∧ SmF ([2, 3, 4, 5, 6, 7] : List Nat) I0 u.1 ∧ SmF ([13] : List Nat) R0 u.2.2.1 ∧ (((u.1 6).toInt = 0 ∧ ¬ (I0 2).toInt = 0) → (I0 3).toInt < (u.1 3).toInt) ∧ ((u.1 3).toInt ≤ (u.1 4).toInt) ∧ ((u.1 4).toInt ≤ (I0 1).toInt) ∧ ((¬ (u.1 2).toInt = 0) → (u.1 3).toInt < (u.1 4).toInt) ∧ ((¬ (I0 6).toInt = 0) → (¬ (u.1 6).toInt = 0)) ∧ ((I0 3).toInt ≤ (u.1 3).toInt)) (BX G A (fun u => Wm G g q u.1 u.2.1 u.2.2.1 u.2.2.2)) A) [.ref (g 45)].toArray s (rmD 4 0 0).cells (rmD 4 0 0).slots A) = Q from hQ.symm]
  have hsI := smF_rf ([2, 3, 4, 5, 6, 7] : List Nat) I0
  have hsR := smF_rf ([13] : List Nat) R0
  have hvI0 := hvI
  have lab_169 : ∀ (a1_169 : Int32) (I_169 : Nat → Int32) (J_169 : Nat → Int64) (R_169 : Nat → Nat → Int32) (L_169 : Nat → Nat → Int64) (H : Heap) (locs : List Loc) (ls : Array Slot), InvI Wm_lo Wm_hi I_169 → InvR Wm_rl R_169 → SmF ([2, 3, 4, 5, 6, 7] : List Nat) I0 I_169 → SmF ([13] : List Nat) R0 R_169 → ((0 : Int) ≤ a1_169.toInt ∧ a1_169.toInt ≤ (23 : Int)) → ((I0 4).toInt ≤ (I_169 3).toInt) → ((I_169 3).toInt ≤ (I_169 4).toInt) → ((I_169 4).toInt ≤ (I0 1).toInt) → ((¬ (I_169 2).toInt = 0) → (I_169 3).toInt < (I_169 4).toInt) → ((¬ (I0 6).toInt = 0) → (¬ (I_169 6).toInt = 0)) → ((I0 3).toInt ≤ (I_169 3).toInt) → va_P G.1 vwCl (Wm G g q I_169 J_169 R_169 L_169) H → va_D A (Wm G g q I_169 J_169 R_169 L_169) → va_S A s.heap H locs → lv_has ls 3 [(0, .ref (g 45)), (1, .int a1_169)] → W p l e (rmD 4 0 0) s m [.ref (g 45)].toArray below meth c H locs 0 0 Q (F0 m 169 ls []) := by
    intro a1_169 I_169 J_169 R_169 L_169 H locs ls hvI hvR hsI hsR y0_169 z0_169 z1_169 z2_169 z3_169 z4_169 z5_169 hP hD hS hl
    have hv_I_169 := hvI
    have w_I_169_1 := rg (hvI 1 (by decide)) (0) (1800) rfl rfl
    have v_I_169_1 : (I_169 1).toInt = (I0 1).toInt := congrArg Int32.toInt (hsI 1 rfl)
    have w_I_169_2 := rg (hvI 2 (by decide)) (0) (3) rfl rfl
    have w_I_169_3 := rg (hvI 3 (by decide)) (0) (1800) rfl rfl
    have w_I_169_4 := rg (hvI 4 (by decide)) (0) (1800) rfl rfl
    have w_I_169_6 := rg (hvI 6 (by decide)) (0) (5) rfl rfl
    refine lv_aload_n hx hb dX12_owns_169 rfl (lv_at hl 0 rfl) ?_
    refine lv_iconst (v := 0) hx hb dX12_owns_170 (by decide) ?_
    refine wvi (As := [.int 0]) (rest := []) (b := (g 45)) (d := 3) F hK hP hD hS hA (s_X12_asked l G g q I_169 J_169 R_169 L_169 hvI hvR  0 (by decide) (by omega) (by omega) (by omega)) kmV_X12_asked mlX12_374 clX12 rfl 0 (Wm_at0 G g q I_169 J_169 R_169 L_169) ⟨(Nat.le_of_ble_eq_true rfl), (Nat.le_of_ble_eq_true rfl)⟩ hl.1 rfl (Nat.le_of_ble_eq_true rfl) dX12_owns_171 (fun r1 u2 H locs hwr1 hP hD hS => ?_)
    obtain ⟨I3, J4, R5, L6⟩ := u2
    replace hP : va_P G.1 vwCl (Wm G g q I3 J4 R5 L6) H := hP
    replace hD : va_D A (Wm G g q I3 J4 R5 L6) := hD
    obtain ⟨hvI, hvR, tIr1, tRr1, F0r1, F1r1, F2r1, F3r1, F4r1, F5r1, F6r1, F7r1⟩ := hwr1
    replace F0r1 : ((0 : Int) ≤ r1.toInt ∧ r1.toInt ≤ (11 : Int)) := F0r1
    replace F1r1 : (0 = 0 → r1.toInt ≤ 4) := F1r1
    replace F2r1 : (0 = 1 → r1.toInt ≤ 5) := F2r1
    replace F3r1 : ((I3 3).toInt ≤ (I3 4).toInt) := F3r1
    replace F4r1 : ((I3 4).toInt ≤ (I_169 1).toInt) := F4r1
    replace F5r1 : ((¬ (I3 2).toInt = 0) → (I3 3).toInt < (I3 4).toInt) := F5r1
    replace F6r1 : ((¬ (I_169 6).toInt = 0) → (¬ (I3 6).toInt = 0)) := F6r1
    replace F7r1 : ((I_169 3).toInt ≤ (I3 3).toInt) := F7r1
    replace hvI : InvI Wm_lo Wm_hi I3 := hvI
    replace hvR : InvR Wm_rl R5 := hvR
    replace tIr1 : SmF ([2, 3, 4, 5, 6, 7] : List Nat) I_169 I3 := tIr1
    replace tRr1 : SmF ([] : List Nat) R_169 R5 := tRr1
    have hv_I3 := hvI
    have hsI := smF_tr hsI tIr1 (by decide)
    have hsR := smF_tr hsR tRr1 (by decide)
    have u_I3_1 : (I3 1).toInt = (I_169 1).toInt := congrArg Int32.toInt (tIr1 1 rfl)
    have w_I3_2 := rg (hvI 2 (by decide)) (0) (3) rfl rfl
    have w_I3_3 := rg (hvI 3 (by decide)) (0) (1800) rfl rfl
    have w_I3_4 := rg (hvI 4 (by decide)) (0) (1800) rfl rfl
    have w_I3_6 := rg (hvI 6 (by decide)) (0) (5) rfl rfl
    refine lv_istore_n (lv' := [(2, .int r1), (0, .ref (g 45)), (1, .int a1_169)]) hx hb dX12_owns_174 rfl hl (by decide) rfl (fun ls hl => ?_)
    refine lv_aload_n hx hb dX12_owns_175 rfl (lv_at hl 1 rfl) ?_
    refine g_get F hK hP 0 (Wm_at0 G g q I3 J4 R5 L6) clX12 8 (by decide) flX12_36 rfl dX12_owns_176 ?_
    have w_I3_6 := rg (hv_I3 6 (by decide)) (0) (5) rfl rfl
    refine lv_if_ne (tgt := 189) hx hb dX12_owns_179 (by decide) (fun c7 => ?_) (fun c7 => ?_)
    · have gc7 : ¬ ((I3 6).toInt = 0) := fun q0 => c7 (Int32.toInt_inj.mp q0)
      rw [hQ]
      exact q_v F hr hlk (I3, J4, R5, L6) hP hD hS ⟨hvI, hvR, hsI, hsR, (show (((I3 6).toInt = 0 ∧ ¬ (I0 2).toInt = 0) → (I0 3).toInt < (I3 3).toInt) from by omega), (show ((I3 3).toInt ≤ (I3 4).toInt) from by omega), (show ((I3 4).toInt ≤ (I0 1).toInt) from by omega), (show ((¬ (I3 2).toInt = 0) → (I3 3).toInt < (I3 4).toInt) from by omega), (show ((¬ (I0 6).toInt = 0) → (¬ (I3 6).toInt = 0)) from by omega), (show ((I0 3).toInt ≤ (I3 3).toInt) from by omega)⟩ dX12_owns_189 (Nat.le_of_ble_eq_true rfl) (Nat.le_of_ble_eq_true rfl)
    · have gc7 : (I3 6).toInt = 0 := congrArg Int32.toInt c7
      refine lv_aload_n hx hb dX12_owns_182 rfl (lv_at hl 1 rfl) ?_
      refine g_get F hK hP 0 (Wm_at0 G g q I3 J4 R5 L6) clX12 28 (by decide) flX12_98 rfl dX12_owns_183 ?_
      refine lv_iload_n hx hb dX12_owns_186 rfl (lv_at hl 2 rfl) ?_
      refine lv_iload_n hx hb dX12_owns_187 rfl (lv_at hl 0 rfl) ?_
      refine p_row (W1 := fun y => Wm G g q I3 J4 y L6) (n := 13) F hK hP hD hS 17 (Wm_at17 G g q I3 J4 R5 L6) (in_of (by omega)) dX12_owns_188 (Wm_rowR13 G g q I3 J4 R5 L6) (fun R8 H locs eR8 hP hD hS => ?_)
      have hvR : InvR Wm_rl R8 := inv_upR hvR 13 eR8 (upd_in (hvR 13 (by decide)) (show ((-1 : Int) ≤ r1.toInt ∧ r1.toInt ≤ (4 : Int)) from by omega))
      have hsR := smF_up hsR eR8 (by decide)
      rw [hQ]
      exact q_v F hr hlk (I3, J4, R8, L6) hP hD hS ⟨hvI, hvR, hsI, hsR, (show (((I3 6).toInt = 0 ∧ ¬ (I0 2).toInt = 0) → (I0 3).toInt < (I3 3).toInt) from by omega), (show ((I3 3).toInt ≤ (I3 4).toInt) from by omega), (show ((I3 4).toInt ≤ (I0 1).toInt) from by omega), (show ((¬ (I3 2).toInt = 0) → (I3 3).toInt < (I3 4).toInt) from by omega), (show ((¬ (I0 6).toInt = 0) → (¬ (I3 6).toInt = 0)) from by omega), (show ((I0 3).toInt ≤ (I3 3).toInt) from by omega)⟩ dX12_owns_189 (Nat.le_of_ble_eq_true rfl) (Nat.le_of_ble_eq_true rfl)
  have lab_129 : ∀ (a1_129 : Int32) (b0_129 : Int32) (I_129 : Nat → Int32) (J_129 : Nat → Int64) (R_129 : Nat → Nat → Int32) (L_129 : Nat → Nat → Int64) (H : Heap) (locs : List Loc) (ls : Array Slot), InvI Wm_lo Wm_hi I_129 → InvR Wm_rl R_129 → SmF ([2, 3, 4, 5, 6, 7] : List Nat) I0 I_129 → SmF ([13] : List Nat) R0 R_129 → ((0 : Int) ≤ a1_129.toInt ∧ a1_129.toInt ≤ (23 : Int)) → ((-1 : Int) ≤ b0_129.toInt ∧ b0_129.toInt ≤ (11 : Int)) → ((I0 4).toInt ≤ (I_129 3).toInt) → (b0_129.toInt ≤ 4) → ((I_129 3).toInt ≤ (I_129 4).toInt) → ((I_129 4).toInt ≤ (I0 1).toInt) → ((¬ (I_129 2).toInt = 0) → (I_129 3).toInt < (I_129 4).toInt) → ((¬ (I0 6).toInt = 0) → (¬ (I_129 6).toInt = 0)) → ((I0 3).toInt ≤ (I_129 3).toInt) → va_P G.1 vwCl (Wm G g q I_129 J_129 R_129 L_129) H → va_D A (Wm G g q I_129 J_129 R_129 L_129) → va_S A s.heap H locs → lv_has ls 3 [(0, .ref (g 45)), (1, .int a1_129)] → W p l e (rmD 4 0 0) s m [.ref (g 45)].toArray below meth c H locs 0 0 Q (F0 m 129 ls [.int b0_129]) := by
    intro a1_129 b0_129 I_129 J_129 R_129 L_129 H locs ls hvI hvR hsI hsR y0_129 y1_129 z0_129 z1_129 z2_129 z3_129 z4_129 z5_129 z6_129 hP hD hS hl
    have hv_I_129 := hvI
    have w_I_129_1 := rg (hvI 1 (by decide)) (0) (1800) rfl rfl
    have v_I_129_1 : (I_129 1).toInt = (I0 1).toInt := congrArg Int32.toInt (hsI 1 rfl)
    have w_I_129_2 := rg (hvI 2 (by decide)) (0) (3) rfl rfl
    have w_I_129_3 := rg (hvI 3 (by decide)) (0) (1800) rfl rfl
    have w_I_129_4 := rg (hvI 4 (by decide)) (0) (1800) rfl rfl
    have w_I_129_6 := rg (hvI 6 (by decide)) (0) (5) rfl rfl
    refine lv_istore_n (lv' := [(2, .int b0_129), (0, .ref (g 45)), (1, .int a1_129)]) hx hb dX12_owns_129 rfl hl (by decide) rfl (fun ls hl => ?_)
    refine lv_iload_n hx hb dX12_owns_130 rfl (lv_at hl 0 rfl) ?_
    refine lv_iconst (v := (-1)) hx hb dX12_owns_131 (by decide) ?_
    refine lv_icmp_eq (tgt := 169) hx hb dX12_owns_132 (by decide) (fun c9 => ?_) (fun c9 => ?_)
    · have gc9 : b0_129.toInt = (-1) := congrArg Int32.toInt c9
      exact lab_169 a1_129 I_129 J_129 R_129 L_129 _ _ _ hvI hvR hsI hsR (show ((0 : Int) ≤ a1_129.toInt ∧ a1_129.toInt ≤ (23 : Int)) from by omega) (show ((I0 4).toInt ≤ (I_129 3).toInt) from by omega) (show ((I_129 3).toInt ≤ (I_129 4).toInt) from by omega) (show ((I_129 4).toInt ≤ (I0 1).toInt) from by omega) (show ((¬ (I_129 2).toInt = 0) → (I_129 3).toInt < (I_129 4).toInt) from by omega) (show ((¬ (I0 6).toInt = 0) → (¬ (I_129 6).toInt = 0)) from by omega) (show ((I0 3).toInt ≤ (I_129 3).toInt) from by omega) hP hD hS (lv_sub hl [1, 2] rfl)
    · have gc9 : ¬ (b0_129.toInt = (-1)) := fun q0 => c9 (Int32.toInt_inj.mp q0)
      refine lv_aload_n hx hb dX12_owns_135 rfl (lv_at hl 1 rfl) ?_
      refine lv_aload_n hx hb dX12_owns_136 rfl (lv_at hl 1 rfl) ?_
      refine g_get F hK hP 0 (Wm_at0 G g q I_129 J_129 R_129 L_129) clX12 44 (by decide) flX12_146 rfl dX12_owns_137 ?_
      refine cst_i (hsI 12 rfl) ?_
      have w_I0_12 := rg (hvI0 12 (by decide)) (0) (1) rfl rfl
      refine lv_iload_n hx hb dX12_owns_140 rfl (lv_at hl 0 rfl) ?_
      refine wvi (As := [.int (I0 12), .int b0_129]) (rest := []) (b := (g 45)) (d := 1) F hK hP hD hS hA (s_X12_ownedOn l G g q I_129 J_129 R_129 L_129 hvI hvR  ((I0 12)) b0_129 (show ((0 : Int) ≤ (I0 12).toInt ∧ (I0 12).toInt ≤ (1 : Int)) from by omega) (show ((0 : Int) ≤ b0_129.toInt ∧ b0_129.toInt ≤ (11 : Int)) from by omega)) kmV_X12_ownedOn mlX12_381 clX12 rfl 0 (Wm_at0 G g q I_129 J_129 R_129 L_129) ⟨(Nat.le_of_ble_eq_true rfl), (Nat.le_of_ble_eq_true rfl)⟩ hl.1 rfl (Nat.le_of_ble_eq_true rfl) dX12_owns_141 (fun r10 u11 H locs hwr10 hP hD hS => ?_)
      refine lv_aload_n hx hb dX12_owns_144 rfl (lv_at hl 1 rfl) ?_
      refine g_get F hK hP 0 (Wm_at0 G g q I_129 J_129 R_129 L_129) clX12 15 (by decide) flX12_58 rfl dX12_owns_145 ?_
      refine lv_iconst (v := 5) hx hb dX12_owns_148 (by decide) ?_
      refine lv_aload_n hx hb dX12_owns_149 rfl (lv_at hl 1 rfl) ?_
      refine g_get F hK hP 0 (Wm_at0 G g q I_129 J_129 R_129 L_129) clX12 44 (by decide) flX12_146 rfl dX12_owns_150 ?_
      refine cst_i (hsI 12 rfl) ?_
      refine lv_imul hx hb dX12_owns_153 ?_
      refine lv_topi (fun x12 ex12 => ?_)
      have fx12 : x12.toInt = 5 * (I0 12).toInt := by rw [ex12]; exact t_mul (by show (-2147483648 : Int) ≤ 5 * (I0 12).toInt; omega) (by show 5 * (I0 12).toInt ≤ 2147483647; omega)
      refine lv_iload_n hx hb dX12_owns_154 rfl (lv_at hl 0 rfl) ?_
      refine lv_iadd hx hb dX12_owns_155 ?_
      refine lv_topi (fun x13 ex13 => ?_)
      have fx13 : x13.toInt = x12.toInt + b0_129.toInt := by rw [ex13]; exact t_add (by show (-2147483648 : Int) ≤ x12.toInt + b0_129.toInt; omega) (by show x12.toInt + b0_129.toInt ≤ 2147483647; omega)
      refine g_iald F hK hP 4 (Wm_at4 G g q I_129 J_129 R_129 L_129) (in_of (by omega)) dX12_owns_156 rfl ?_
      refine lv_topi (fun x14 ex14 => ?_)
      have gx14 : x14.toInt = (R0 2 (Int32.toNatClampNeg x13)).toInt := congrArg Int32.toInt ((ex14).trans (congrFun (hsR 2 rfl) _))
      have fx14 : ((0 : Int) ≤ x14.toInt ∧ x14.toInt ≤ (9999 : Int)) := by rw [ex14]; exact hvR 2 (by decide) _ (clamp_lt (n := 10) (in_of (by omega)))
      refine lv_icmp_lt (tgt := 169) hx hb dX12_owns_157 (by decide) (fun c15 => ?_) (fun c15 => ?_)
      · have gc15 : r10.toInt < x14.toInt := (tlt _ _).mp c15
        exact lab_169 a1_129 I_129 J_129 R_129 L_129 _ _ _ hvI hvR hsI hsR (show ((0 : Int) ≤ a1_129.toInt ∧ a1_129.toInt ≤ (23 : Int)) from by omega) (show ((I0 4).toInt ≤ (I_129 3).toInt) from by omega) (show ((I_129 3).toInt ≤ (I_129 4).toInt) from by omega) (show ((I_129 4).toInt ≤ (I0 1).toInt) from by omega) (show ((¬ (I_129 2).toInt = 0) → (I_129 3).toInt < (I_129 4).toInt) from by omega) (show ((¬ (I0 6).toInt = 0) → (¬ (I_129 6).toInt = 0)) from by omega) (show ((I0 3).toInt ≤ (I_129 3).toInt) from by omega) hP hD hS (lv_sub hl [1, 2] rfl)
      · have gc15 : ¬ (r10.toInt < x14.toInt) := fun q0 => c15 ((tlt _ _).mpr q0)
        refine lv_aload_n hx hb dX12_owns_160 rfl (lv_at hl 1 rfl) ?_
        refine lv_iconst (v := 3) hx hb dX12_owns_161 (by decide) ?_
        refine lv_aload_n hx hb dX12_owns_162 rfl (lv_at hl 1 rfl) ?_
        refine g_get F hK hP 0 (Wm_at0 G g q I_129 J_129 R_129 L_129) clX12 4 (by decide) flX12_23 rfl dX12_owns_163 ?_
        have w_I_129_3 := rg (hv_I_129 3 (by decide)) (0) (1800) rfl rfl
        refine wvv (As := [.int 3, .int (I_129 3)]) (rest := []) (b := (g 45)) (d := 1) F hK hP hD hS hA (s_X12_blame l G g q I_129 J_129 R_129 L_129 hvI hvR  3 ((I_129 3)) (by decide) (show ((0 : Int) ≤ (I_129 3).toInt ∧ (I_129 3).toInt ≤ (1800 : Int)) from by omega)) kmV_X12_blame mlX12_240 clX12 rfl 0 (Wm_at0 G g q I_129 J_129 R_129 L_129) ⟨(Nat.le_of_ble_eq_true rfl), (Nat.le_of_ble_eq_true rfl)⟩ hl.1 rfl (Nat.le_of_ble_eq_true rfl) dX12_owns_166 (fun u17 H locs hwr16 hP hD hS => ?_)
        obtain ⟨I18, J19, R20, L21⟩ := u17
        replace hP : va_P G.1 vwCl (Wm G g q I18 J19 R20 L21) H := hP
        replace hD : va_D A (Wm G g q I18 J19 R20 L21) := hD
        obtain ⟨hvI, hvR, tIr16, tRr16, F0r16⟩ := hwr16
        replace F0r16 : (¬ (I18 6).toInt = 0) := F0r16
        replace hvI : InvI Wm_lo Wm_hi I18 := hvI
        replace hvR : InvR Wm_rl R20 := hvR
        replace tIr16 : SmF ([6, 7] : List Nat) I_129 I18 := tIr16
        replace tRr16 : SmF ([] : List Nat) R_129 R20 := tRr16
        have hv_I18 := hvI
        have hsI := smF_tr hsI tIr16 (by decide)
        have hsR := smF_tr hsR tRr16 (by decide)
        have u_I18_1 : (I18 1).toInt = (I_129 1).toInt := congrArg Int32.toInt (tIr16 1 rfl)
        have u_I18_2 : (I18 2).toInt = (I_129 2).toInt := congrArg Int32.toInt (tIr16 2 rfl)
        have u_I18_3 : (I18 3).toInt = (I_129 3).toInt := congrArg Int32.toInt (tIr16 3 rfl)
        have u_I18_4 : (I18 4).toInt = (I_129 4).toInt := congrArg Int32.toInt (tIr16 4 rfl)
        have w_I18_6 := rg (hvI 6 (by decide)) (0) (5) rfl rfl
        exact lab_169 a1_129 I18 J19 R20 L21 _ _ _ hvI hvR hsI hsR (show ((0 : Int) ≤ a1_129.toInt ∧ a1_129.toInt ≤ (23 : Int)) from by omega) (show ((I0 4).toInt ≤ (I18 3).toInt) from by omega) (show ((I18 3).toInt ≤ (I18 4).toInt) from by omega) (show ((I18 4).toInt ≤ (I0 1).toInt) from by omega) (show ((¬ (I18 2).toInt = 0) → (I18 3).toInt < (I18 4).toInt) from by omega) (show ((¬ (I0 6).toInt = 0) → (¬ (I18 6).toInt = 0)) from by omega) (show ((I0 3).toInt ≤ (I18 3).toInt) from by omega) hP hD hS (lv_sub hl [1, 2] rfl)
  have lab_128 : ∀ (a1_128 : Int32) (I_128 : Nat → Int32) (J_128 : Nat → Int64) (R_128 : Nat → Nat → Int32) (L_128 : Nat → Nat → Int64) (H : Heap) (locs : List Loc) (ls : Array Slot), InvI Wm_lo Wm_hi I_128 → InvR Wm_rl R_128 → SmF ([2, 3, 4, 5, 6, 7] : List Nat) I0 I_128 → SmF ([13] : List Nat) R0 R_128 → ((0 : Int) ≤ a1_128.toInt ∧ a1_128.toInt ≤ (23 : Int)) → ((I0 4).toInt ≤ (I_128 3).toInt) → ((I_128 3).toInt ≤ (I_128 4).toInt) → ((I_128 4).toInt ≤ (I0 1).toInt) → ((¬ (I_128 2).toInt = 0) → (I_128 3).toInt < (I_128 4).toInt) → ((¬ (I0 6).toInt = 0) → (¬ (I_128 6).toInt = 0)) → ((I0 3).toInt ≤ (I_128 3).toInt) → va_P G.1 vwCl (Wm G g q I_128 J_128 R_128 L_128) H → va_D A (Wm G g q I_128 J_128 R_128 L_128) → va_S A s.heap H locs → lv_has ls 3 [(0, .ref (g 45)), (1, .int a1_128)] → W p l e (rmD 4 0 0) s m [.ref (g 45)].toArray below meth c H locs 0 0 Q (F0 m 128 ls []) := by
    intro a1_128 I_128 J_128 R_128 L_128 H locs ls hvI hvR hsI hsR y0_128 z0_128 z1_128 z2_128 z3_128 z4_128 z5_128 hP hD hS hl
    have hv_I_128 := hvI
    have w_I_128_1 := rg (hvI 1 (by decide)) (0) (1800) rfl rfl
    have v_I_128_1 : (I_128 1).toInt = (I0 1).toInt := congrArg Int32.toInt (hsI 1 rfl)
    have w_I_128_2 := rg (hvI 2 (by decide)) (0) (3) rfl rfl
    have w_I_128_3 := rg (hvI 3 (by decide)) (0) (1800) rfl rfl
    have w_I_128_4 := rg (hvI 4 (by decide)) (0) (1800) rfl rfl
    have w_I_128_6 := rg (hvI 6 (by decide)) (0) (5) rfl rfl
    refine lv_iconst (v := (-1)) hx hb dX12_owns_128 (by decide) ?_
    exact lab_129 a1_128 ((-1)) I_128 J_128 R_128 L_128 _ _ _ hvI hvR hsI hsR (show ((0 : Int) ≤ a1_128.toInt ∧ a1_128.toInt ≤ (23 : Int)) from by omega) (by decide) (show ((I0 4).toInt ≤ (I_128 3).toInt) from by omega) (show ((-1) ≤ 4) from by omega) (show ((I_128 3).toInt ≤ (I_128 4).toInt) from by omega) (show ((I_128 4).toInt ≤ (I0 1).toInt) from by omega) (show ((¬ (I_128 2).toInt = 0) → (I_128 3).toInt < (I_128 4).toInt) from by omega) (show ((¬ (I0 6).toInt = 0) → (¬ (I_128 6).toInt = 0)) from by omega) (show ((I0 3).toInt ≤ (I_128 3).toInt) from by omega) hP hD hS (lv_sub hl [0, 1] rfl)
  have lab_76 : ∀  (I_76 : Nat → Int32) (J_76 : Nat → Int64) (R_76 : Nat → Nat → Int32) (L_76 : Nat → Nat → Int64) (H : Heap) (locs : List Loc) (ls : Array Slot), InvI Wm_lo Wm_hi I_76 → InvR Wm_rl R_76 → SmF ([2, 3, 4, 5, 6, 7] : List Nat) I0 I_76 → SmF ([13] : List Nat) R0 R_76 → ((I0 4).toInt ≤ (I_76 3).toInt) → ((I_76 3).toInt ≤ (I_76 4).toInt) → ((I_76 4).toInt ≤ (I0 1).toInt) → ((¬ (I_76 2).toInt = 0) → (I_76 3).toInt < (I_76 4).toInt) → ((¬ (I0 6).toInt = 0) → (¬ (I_76 6).toInt = 0)) → ((I0 3).toInt ≤ (I_76 3).toInt) → va_P G.1 vwCl (Wm G g q I_76 J_76 R_76 L_76) H → va_D A (Wm G g q I_76 J_76 R_76 L_76) → va_S A s.heap H locs → lv_has ls 3 [(0, .ref (g 45))] → W p l e (rmD 4 0 0) s m [.ref (g 45)].toArray below meth c H locs 0 0 Q (F0 m 76 ls []) := by
    intro I_76 J_76 R_76 L_76 H locs ls hvI hvR hsI hsR z0_76 z1_76 z2_76 z3_76 z4_76 z5_76 hP hD hS hl
    have hv_I_76 := hvI
    have w_I_76_1 := rg (hvI 1 (by decide)) (0) (1800) rfl rfl
    have v_I_76_1 : (I_76 1).toInt = (I0 1).toInt := congrArg Int32.toInt (hsI 1 rfl)
    have w_I_76_2 := rg (hvI 2 (by decide)) (0) (3) rfl rfl
    have w_I_76_3 := rg (hvI 3 (by decide)) (0) (1800) rfl rfl
    have w_I_76_4 := rg (hvI 4 (by decide)) (0) (1800) rfl rfl
    have w_I_76_6 := rg (hvI 6 (by decide)) (0) (5) rfl rfl
    refine lv_bipush (v := 12) hx hb dX12_owns_76 (by decide) ?_
    refine lv_aload_n hx hb dX12_owns_78 rfl (lv_at hl 0 rfl) ?_
    refine g_get F hK hP 0 (Wm_at0 G g q I_76 J_76 R_76 L_76) clX12 44 (by decide) flX12_146 rfl dX12_owns_79 ?_
    refine cst_i (hsI 12 rfl) ?_
    have w_I0_12 := rg (hvI0 12 (by decide)) (0) (1) rfl rfl
    refine lv_imul hx hb dX12_owns_82 ?_
    refine lv_topi (fun x22 ex22 => ?_)
    have fx22 : x22.toInt = 12 * (I0 12).toInt := by rw [ex22]; exact t_mul (by show (-2147483648 : Int) ≤ 12 * (I0 12).toInt; omega) (by show 12 * (I0 12).toInt ≤ 2147483647; omega)
    refine lv_aload_n hx hb dX12_owns_83 rfl (lv_at hl 0 rfl) ?_
    refine lv_iconst (v := 2) hx hb dX12_owns_84 (by decide) ?_
    refine wvi (As := [.int 2]) (rest := [.int x22]) (b := (g 45)) (d := 3) F hK hP hD hS hA (s_X12_asked l G g q I_76 J_76 R_76 L_76 hvI hvR  2 (by decide) (by omega) (by omega) (by omega)) kmV_X12_asked mlX12_374 clX12 rfl 0 (Wm_at0 G g q I_76 J_76 R_76 L_76) ⟨(Nat.le_of_ble_eq_true rfl), (Nat.le_of_ble_eq_true rfl)⟩ hl.1 rfl (Nat.le_of_ble_eq_true rfl) dX12_owns_85 (fun r23 u24 H locs hwr23 hP hD hS => ?_)
    obtain ⟨I25, J26, R27, L28⟩ := u24
    replace hP : va_P G.1 vwCl (Wm G g q I25 J26 R27 L28) H := hP
    replace hD : va_D A (Wm G g q I25 J26 R27 L28) := hD
    obtain ⟨hvI, hvR, tIr23, tRr23, F0r23, F1r23, F2r23, F3r23, F4r23, F5r23, F6r23, F7r23⟩ := hwr23
    replace F0r23 : ((0 : Int) ≤ r23.toInt ∧ r23.toInt ≤ (11 : Int)) := F0r23
    replace F1r23 : (2 = 0 → r23.toInt ≤ 4) := F1r23
    replace F2r23 : (2 = 1 → r23.toInt ≤ 5) := F2r23
    replace F3r23 : ((I25 3).toInt ≤ (I25 4).toInt) := F3r23
    replace F4r23 : ((I25 4).toInt ≤ (I_76 1).toInt) := F4r23
    replace F5r23 : ((¬ (I25 2).toInt = 0) → (I25 3).toInt < (I25 4).toInt) := F5r23
    replace F6r23 : ((¬ (I_76 6).toInt = 0) → (¬ (I25 6).toInt = 0)) := F6r23
    replace F7r23 : ((I_76 3).toInt ≤ (I25 3).toInt) := F7r23
    replace hvI : InvI Wm_lo Wm_hi I25 := hvI
    replace hvR : InvR Wm_rl R27 := hvR
    replace tIr23 : SmF ([2, 3, 4, 5, 6, 7] : List Nat) I_76 I25 := tIr23
    replace tRr23 : SmF ([] : List Nat) R_76 R27 := tRr23
    have hv_I25 := hvI
    have hsI := smF_tr hsI tIr23 (by decide)
    have hsR := smF_tr hsR tRr23 (by decide)
    have u_I25_1 : (I25 1).toInt = (I_76 1).toInt := congrArg Int32.toInt (tIr23 1 rfl)
    have w_I25_2 := rg (hvI 2 (by decide)) (0) (3) rfl rfl
    have w_I25_3 := rg (hvI 3 (by decide)) (0) (1800) rfl rfl
    have w_I25_4 := rg (hvI 4 (by decide)) (0) (1800) rfl rfl
    have w_I25_6 := rg (hvI 6 (by decide)) (0) (5) rfl rfl
    refine lv_iadd hx hb dX12_owns_88 ?_
    refine lv_topi (fun x29 ex29 => ?_)
    have fx29 : x29.toInt = x22.toInt + r23.toInt := by rw [ex29]; exact t_add (by show (-2147483648 : Int) ≤ x22.toInt + r23.toInt; omega) (by show x22.toInt + r23.toInt ≤ 2147483647; omega)
    refine lv_istore_n (lv' := [(1, .int x29), (0, .ref (g 45))]) hx hb dX12_owns_89 rfl hl (by decide) rfl (fun ls hl => ?_)
    refine lv_aload_n hx hb dX12_owns_90 rfl (lv_at hl 1 rfl) ?_
    refine g_get F hK hP 0 (Wm_at0 G g q I25 J26 R27 L28) clX12 8 (by decide) flX12_36 rfl dX12_owns_91 ?_
    have w_I25_6 := rg (hv_I25 6 (by decide)) (0) (5) rfl rfl
    refine lv_if_ne (tgt := 128) hx hb dX12_owns_94 (by decide) (fun c30 => ?_) (fun c30 => ?_)
    · have gc30 : ¬ ((I25 6).toInt = 0) := fun q0 => c30 (Int32.toInt_inj.mp q0)
      exact lab_128 x29 I25 J26 R27 L28 _ _ _ hvI hvR hsI hsR (show ((0 : Int) ≤ x29.toInt ∧ x29.toInt ≤ (23 : Int)) from by omega) (show ((I0 4).toInt ≤ (I25 3).toInt) from by omega) (show ((I25 3).toInt ≤ (I25 4).toInt) from by omega) (show ((I25 4).toInt ≤ (I0 1).toInt) from by omega) (show ((¬ (I25 2).toInt = 0) → (I25 3).toInt < (I25 4).toInt) from by omega) (show ((¬ (I0 6).toInt = 0) → (¬ (I25 6).toInt = 0)) from by omega) (show ((I0 3).toInt ≤ (I25 3).toInt) from by omega) hP hD hS (lv_sub hl [1, 0] rfl)
    · have gc30 : (I25 6).toInt = 0 := congrArg Int32.toInt c30
      refine lv_aload_n hx hb dX12_owns_97 rfl (lv_at hl 1 rfl) ?_
      refine g_get F hK hP 0 (Wm_at0 G g q I25 J26 R27 L28) clX12 3 (by decide) flX12_20 rfl dX12_owns_98 ?_
      have w_I25_2 := rg (hv_I25 2 (by decide)) (0) (3) rfl rfl
      refine lv_iconst (v := 1) hx hb dX12_owns_101 (by decide) ?_
      refine lv_icmp_ne (tgt := 128) hx hb dX12_owns_102 (by decide) (fun c31 => ?_) (fun c31 => ?_)
      · have gc31 : ¬ ((I25 2).toInt = 1) := fun q0 => c31 (Int32.toInt_inj.mp q0)
        exact lab_128 x29 I25 J26 R27 L28 _ _ _ hvI hvR hsI hsR (show ((0 : Int) ≤ x29.toInt ∧ x29.toInt ≤ (23 : Int)) from by omega) (show ((I0 4).toInt ≤ (I25 3).toInt) from by omega) (show ((I25 3).toInt ≤ (I25 4).toInt) from by omega) (show ((I25 4).toInt ≤ (I0 1).toInt) from by omega) (show ((¬ (I25 2).toInt = 0) → (I25 3).toInt < (I25 4).toInt) from by omega) (show ((¬ (I0 6).toInt = 0) → (¬ (I25 6).toInt = 0)) from by omega) (show ((I0 3).toInt ≤ (I25 3).toInt) from by omega) hP hD hS (lv_sub hl [1, 0] rfl)
      · have gc31 : (I25 2).toInt = 1 := congrArg Int32.toInt c31
        refine lv_aload_n hx hb dX12_owns_105 rfl (lv_at hl 1 rfl) ?_
        refine lv_aload_n hx hb dX12_owns_106 rfl (lv_at hl 1 rfl) ?_
        refine g_get F hK hP 0 (Wm_at0 G g q I25 J26 R27 L28) clX12 7 (by decide) flX12_32 rfl dX12_owns_107 ?_
        refine wvi (As := [.long (J26 0)]) (rest := []) (b := (g 45)) (d := 1) F hK hP hD hS hA (s_X12_isOwn l G g q I25 J26 R27 L28 hvI hvR  ((J26 0)) ) kmV_X12_isOwn mlX12_351 clX12 rfl 0 (Wm_at0 G g q I25 J26 R27 L28) ⟨(Nat.le_of_ble_eq_true rfl), (Nat.le_of_ble_eq_true rfl)⟩ hl.1 rfl (Nat.le_of_ble_eq_true rfl) dX12_owns_110 (fun r32 u33 H locs hwr32 hP hD hS => ?_)
        have F0r32 := hwr32
        replace F0r32 : ((0 : Int) ≤ r32.toInt ∧ r32.toInt ≤ (1 : Int)) := F0r32
        refine lv_if_ne (tgt := 128) hx hb dX12_owns_113 (by decide) (fun c34 => ?_) (fun c34 => ?_)
        · have gc34 : ¬ (r32.toInt = 0) := fun q0 => c34 (Int32.toInt_inj.mp q0)
          exact lab_128 x29 I25 J26 R27 L28 _ _ _ hvI hvR hsI hsR (show ((0 : Int) ≤ x29.toInt ∧ x29.toInt ≤ (23 : Int)) from by omega) (show ((I0 4).toInt ≤ (I25 3).toInt) from by omega) (show ((I25 3).toInt ≤ (I25 4).toInt) from by omega) (show ((I25 4).toInt ≤ (I0 1).toInt) from by omega) (show ((¬ (I25 2).toInt = 0) → (I25 3).toInt < (I25 4).toInt) from by omega) (show ((¬ (I0 6).toInt = 0) → (¬ (I25 6).toInt = 0)) from by omega) (show ((I0 3).toInt ≤ (I25 3).toInt) from by omega) hP hD hS (lv_sub hl [1, 0] rfl)
        · have gc34 : r32.toInt = 0 := congrArg Int32.toInt c34
          refine lv_aload_n hx hb dX12_owns_116 rfl (lv_at hl 1 rfl) ?_
          refine lv_iconst (v := 0) hx hb dX12_owns_117 (by decide) ?_
          refine lv_aload_n hx hb dX12_owns_118 rfl (lv_at hl 1 rfl) ?_
          refine g_get F hK hP 0 (Wm_at0 G g q I25 J26 R27 L28) clX12 7 (by decide) flX12_32 rfl dX12_owns_119 ?_
          refine wvi (As := [.int 0, .long (J26 0)]) (rest := []) (b := (g 45)) (d := 1) F hK hP hD hS hA (s_X12_named l G g q I25 J26 R27 L28 hvI hvR  0 ((J26 0)) (by decide)) kmV_X12_named mlX12_354 clX12 rfl 0 (Wm_at0 G g q I25 J26 R27 L28) ⟨(Nat.le_of_ble_eq_true rfl), (Nat.le_of_ble_eq_true rfl)⟩ hl.1 rfl (Nat.le_of_ble_eq_true rfl) dX12_owns_122 (fun r35 u36 H locs hwr35 hP hD hS => ?_)
          obtain ⟨F0r35, F1r35, F2r35⟩ := hwr35
          replace F0r35 : ((-1 : Int) ≤ r35.toInt ∧ r35.toInt ≤ (11 : Int)) := F0r35
          replace F1r35 : (0 = 0 → r35.toInt ≤ 4) := F1r35
          replace F2r35 : (0 = 1 → r35.toInt ≤ 5) := F2r35
          refine lv_goto (tgt := 129) hx hb dX12_owns_125 (by decide) ?_
          exact lab_129 x29 r35 I25 J26 R27 L28 _ _ _ hvI hvR hsI hsR (show ((0 : Int) ≤ x29.toInt ∧ x29.toInt ≤ (23 : Int)) from by omega) (show ((-1 : Int) ≤ r35.toInt ∧ r35.toInt ≤ (11 : Int)) from by omega) (show ((I0 4).toInt ≤ (I25 3).toInt) from by omega) (show (r35.toInt ≤ 4) from by omega) (show ((I25 3).toInt ≤ (I25 4).toInt) from by omega) (show ((I25 4).toInt ≤ (I0 1).toInt) from by omega) (show ((¬ (I25 2).toInt = 0) → (I25 3).toInt < (I25 4).toInt) from by omega) (show ((¬ (I0 6).toInt = 0) → (¬ (I25 6).toInt = 0)) from by omega) (show ((I0 3).toInt ≤ (I25 3).toInt) from by omega) hP hD hS (lv_sub hl [1, 0] rfl)
  have w_I0_1 := rg (hvI 1 (by decide)) (0) (1800) rfl rfl
  have w_I0_2 := rg (hvI 2 (by decide)) (0) (3) rfl rfl
  have w_I0_3 := rg (hvI 3 (by decide)) (0) (1800) rfl rfl
  have w_I0_4 := rg (hvI 4 (by decide)) (0) (1800) rfl rfl
  have w_I0_6 := rg (hvI 6 (by decide)) (0) (5) rfl rfl
  refine lv_aload_n hx hb dX12_owns_0 rfl (lv_at hl 0 rfl) ?_
  refine lv_iconst (v := 0) hx hb dX12_owns_1 (by decide) ?_
  refine wvi (As := [.int 0]) (rest := []) (b := (g 45)) (d := 3) F hK hP hD hS hA (s_X12_counts l G g q I0 J0 R0 L0 hvI hvR  0 (by decide) (by omega) (by omega) (by omega)) kmV_X12_counts mlX12_358 clX12 rfl 0 (Wm_at0 G g q I0 J0 R0 L0) ⟨(Nat.le_of_ble_eq_true rfl), (Nat.le_of_ble_eq_true rfl)⟩ hl.1 rfl (Nat.le_of_ble_eq_true rfl) dX12_owns_2 (fun r37 u38 H locs hwr37 hP hD hS => ?_)
  obtain ⟨I39, J40, R41, L42⟩ := u38
  replace hP : va_P G.1 vwCl (Wm G g q I39 J40 R41 L42) H := hP
  replace hD : va_D A (Wm G g q I39 J40 R41 L42) := hD
  obtain ⟨hvI, hvR, tIr37, tRr37, F0r37, F1r37, F2r37, F3r37, F4r37, F5r37, F6r37⟩ := hwr37
  replace F0r37 : ((0 : Int) ≤ r37.toInt ∧ r37.toInt ≤ (1 : Int)) := F0r37
  replace F1r37 : ((r37.toInt = 1 ∧ 0 = 0 ∧ (I39 6).toInt = 0 ∧ (I0 4).toInt ≤ (I39 3).toInt) ∨ (r37.toInt = 0 ∧ ¬ (I39 6).toInt = 0)) := F1r37
  replace F2r37 : ((I39 3).toInt ≤ (I39 4).toInt) := F2r37
  replace F3r37 : ((I39 4).toInt ≤ (I0 1).toInt) := F3r37
  replace F4r37 : ((¬ (I39 2).toInt = 0) → (I39 3).toInt < (I39 4).toInt) := F4r37
  replace F5r37 : ((¬ (I0 6).toInt = 0) → (¬ (I39 6).toInt = 0)) := F5r37
  replace F6r37 : ((I0 3).toInt ≤ (I39 3).toInt) := F6r37
  replace hvI : InvI Wm_lo Wm_hi I39 := hvI
  replace hvR : InvR Wm_rl R41 := hvR
  replace tIr37 : SmF ([2, 3, 4, 5, 6, 7] : List Nat) I0 I39 := tIr37
  replace tRr37 : SmF ([] : List Nat) R0 R41 := tRr37
  have hv_I39 := hvI
  have hsI := smF_tr hsI tIr37 (by decide)
  have hsR := smF_tr hsR tRr37 (by decide)
  have u_I39_1 : (I39 1).toInt = (I0 1).toInt := congrArg Int32.toInt (tIr37 1 rfl)
  have w_I39_2 := rg (hvI 2 (by decide)) (0) (3) rfl rfl
  have w_I39_3 := rg (hvI 3 (by decide)) (0) (1800) rfl rfl
  have w_I39_4 := rg (hvI 4 (by decide)) (0) (1800) rfl rfl
  have w_I39_6 := rg (hvI 6 (by decide)) (0) (5) rfl rfl
  refine lv_if_ne (tgt := 9) hx hb dX12_owns_5 (by decide) (fun c43 => ?_) (fun c43 => ?_)
  · have gc43 : ¬ (r37.toInt = 0) := fun q0 => c43 (Int32.toInt_inj.mp q0)
    refine lv_aload_n hx hb dX12_owns_9 rfl (lv_at hl 0 rfl) ?_
    refine g_get F hK hP 0 (Wm_at0 G g q I39 J40 R41 L42) clX12 3 (by decide) flX12_20 rfl dX12_owns_10 ?_
    have w_I39_2 := rg (hv_I39 2 (by decide)) (0) (3) rfl rfl
    refine lv_iconst (v := 1) hx hb dX12_owns_13 (by decide) ?_
    refine lv_icmp_ne (tgt := 76) hx hb dX12_owns_14 (by decide) (fun c44 => ?_) (fun c44 => ?_)
    · have gc44 : ¬ ((I39 2).toInt = 1) := fun q0 => c44 (Int32.toInt_inj.mp q0)
      exact lab_76  I39 J40 R41 L42 _ _ _ hvI hvR hsI hsR (show ((I0 4).toInt ≤ (I39 3).toInt) from by omega) (show ((I39 3).toInt ≤ (I39 4).toInt) from by omega) (show ((I39 4).toInt ≤ (I0 1).toInt) from by omega) (show ((¬ (I39 2).toInt = 0) → (I39 3).toInt < (I39 4).toInt) from by omega) (show ((¬ (I0 6).toInt = 0) → (¬ (I39 6).toInt = 0)) from by omega) (show ((I0 3).toInt ≤ (I39 3).toInt) from by omega) hP hD hS (lv_sub hl [0] rfl)
    · have gc44 : (I39 2).toInt = 1 := congrArg Int32.toInt c44
      refine lv_aload_n hx hb dX12_owns_17 rfl (lv_at hl 0 rfl) ?_
      refine lv_aload_n hx hb dX12_owns_18 rfl (lv_at hl 0 rfl) ?_
      refine g_get F hK hP 0 (Wm_at0 G g q I39 J40 R41 L42) clX12 7 (by decide) flX12_32 rfl dX12_owns_19 ?_
      refine wvi (As := [.long (J40 0)]) (rest := []) (b := (g 45)) (d := 1) F hK hP hD hS hA (s_X12_isOwn l G g q I39 J40 R41 L42 hvI hvR  ((J40 0)) ) kmV_X12_isOwn mlX12_351 clX12 rfl 0 (Wm_at0 G g q I39 J40 R41 L42) ⟨(Nat.le_of_ble_eq_true rfl), (Nat.le_of_ble_eq_true rfl)⟩ hl.1 rfl (Nat.le_of_ble_eq_true rfl) dX12_owns_22 (fun r45 u46 H locs hwr45 hP hD hS => ?_)
      have F0r45 := hwr45
      replace F0r45 : ((0 : Int) ≤ r45.toInt ∧ r45.toInt ≤ (1 : Int)) := F0r45
      refine lv_if_ne (tgt := 76) hx hb dX12_owns_25 (by decide) (fun c47 => ?_) (fun c47 => ?_)
      · have gc47 : ¬ (r45.toInt = 0) := fun q0 => c47 (Int32.toInt_inj.mp q0)
        exact lab_76  I39 J40 R41 L42 _ _ _ hvI hvR hsI hsR (show ((I0 4).toInt ≤ (I39 3).toInt) from by omega) (show ((I39 3).toInt ≤ (I39 4).toInt) from by omega) (show ((I39 4).toInt ≤ (I0 1).toInt) from by omega) (show ((¬ (I39 2).toInt = 0) → (I39 3).toInt < (I39 4).toInt) from by omega) (show ((¬ (I0 6).toInt = 0) → (¬ (I39 6).toInt = 0)) from by omega) (show ((I0 3).toInt ≤ (I39 3).toInt) from by omega) hP hD hS (lv_sub hl [0] rfl)
      · have gc47 : r45.toInt = 0 := congrArg Int32.toInt c47
        refine lv_aload_n hx hb dX12_owns_28 rfl (lv_at hl 0 rfl) ?_
        refine lv_iconst (v := 2) hx hb dX12_owns_29 (by decide) ?_
        refine lv_aload_n hx hb dX12_owns_30 rfl (lv_at hl 0 rfl) ?_
        refine g_get F hK hP 0 (Wm_at0 G g q I39 J40 R41 L42) clX12 7 (by decide) flX12_32 rfl dX12_owns_31 ?_
        refine wvi (As := [.int 2, .long (J40 0)]) (rest := []) (b := (g 45)) (d := 1) F hK hP hD hS hA (s_X12_named l G g q I39 J40 R41 L42 hvI hvR  2 ((J40 0)) (by decide)) kmV_X12_named mlX12_354 clX12 rfl 0 (Wm_at0 G g q I39 J40 R41 L42) ⟨(Nat.le_of_ble_eq_true rfl), (Nat.le_of_ble_eq_true rfl)⟩ hl.1 rfl (Nat.le_of_ble_eq_true rfl) dX12_owns_34 (fun r48 u49 H locs hwr48 hP hD hS => ?_)
        obtain ⟨F0r48, F1r48, F2r48⟩ := hwr48
        replace F0r48 : ((-1 : Int) ≤ r48.toInt ∧ r48.toInt ≤ (11 : Int)) := F0r48
        replace F1r48 : (2 = 0 → r48.toInt ≤ 4) := F1r48
        replace F2r48 : (2 = 1 → r48.toInt ≤ 5) := F2r48
        refine lv_iconst (v := (-1)) hx hb dX12_owns_37 (by decide) ?_
        refine lv_icmp_eq (tgt := 76) hx hb dX12_owns_38 (by decide) (fun c50 => ?_) (fun c50 => ?_)
        · have gc50 : r48.toInt = (-1) := congrArg Int32.toInt c50
          exact lab_76  I39 J40 R41 L42 _ _ _ hvI hvR hsI hsR (show ((I0 4).toInt ≤ (I39 3).toInt) from by omega) (show ((I39 3).toInt ≤ (I39 4).toInt) from by omega) (show ((I39 4).toInt ≤ (I0 1).toInt) from by omega) (show ((¬ (I39 2).toInt = 0) → (I39 3).toInt < (I39 4).toInt) from by omega) (show ((¬ (I0 6).toInt = 0) → (¬ (I39 6).toInt = 0)) from by omega) (show ((I0 3).toInt ≤ (I39 3).toInt) from by omega) hP hD hS (lv_sub hl [0] rfl)
        · have gc50 : ¬ (r48.toInt = (-1)) := fun q0 => c50 (Int32.toInt_inj.mp q0)
          refine lv_aload_n hx hb dX12_owns_41 rfl (lv_at hl 0 rfl) ?_
          refine g_get F hK hP 0 (Wm_at0 G g q I39 J40 R41 L42) clX12 28 (by decide) flX12_98 rfl dX12_owns_42 ?_
          refine lv_bipush (v := 12) hx hb dX12_owns_45 (by decide) ?_
          refine lv_aload_n hx hb dX12_owns_47 rfl (lv_at hl 0 rfl) ?_
          refine g_get F hK hP 0 (Wm_at0 G g q I39 J40 R41 L42) clX12 44 (by decide) flX12_146 rfl dX12_owns_48 ?_
          refine cst_i (hsI 12 rfl) ?_
          have w_I0_12 := rg (hvI0 12 (by decide)) (0) (1) rfl rfl
          refine lv_imul hx hb dX12_owns_51 ?_
          refine lv_topi (fun x51 ex51 => ?_)
          have fx51 : x51.toInt = 12 * (I0 12).toInt := by rw [ex51]; exact t_mul (by show (-2147483648 : Int) ≤ 12 * (I0 12).toInt; omega) (by show 12 * (I0 12).toInt ≤ 2147483647; omega)
          refine lv_aload_n hx hb dX12_owns_52 rfl (lv_at hl 0 rfl) ?_
          refine lv_iconst (v := 2) hx hb dX12_owns_53 (by decide) ?_
          refine lv_aload_n hx hb dX12_owns_54 rfl (lv_at hl 0 rfl) ?_
          refine g_get F hK hP 0 (Wm_at0 G g q I39 J40 R41 L42) clX12 7 (by decide) flX12_32 rfl dX12_owns_55 ?_
          refine wvi (As := [.int 2, .long (J40 0)]) (rest := [.int x51, .ref (g 16)]) (b := (g 45)) (d := 1) F hK hP hD hS hA (s_X12_named l G g q I39 J40 R41 L42 hvI hvR  2 ((J40 0)) (by decide)) kmV_X12_named mlX12_354 clX12 rfl 0 (Wm_at0 G g q I39 J40 R41 L42) ⟨(Nat.le_of_ble_eq_true rfl), (Nat.le_of_ble_eq_true rfl)⟩ hl.1 rfl (Nat.le_of_ble_eq_true rfl) dX12_owns_58 (fun r52 u53 H locs hwr52 hP hD hS => ?_)
          obtain ⟨F0r52, F1r52, F2r52⟩ := hwr52
          replace F0r52 : ((-1 : Int) ≤ r52.toInt ∧ r52.toInt ≤ (11 : Int)) := F0r52
          replace F1r52 : (2 = 0 → r52.toInt ≤ 4) := F1r52
          replace F2r52 : (2 = 1 → r52.toInt ≤ 5) := F2r52
          refine lv_iadd hx hb dX12_owns_61 ?_
          refine lv_topi (fun x54 ex54 => ?_)
          have fx54 : x54.toInt = x51.toInt + r52.toInt := by rw [ex54]; exact t_add (by show (-2147483648 : Int) ≤ x51.toInt + r52.toInt; omega) (by show x51.toInt + r52.toInt ≤ 2147483647; omega)
          refine g_iald F hK hP 17 (Wm_at17 G g q I39 J40 R41 L42) (in_of (by omega)) dX12_owns_62 rfl ?_
          refine lv_topi (fun x55 ex55 => ?_)
          have gx55 : x55.toInt = (R0 13 (Int32.toNatClampNeg x54)).toInt := congrArg Int32.toInt ((ex55).trans (congrFun (tRr37 13 rfl) _))
          have fx55 : ((-1 : Int) ≤ x55.toInt ∧ x55.toInt ≤ (4 : Int)) := by rw [ex55]; exact hvR 13 (by decide) _ (clamp_lt (n := 24) (in_of (by omega)))
          refine lv_iconst (v := (-1)) hx hb dX12_owns_63 (by decide) ?_
          refine lv_icmp_eq (tgt := 76) hx hb dX12_owns_64 (by decide) (fun c56 => ?_) (fun c56 => ?_)
          · have gc56 : x55.toInt = (-1) := congrArg Int32.toInt c56
            exact lab_76  I39 J40 R41 L42 _ _ _ hvI hvR hsI hsR (show ((I0 4).toInt ≤ (I39 3).toInt) from by omega) (show ((I39 3).toInt ≤ (I39 4).toInt) from by omega) (show ((I39 4).toInt ≤ (I0 1).toInt) from by omega) (show ((¬ (I39 2).toInt = 0) → (I39 3).toInt < (I39 4).toInt) from by omega) (show ((¬ (I0 6).toInt = 0) → (¬ (I39 6).toInt = 0)) from by omega) (show ((I0 3).toInt ≤ (I39 3).toInt) from by omega) hP hD hS (lv_sub hl [0] rfl)
          · have gc56 : ¬ (x55.toInt = (-1)) := fun q0 => c56 (Int32.toInt_inj.mp q0)
            refine lv_aload_n hx hb dX12_owns_67 rfl (lv_at hl 0 rfl) ?_
            refine lv_iconst (v := 3) hx hb dX12_owns_68 (by decide) ?_
            refine lv_aload_n hx hb dX12_owns_69 rfl (lv_at hl 0 rfl) ?_
            refine g_get F hK hP 0 (Wm_at0 G g q I39 J40 R41 L42) clX12 4 (by decide) flX12_23 rfl dX12_owns_70 ?_
            have w_I39_3 := rg (hv_I39 3 (by decide)) (0) (1800) rfl rfl
            refine wvv (As := [.int 3, .int (I39 3)]) (rest := []) (b := (g 45)) (d := 1) F hK hP hD hS hA (s_X12_blame l G g q I39 J40 R41 L42 hvI hvR  3 ((I39 3)) (by decide) (show ((0 : Int) ≤ (I39 3).toInt ∧ (I39 3).toInt ≤ (1800 : Int)) from by omega)) kmV_X12_blame mlX12_240 clX12 rfl 0 (Wm_at0 G g q I39 J40 R41 L42) ⟨(Nat.le_of_ble_eq_true rfl), (Nat.le_of_ble_eq_true rfl)⟩ hl.1 rfl (Nat.le_of_ble_eq_true rfl) dX12_owns_73 (fun u58 H locs hwr57 hP hD hS => ?_)
            obtain ⟨I59, J60, R61, L62⟩ := u58
            replace hP : va_P G.1 vwCl (Wm G g q I59 J60 R61 L62) H := hP
            replace hD : va_D A (Wm G g q I59 J60 R61 L62) := hD
            obtain ⟨hvI, hvR, tIr57, tRr57, F0r57⟩ := hwr57
            replace F0r57 : (¬ (I59 6).toInt = 0) := F0r57
            replace hvI : InvI Wm_lo Wm_hi I59 := hvI
            replace hvR : InvR Wm_rl R61 := hvR
            replace tIr57 : SmF ([6, 7] : List Nat) I39 I59 := tIr57
            replace tRr57 : SmF ([] : List Nat) R41 R61 := tRr57
            have hv_I59 := hvI
            have hsI := smF_tr hsI tIr57 (by decide)
            have hsR := smF_tr hsR tRr57 (by decide)
            have u_I59_1 : (I59 1).toInt = (I39 1).toInt := congrArg Int32.toInt (tIr57 1 rfl)
            have u_I59_2 : (I59 2).toInt = (I39 2).toInt := congrArg Int32.toInt (tIr57 2 rfl)
            have u_I59_3 : (I59 3).toInt = (I39 3).toInt := congrArg Int32.toInt (tIr57 3 rfl)
            have u_I59_4 : (I59 4).toInt = (I39 4).toInt := congrArg Int32.toInt (tIr57 4 rfl)
            have w_I59_6 := rg (hvI 6 (by decide)) (0) (5) rfl rfl
            exact lab_76  I59 J60 R61 L62 _ _ _ hvI hvR hsI hsR (show ((I0 4).toInt ≤ (I59 3).toInt) from by omega) (show ((I59 3).toInt ≤ (I59 4).toInt) from by omega) (show ((I59 4).toInt ≤ (I0 1).toInt) from by omega) (show ((¬ (I59 2).toInt = 0) → (I59 3).toInt < (I59 4).toInt) from by omega) (show ((¬ (I0 6).toInt = 0) → (¬ (I59 6).toInt = 0)) from by omega) (show ((I0 3).toInt ≤ (I59 3).toInt) from by omega) hP hD hS (lv_sub hl [0] rfl)
  · have gc43 : r37.toInt = 0 := congrArg Int32.toInt c43
    rw [hQ]
    exact q_v F hr hlk (I39, J40, R41, L42) hP hD hS ⟨hvI, hvR, hsI, hsR, (show (((I39 6).toInt = 0 ∧ ¬ (I0 2).toInt = 0) → (I0 3).toInt < (I39 3).toInt) from by omega), (show ((I39 3).toInt ≤ (I39 4).toInt) from by omega), (show ((I39 4).toInt ≤ (I0 1).toInt) from by omega), (show ((¬ (I39 2).toInt = 0) → (I39 3).toInt < (I39 4).toInt) from by omega), (show ((¬ (I0 6).toInt = 0) → (¬ (I39 6).toInt = 0)) from by omega), (show ((I0 3).toInt ≤ (I39 3).toInt) from by omega)⟩ dX12_owns_8 (Nat.le_of_ble_eq_true rfl) (Nat.le_of_ble_eq_true rfl)
set_option maxHeartbeats 4000000 in
set_option maxRecDepth 100000 in
theorem s_X12_standing (l : Launch) (G : Gx) (g q : Nat → Nat) (I0 : Nat → Int32) (J0 : Nat → Int64) (R0 : Nat → Nat → Int32) (L0 : Nat → Nat → Int64) (hvI : InvI Wm_lo Wm_hi I0) (hvR : InvR Wm_rl R0)   (hpre0 : ((I0 3).toInt ≤ (I0 4).toInt)) (hpre1 : ((I0 4).toInt ≤ (I0 1).toInt)) (hpre2 : ((¬ (I0 2).toInt = 0) → (I0 3).toInt < (I0 4).toInt)) : CtV (S := St) l yX12_standing cX12_standing 1 none (rmD 4 0 0) G [.ref (g 45)] (Wm G g q I0 J0 R0 L0) (fun u => InvI Wm_lo Wm_hi u.1 ∧ InvR Wm_rl u.2.2.1 ∧ SmF ([2, 3, 4, 5, 6, 7] : List Nat) I0 u.1 ∧ SmF ([21] : List Nat) R0 u.2.2.1 ∧ (((u.1 6).toInt = 0 ∧ ¬ (I0 2).toInt = 0) → (I0 3).toInt < (u.1 3).toInt) ∧ ((u.1 3).toInt ≤ (u.1 4).toInt) ∧ ((u.1 4).toInt ≤ (I0 1).toInt) ∧ ((¬ (u.1 2).toInt = 0) → (u.1 3).toInt < (u.1 4).toInt) ∧ ((¬ (I0 6).toInt = 0) → (¬ (u.1 6).toInt = 0)) ∧ ((I0 3).toInt ≤ (u.1 3).toInt)) (fun u => Wm G g q u.1 u.2.1 u.2.2.1 u.2.2.2) := by
  refine ctV_of (own := RX12) (by decide +kernel) rfl (Nat.le_of_ble_eq_true rfl) ?_
  intro p e s m below meth c A ls F hr hlk hnm hK hP hD hA hS hl
  have hx := F.1
  have hb := F.2.1
  have hown := F.2.2.2.1
  have hl : lv_has ls 1 [(0, .ref (g 45))] := hl
  obtain ⟨Q, hQ⟩ : ∃ Q : State → Prop, Q = MQ below (va_Qv (S := St) (fun u => InvI Wm_lo Wm_hi u.1 ∧ InvR Wm_rl u.2.2.1 ∧ SmF ([2, 3, 4, 5, 6, 7] : List Nat) I0 u.1 ∧ SmF ([21] : List Nat) R0 u.2.2.1 ∧ (((u.1 6).toInt = 0 ∧ ¬ (I0 2).toInt = 0) → (I0 3).toInt < (u.1 3).toInt) ∧ ((u.1 3).toInt ≤ (u.1 4).toInt) ∧ ((u.1 4).toInt ≤ (I0 1).toInt) ∧ ((¬ (u.1 2).toInt = 0) → (u.1 3).toInt < (u.1 4).toInt) ∧ ((¬ (I0 6).toInt = 0) → (¬ (u.1 6).toInt = 0)) ∧ ((I0 3).toInt ≤ (u.1 3).toInt)) (BX G A (fun u => Wm G g q u.1 u.2.1 u.2.2.1 u.2.2.2)) A) [.ref (g 45)].toArray s 0 0 A := ⟨_, rfl⟩
  rw [show (MQ below (va_Qv (S := St) (fun u => InvI Wm_lo Wm_hi u.1 ∧ InvR Wm_rl u.2.2.1 ∧ SmF ([2, 3, 4, 5, 6, 7] : List Nat) I0 u.1 ∧ SmF ([21] : List Nat) R0 u.2.2.1 ∧ (((u.1 6).toInt = 0 ∧ ¬ (I0 2).toInt = 0) → (I0 3).toInt < (u.1 3).toInt) ∧ ((u.1 3).toInt ≤ (u.1 4).toInt) ∧ ((u.1 4).toInt ≤ (I0 1).toInt) ∧ ((¬ (u.1 2).toInt = 0) → (u.1 3).toInt < (u.1 4).toInt) ∧ ((¬ (I0 6).toInt = 0) → (¬ (u.1 6).toInt = 0)) ∧ ((I0 3).toInt ≤ (u.1 3).toInt)) (BX G A (fun u => Wm G g q u.1 u.2.1 u.2.2.1 u.2.2.2)) A) [.ref (g 45)].toArray s (rmD 4 0 0).cells (rmD 4 0 0).slots A) = Q from hQ.symm]
  have hsI := smF_rf ([2, 3, 4, 5, 6, 7] : List Nat) I0
  have hsR := smF_rf ([21] : List Nat) R0
  have hvI0 := hvI
  have w_I0_1 := rg (hvI 1 (by decide)) (0) (1800) rfl rfl
  have w_I0_2 := rg (hvI 2 (by decide)) (0) (3) rfl rfl
  have w_I0_3 := rg (hvI 3 (by decide)) (0) (1800) rfl rfl
  have w_I0_4 := rg (hvI 4 (by decide)) (0) (1800) rfl rfl
  have w_I0_6 := rg (hvI 6 (by decide)) (0) (5) rfl rfl
  refine lv_aload_n hx hb dX12_standing_0 rfl (lv_at hl 0 rfl) ?_
  refine lv_iconst (v := 0) hx hb dX12_standing_1 (by decide) ?_
  refine wvi (As := [.int 0]) (rest := []) (b := (g 45)) (d := 3) F hK hP hD hS hA (s_X12_counts l G g q I0 J0 R0 L0 hvI hvR  0 (by decide) (by omega) (by omega) (by omega)) kmV_X12_counts mlX12_358 clX12 rfl 0 (Wm_at0 G g q I0 J0 R0 L0) ⟨(Nat.le_of_ble_eq_true rfl), (Nat.le_of_ble_eq_true rfl)⟩ hl.1 rfl (Nat.le_of_ble_eq_true rfl) dX12_standing_2 (fun r1 u2 H locs hwr1 hP hD hS => ?_)
  obtain ⟨I3, J4, R5, L6⟩ := u2
  replace hP : va_P G.1 vwCl (Wm G g q I3 J4 R5 L6) H := hP
  replace hD : va_D A (Wm G g q I3 J4 R5 L6) := hD
  obtain ⟨hvI, hvR, tIr1, tRr1, F0r1, F1r1, F2r1, F3r1, F4r1, F5r1, F6r1⟩ := hwr1
  replace F0r1 : ((0 : Int) ≤ r1.toInt ∧ r1.toInt ≤ (1 : Int)) := F0r1
  replace F1r1 : ((r1.toInt = 1 ∧ 0 = 0 ∧ (I3 6).toInt = 0 ∧ (I0 4).toInt ≤ (I3 3).toInt) ∨ (r1.toInt = 0 ∧ ¬ (I3 6).toInt = 0)) := F1r1
  replace F2r1 : ((I3 3).toInt ≤ (I3 4).toInt) := F2r1
  replace F3r1 : ((I3 4).toInt ≤ (I0 1).toInt) := F3r1
  replace F4r1 : ((¬ (I3 2).toInt = 0) → (I3 3).toInt < (I3 4).toInt) := F4r1
  replace F5r1 : ((¬ (I0 6).toInt = 0) → (¬ (I3 6).toInt = 0)) := F5r1
  replace F6r1 : ((I0 3).toInt ≤ (I3 3).toInt) := F6r1
  replace hvI : InvI Wm_lo Wm_hi I3 := hvI
  replace hvR : InvR Wm_rl R5 := hvR
  replace tIr1 : SmF ([2, 3, 4, 5, 6, 7] : List Nat) I0 I3 := tIr1
  replace tRr1 : SmF ([] : List Nat) R0 R5 := tRr1
  have hv_I3 := hvI
  have hsI := smF_tr hsI tIr1 (by decide)
  have hsR := smF_tr hsR tRr1 (by decide)
  have u_I3_1 : (I3 1).toInt = (I0 1).toInt := congrArg Int32.toInt (tIr1 1 rfl)
  have w_I3_2 := rg (hvI 2 (by decide)) (0) (3) rfl rfl
  have w_I3_3 := rg (hvI 3 (by decide)) (0) (1800) rfl rfl
  have w_I3_4 := rg (hvI 4 (by decide)) (0) (1800) rfl rfl
  have w_I3_6 := rg (hvI 6 (by decide)) (0) (5) rfl rfl
  refine lv_if_ne (tgt := 9) hx hb dX12_standing_5 (by decide) (fun c7 => ?_) (fun c7 => ?_)
  · have gc7 : ¬ (r1.toInt = 0) := fun q0 => c7 (Int32.toInt_inj.mp q0)
    refine lv_aload_n hx hb dX12_standing_9 rfl (lv_at hl 0 rfl) ?_
    refine g_get F hK hP 0 (Wm_at0 G g q I3 J4 R5 L6) clX12 36 (by decide) flX12_122 rfl dX12_standing_10 ?_
    refine lv_aload_n hx hb dX12_standing_13 rfl (lv_at hl 0 rfl) ?_
    refine g_get F hK hP 0 (Wm_at0 G g q I3 J4 R5 L6) clX12 44 (by decide) flX12_146 rfl dX12_standing_14 ?_
    refine cst_i (hsI 12 rfl) ?_
    have w_I0_12 := rg (hvI0 12 (by decide)) (0) (1) rfl rfl
    refine lv_aload_n hx hb dX12_standing_17 rfl (lv_at hl 0 rfl) ?_
    refine lv_iconst (v := 0) hx hb dX12_standing_18 (by decide) ?_
    refine lv_sipush (v := 999) hx hb dX12_standing_19 (by decide) ?_
    refine wvi (As := [.int 0, .int 999]) (rest := [.int (I0 12), .ref (g 24)]) (b := (g 45)) (d := 3) F hK hP hD hS hA (s_X12_number l G g q I3 J4 R5 L6 hvI hvR  0 999 (by decide) (by decide) (by omega) (by omega) (by omega)) kmV_X12_number mlX12_370 clX12 rfl 0 (Wm_at0 G g q I3 J4 R5 L6) ⟨(Nat.le_of_ble_eq_true rfl), (Nat.le_of_ble_eq_true rfl)⟩ hl.1 rfl (Nat.le_of_ble_eq_true rfl) dX12_standing_22 (fun r8 u9 H locs hwr8 hP hD hS => ?_)
    obtain ⟨I10, J11, R12, L13⟩ := u9
    replace hP : va_P G.1 vwCl (Wm G g q I10 J11 R12 L13) H := hP
    replace hD : va_D A (Wm G g q I10 J11 R12 L13) := hD
    obtain ⟨hvI, hvR, tIr8, tRr8, F0r8, F1r8, F2r8, F3r8, F4r8, F5r8⟩ := hwr8
    replace F0r8 : ((0 : Int) ≤ r8.toInt ∧ r8.toInt ≤ (9999 : Int)) := F0r8
    replace F1r8 : ((I10 3).toInt ≤ (I10 4).toInt) := F1r8
    replace F2r8 : ((I10 4).toInt ≤ (I3 1).toInt) := F2r8
    replace F3r8 : ((¬ (I10 2).toInt = 0) → (I10 3).toInt < (I10 4).toInt) := F3r8
    replace F4r8 : ((¬ (I3 6).toInt = 0) → (¬ (I10 6).toInt = 0)) := F4r8
    replace F5r8 : ((I3 3).toInt ≤ (I10 3).toInt) := F5r8
    replace hvI : InvI Wm_lo Wm_hi I10 := hvI
    replace hvR : InvR Wm_rl R12 := hvR
    replace tIr8 : SmF ([2, 3, 4, 5, 6, 7] : List Nat) I3 I10 := tIr8
    replace tRr8 : SmF ([] : List Nat) R5 R12 := tRr8
    have hv_I10 := hvI
    have hsI := smF_tr hsI tIr8 (by decide)
    have hsR := smF_tr hsR tRr8 (by decide)
    have u_I10_1 : (I10 1).toInt = (I3 1).toInt := congrArg Int32.toInt (tIr8 1 rfl)
    have w_I10_2 := rg (hvI 2 (by decide)) (0) (3) rfl rfl
    have w_I10_3 := rg (hvI 3 (by decide)) (0) (1800) rfl rfl
    have w_I10_4 := rg (hvI 4 (by decide)) (0) (1800) rfl rfl
    have w_I10_6 := rg (hvI 6 (by decide)) (0) (5) rfl rfl
    refine p_row (W1 := fun y => Wm G g q I10 J11 y L13) (n := 21) F hK hP hD hS 25 (Wm_at25 G g q I10 J11 R12 L13) (in_of (by omega)) dX12_standing_25 (Wm_rowR21 G g q I10 J11 R12 L13) (fun R14 H locs eR14 hP hD hS => ?_)
    have hvR : InvR Wm_rl R14 := inv_upR hvR 21 eR14 (upd_in (hvR 21 (by decide)) (full _))
    have hsR := smF_up hsR eR14 (by decide)
    rw [hQ]
    exact q_v F hr hlk (I10, J11, R14, L13) hP hD hS ⟨hvI, hvR, hsI, hsR, (show (((I10 6).toInt = 0 ∧ ¬ (I0 2).toInt = 0) → (I0 3).toInt < (I10 3).toInt) from by omega), (show ((I10 3).toInt ≤ (I10 4).toInt) from by omega), (show ((I10 4).toInt ≤ (I0 1).toInt) from by omega), (show ((¬ (I10 2).toInt = 0) → (I10 3).toInt < (I10 4).toInt) from by omega), (show ((¬ (I0 6).toInt = 0) → (¬ (I10 6).toInt = 0)) from by omega), (show ((I0 3).toInt ≤ (I10 3).toInt) from by omega)⟩ dX12_standing_26 (Nat.le_of_ble_eq_true rfl) (Nat.le_of_ble_eq_true rfl)
  · have gc7 : r1.toInt = 0 := congrArg Int32.toInt c7
    rw [hQ]
    exact q_v F hr hlk (I3, J4, R5, L6) hP hD hS ⟨hvI, hvR, hsI, hsR, (show (((I3 6).toInt = 0 ∧ ¬ (I0 2).toInt = 0) → (I0 3).toInt < (I3 3).toInt) from by omega), (show ((I3 3).toInt ≤ (I3 4).toInt) from by omega), (show ((I3 4).toInt ≤ (I0 1).toInt) from by omega), (show ((¬ (I3 2).toInt = 0) → (I3 3).toInt < (I3 4).toInt) from by omega), (show ((¬ (I0 6).toInt = 0) → (¬ (I3 6).toInt = 0)) from by omega), (show ((I0 3).toInt ≤ (I3 3).toInt) from by omega)⟩ dX12_standing_8 (Nat.le_of_ble_eq_true rfl) (Nat.le_of_ble_eq_true rfl)
set_option maxHeartbeats 4000000 in
set_option maxRecDepth 100000 in
theorem s_X12_turning (l : Launch) (G : Gx) (g q : Nat → Nat) (I0 : Nat → Int32) (J0 : Nat → Int64) (R0 : Nat → Nat → Int32) (L0 : Nat → Nat → Int64) (hvI : InvI Wm_lo Wm_hi I0) (hvR : InvR Wm_rl R0)   (hpre0 : ((I0 3).toInt ≤ (I0 4).toInt)) (hpre1 : ((I0 4).toInt ≤ (I0 1).toInt)) (hpre2 : ((¬ (I0 2).toInt = 0) → (I0 3).toInt < (I0 4).toInt)) : CtV (S := St) l yX12_turning cX12_turning 3 none (rmD 4 0 0) G [.ref (g 45)] (Wm G g q I0 J0 R0 L0) (fun u => InvI Wm_lo Wm_hi u.1 ∧ InvR Wm_rl u.2.2.1 ∧ SmF ([2, 3, 4, 5, 6, 7] : List Nat) I0 u.1 ∧ SmF ([14] : List Nat) R0 u.2.2.1 ∧ (((u.1 6).toInt = 0 ∧ ¬ (I0 2).toInt = 0) → (I0 3).toInt < (u.1 3).toInt) ∧ ((u.1 3).toInt ≤ (u.1 4).toInt) ∧ ((u.1 4).toInt ≤ (I0 1).toInt) ∧ ((¬ (u.1 2).toInt = 0) → (u.1 3).toInt < (u.1 4).toInt) ∧ ((¬ (I0 6).toInt = 0) → (¬ (u.1 6).toInt = 0)) ∧ ((I0 3).toInt ≤ (u.1 3).toInt)) (fun u => Wm G g q u.1 u.2.1 u.2.2.1 u.2.2.2) := by
  refine ctV_of (own := RX12) (by decide +kernel) rfl (Nat.le_of_ble_eq_true rfl) ?_
  intro p e s m below meth c A ls F hr hlk hnm hK hP hD hA hS hl
  have hx := F.1
  have hb := F.2.1
  have hown := F.2.2.2.1
  have hl : lv_has ls 3 [(0, .ref (g 45))] := hl
  obtain ⟨Q, hQ⟩ : ∃ Q : State → Prop, Q = MQ below (va_Qv (S := St) (fun u => InvI Wm_lo Wm_hi u.1 ∧ InvR Wm_rl u.2.2.1 ∧ SmF ([2, 3, 4, 5, 6, 7] : List Nat) I0 u.1 ∧ SmF ([14] : List Nat) R0 u.2.2.1 ∧ (((u.1 6).toInt = 0 ∧ ¬ (I0 2).toInt = 0) → (I0 3).toInt < (u.1 3).toInt) ∧ ((u.1 3).toInt ≤ (u.1 4).toInt) ∧ ((u.1 4).toInt ≤ (I0 1).toInt) ∧ ((¬ (u.1 2).toInt = 0) → (u.1 3).toInt < (u.1 4).toInt) ∧ ((¬ (I0 6).toInt = 0) → (¬ (u.1 6).toInt = 0)) ∧ ((I0 3).toInt ≤ (u.1 3).toInt)) (BX G A (fun u => Wm G g q u.1 u.2.1 u.2.2.1 u.2.2.2)) A) [.ref (g 45)].toArray s 0 0 A := ⟨_, rfl⟩
  rw [show (MQ below (va_Qv (S := St) (fun u => InvI Wm_lo Wm_hi u.1 ∧ InvR Wm_rl u.2.2.1 ∧ SmF ([2, 3, 4, 5, 6, 7] : List Nat) I0 u.1 ∧ SmF ([14] : List Nat) R0 u.2.2.1 ∧ (((u.1 6).toInt = 0 ∧ ¬ (I0 2).toInt = 0) → (I0 3).toInt < (u.1 3).toInt) ∧ ((u.1 3).toInt ≤ (u.1 4).toInt) ∧ ((u.1 4).toInt ≤ (I0 1).toInt) ∧ ((¬ (u.1 2).toInt = 0) → (u.1 3).toInt < (u.1 4).toInt) ∧ ((¬ (I0 6).toInt = 0) → (¬ (u.1 6).toInt = 0)) ∧ ((I0 3).toInt ≤ (u.1 3).toInt)) (BX G A (fun u => Wm G g q u.1 u.2.1 u.2.2.1 u.2.2.2)) A) [.ref (g 45)].toArray s (rmD 4 0 0).cells (rmD 4 0 0).slots A) = Q from hQ.symm]
  have hsI := smF_rf ([2, 3, 4, 5, 6, 7] : List Nat) I0
  have hsR := smF_rf ([14] : List Nat) R0
  have hvI0 := hvI
  have w_I0_1 := rg (hvI 1 (by decide)) (0) (1800) rfl rfl
  have w_I0_2 := rg (hvI 2 (by decide)) (0) (3) rfl rfl
  have w_I0_3 := rg (hvI 3 (by decide)) (0) (1800) rfl rfl
  have w_I0_4 := rg (hvI 4 (by decide)) (0) (1800) rfl rfl
  have w_I0_6 := rg (hvI 6 (by decide)) (0) (5) rfl rfl
  refine lv_aload_n hx hb dX12_turning_0 rfl (lv_at hl 0 rfl) ?_
  refine lv_iconst (v := 0) hx hb dX12_turning_1 (by decide) ?_
  refine wvi (As := [.int 0]) (rest := []) (b := (g 45)) (d := 3) F hK hP hD hS hA (s_X12_counts l G g q I0 J0 R0 L0 hvI hvR  0 (by decide) (by omega) (by omega) (by omega)) kmV_X12_counts mlX12_358 clX12 rfl 0 (Wm_at0 G g q I0 J0 R0 L0) ⟨(Nat.le_of_ble_eq_true rfl), (Nat.le_of_ble_eq_true rfl)⟩ hl.1 rfl (Nat.le_of_ble_eq_true rfl) dX12_turning_2 (fun r1 u2 H locs hwr1 hP hD hS => ?_)
  obtain ⟨I3, J4, R5, L6⟩ := u2
  replace hP : va_P G.1 vwCl (Wm G g q I3 J4 R5 L6) H := hP
  replace hD : va_D A (Wm G g q I3 J4 R5 L6) := hD
  obtain ⟨hvI, hvR, tIr1, tRr1, F0r1, F1r1, F2r1, F3r1, F4r1, F5r1, F6r1⟩ := hwr1
  replace F0r1 : ((0 : Int) ≤ r1.toInt ∧ r1.toInt ≤ (1 : Int)) := F0r1
  replace F1r1 : ((r1.toInt = 1 ∧ 0 = 0 ∧ (I3 6).toInt = 0 ∧ (I0 4).toInt ≤ (I3 3).toInt) ∨ (r1.toInt = 0 ∧ ¬ (I3 6).toInt = 0)) := F1r1
  replace F2r1 : ((I3 3).toInt ≤ (I3 4).toInt) := F2r1
  replace F3r1 : ((I3 4).toInt ≤ (I0 1).toInt) := F3r1
  replace F4r1 : ((¬ (I3 2).toInt = 0) → (I3 3).toInt < (I3 4).toInt) := F4r1
  replace F5r1 : ((¬ (I0 6).toInt = 0) → (¬ (I3 6).toInt = 0)) := F5r1
  replace F6r1 : ((I0 3).toInt ≤ (I3 3).toInt) := F6r1
  replace hvI : InvI Wm_lo Wm_hi I3 := hvI
  replace hvR : InvR Wm_rl R5 := hvR
  replace tIr1 : SmF ([2, 3, 4, 5, 6, 7] : List Nat) I0 I3 := tIr1
  replace tRr1 : SmF ([] : List Nat) R0 R5 := tRr1
  have hv_I3 := hvI
  have hsI := smF_tr hsI tIr1 (by decide)
  have hsR := smF_tr hsR tRr1 (by decide)
  have u_I3_1 : (I3 1).toInt = (I0 1).toInt := congrArg Int32.toInt (tIr1 1 rfl)
  have w_I3_2 := rg (hvI 2 (by decide)) (0) (3) rfl rfl
  have w_I3_3 := rg (hvI 3 (by decide)) (0) (1800) rfl rfl
  have w_I3_4 := rg (hvI 4 (by decide)) (0) (1800) rfl rfl
  have w_I3_6 := rg (hvI 6 (by decide)) (0) (5) rfl rfl
  refine lv_if_ne (tgt := 9) hx hb dX12_turning_5 (by decide) (fun c7 => ?_) (fun c7 => ?_)
  · have gc7 : ¬ (r1.toInt = 0) := fun q0 => c7 (Int32.toInt_inj.mp q0)
    refine lv_bipush (v := 12) hx hb dX12_turning_9 (by decide) ?_
    refine lv_aload_n hx hb dX12_turning_11 rfl (lv_at hl 0 rfl) ?_
    refine g_get F hK hP 0 (Wm_at0 G g q I3 J4 R5 L6) clX12 44 (by decide) flX12_146 rfl dX12_turning_12 ?_
    refine cst_i (hsI 12 rfl) ?_
    have w_I0_12 := rg (hvI0 12 (by decide)) (0) (1) rfl rfl
    refine lv_imul hx hb dX12_turning_15 ?_
    refine lv_topi (fun x8 ex8 => ?_)
    have fx8 : x8.toInt = 12 * (I0 12).toInt := by rw [ex8]; exact t_mul (by show (-2147483648 : Int) ≤ 12 * (I0 12).toInt; omega) (by show 12 * (I0 12).toInt ≤ 2147483647; omega)
    refine lv_aload_n hx hb dX12_turning_16 rfl (lv_at hl 0 rfl) ?_
    refine lv_iconst (v := 2) hx hb dX12_turning_17 (by decide) ?_
    refine wvi (As := [.int 2]) (rest := [.int x8]) (b := (g 45)) (d := 3) F hK hP hD hS hA (s_X12_asked l G g q I3 J4 R5 L6 hvI hvR  2 (by decide) (by omega) (by omega) (by omega)) kmV_X12_asked mlX12_374 clX12 rfl 0 (Wm_at0 G g q I3 J4 R5 L6) ⟨(Nat.le_of_ble_eq_true rfl), (Nat.le_of_ble_eq_true rfl)⟩ hl.1 rfl (Nat.le_of_ble_eq_true rfl) dX12_turning_18 (fun r9 u10 H locs hwr9 hP hD hS => ?_)
    obtain ⟨I11, J12, R13, L14⟩ := u10
    replace hP : va_P G.1 vwCl (Wm G g q I11 J12 R13 L14) H := hP
    replace hD : va_D A (Wm G g q I11 J12 R13 L14) := hD
    obtain ⟨hvI, hvR, tIr9, tRr9, F0r9, F1r9, F2r9, F3r9, F4r9, F5r9, F6r9, F7r9⟩ := hwr9
    replace F0r9 : ((0 : Int) ≤ r9.toInt ∧ r9.toInt ≤ (11 : Int)) := F0r9
    replace F1r9 : (2 = 0 → r9.toInt ≤ 4) := F1r9
    replace F2r9 : (2 = 1 → r9.toInt ≤ 5) := F2r9
    replace F3r9 : ((I11 3).toInt ≤ (I11 4).toInt) := F3r9
    replace F4r9 : ((I11 4).toInt ≤ (I3 1).toInt) := F4r9
    replace F5r9 : ((¬ (I11 2).toInt = 0) → (I11 3).toInt < (I11 4).toInt) := F5r9
    replace F6r9 : ((¬ (I3 6).toInt = 0) → (¬ (I11 6).toInt = 0)) := F6r9
    replace F7r9 : ((I3 3).toInt ≤ (I11 3).toInt) := F7r9
    replace hvI : InvI Wm_lo Wm_hi I11 := hvI
    replace hvR : InvR Wm_rl R13 := hvR
    replace tIr9 : SmF ([2, 3, 4, 5, 6, 7] : List Nat) I3 I11 := tIr9
    replace tRr9 : SmF ([] : List Nat) R5 R13 := tRr9
    have hv_I11 := hvI
    have hsI := smF_tr hsI tIr9 (by decide)
    have hsR := smF_tr hsR tRr9 (by decide)
    have u_I11_1 : (I11 1).toInt = (I3 1).toInt := congrArg Int32.toInt (tIr9 1 rfl)
    have w_I11_2 := rg (hvI 2 (by decide)) (0) (3) rfl rfl
    have w_I11_3 := rg (hvI 3 (by decide)) (0) (1800) rfl rfl
    have w_I11_4 := rg (hvI 4 (by decide)) (0) (1800) rfl rfl
    have w_I11_6 := rg (hvI 6 (by decide)) (0) (5) rfl rfl
    refine lv_iadd hx hb dX12_turning_21 ?_
    refine lv_topi (fun x15 ex15 => ?_)
    have fx15 : x15.toInt = x8.toInt + r9.toInt := by rw [ex15]; exact t_add (by show (-2147483648 : Int) ≤ x8.toInt + r9.toInt; omega) (by show x8.toInt + r9.toInt ≤ 2147483647; omega)
    refine lv_istore_n (lv' := [(1, .int x15), (0, .ref (g 45))]) hx hb dX12_turning_22 rfl hl (by decide) rfl (fun ls hl => ?_)
    refine lv_aload_n hx hb dX12_turning_23 rfl (lv_at hl 1 rfl) ?_
    refine lv_iconst (v := 0) hx hb dX12_turning_24 (by decide) ?_
    refine lv_iconst (v := 4) hx hb dX12_turning_25 (by decide) ?_
    refine wvi (As := [.int 0, .int 4]) (rest := []) (b := (g 45)) (d := 3) F hK hP hD hS hA (s_X12_number l G g q I11 J12 R13 L14 hvI hvR  0 4 (by decide) (by decide) (by omega) (by omega) (by omega)) kmV_X12_number mlX12_370 clX12 rfl 0 (Wm_at0 G g q I11 J12 R13 L14) ⟨(Nat.le_of_ble_eq_true rfl), (Nat.le_of_ble_eq_true rfl)⟩ hl.1 rfl (Nat.le_of_ble_eq_true rfl) dX12_turning_26 (fun r16 u17 H locs hwr16 hP hD hS => ?_)
    obtain ⟨I18, J19, R20, L21⟩ := u17
    replace hP : va_P G.1 vwCl (Wm G g q I18 J19 R20 L21) H := hP
    replace hD : va_D A (Wm G g q I18 J19 R20 L21) := hD
    obtain ⟨hvI, hvR, tIr16, tRr16, F0r16, F1r16, F2r16, F3r16, F4r16, F5r16⟩ := hwr16
    replace F0r16 : ((0 : Int) ≤ r16.toInt ∧ r16.toInt ≤ (9999 : Int)) := F0r16
    replace F1r16 : ((I18 3).toInt ≤ (I18 4).toInt) := F1r16
    replace F2r16 : ((I18 4).toInt ≤ (I11 1).toInt) := F2r16
    replace F3r16 : ((¬ (I18 2).toInt = 0) → (I18 3).toInt < (I18 4).toInt) := F3r16
    replace F4r16 : ((¬ (I11 6).toInt = 0) → (¬ (I18 6).toInt = 0)) := F4r16
    replace F5r16 : ((I11 3).toInt ≤ (I18 3).toInt) := F5r16
    replace hvI : InvI Wm_lo Wm_hi I18 := hvI
    replace hvR : InvR Wm_rl R20 := hvR
    replace tIr16 : SmF ([2, 3, 4, 5, 6, 7] : List Nat) I11 I18 := tIr16
    replace tRr16 : SmF ([] : List Nat) R13 R20 := tRr16
    have hv_I18 := hvI
    have hsI := smF_tr hsI tIr16 (by decide)
    have hsR := smF_tr hsR tRr16 (by decide)
    have u_I18_1 : (I18 1).toInt = (I11 1).toInt := congrArg Int32.toInt (tIr16 1 rfl)
    have w_I18_2 := rg (hvI 2 (by decide)) (0) (3) rfl rfl
    have w_I18_3 := rg (hvI 3 (by decide)) (0) (1800) rfl rfl
    have w_I18_4 := rg (hvI 4 (by decide)) (0) (1800) rfl rfl
    have w_I18_6 := rg (hvI 6 (by decide)) (0) (5) rfl rfl
    refine lv_istore_n (lv' := [(2, .int r16), (1, .int x15), (0, .ref (g 45))]) hx hb dX12_turning_29 rfl hl (by decide) rfl (fun ls hl => ?_)
    refine lv_aload_n hx hb dX12_turning_30 rfl (lv_at hl 2 rfl) ?_
    refine g_get F hK hP 0 (Wm_at0 G g q I18 J19 R20 L21) clX12 8 (by decide) flX12_36 rfl dX12_turning_31 ?_
    have w_I18_6 := rg (hv_I18 6 (by decide)) (0) (5) rfl rfl
    refine lv_if_ne (tgt := 44) hx hb dX12_turning_34 (by decide) (fun c22 => ?_) (fun c22 => ?_)
    · have gc22 : ¬ ((I18 6).toInt = 0) := fun q0 => c22 (Int32.toInt_inj.mp q0)
      rw [hQ]
      exact q_v F hr hlk (I18, J19, R20, L21) hP hD hS ⟨hvI, hvR, hsI, hsR, (show (((I18 6).toInt = 0 ∧ ¬ (I0 2).toInt = 0) → (I0 3).toInt < (I18 3).toInt) from by omega), (show ((I18 3).toInt ≤ (I18 4).toInt) from by omega), (show ((I18 4).toInt ≤ (I0 1).toInt) from by omega), (show ((¬ (I18 2).toInt = 0) → (I18 3).toInt < (I18 4).toInt) from by omega), (show ((¬ (I0 6).toInt = 0) → (¬ (I18 6).toInt = 0)) from by omega), (show ((I0 3).toInt ≤ (I18 3).toInt) from by omega)⟩ dX12_turning_44 (Nat.le_of_ble_eq_true rfl) (Nat.le_of_ble_eq_true rfl)
    · have gc22 : (I18 6).toInt = 0 := congrArg Int32.toInt c22
      refine lv_aload_n hx hb dX12_turning_37 rfl (lv_at hl 2 rfl) ?_
      refine g_get F hK hP 0 (Wm_at0 G g q I18 J19 R20 L21) clX12 29 (by decide) flX12_101 rfl dX12_turning_38 ?_
      refine lv_iload_n hx hb dX12_turning_41 rfl (lv_at hl 1 rfl) ?_
      refine lv_iload_n hx hb dX12_turning_42 rfl (lv_at hl 0 rfl) ?_
      refine p_row (W1 := fun y => Wm G g q I18 J19 y L21) (n := 14) F hK hP hD hS 18 (Wm_at18 G g q I18 J19 R20 L21) (in_of (by omega)) dX12_turning_43 (Wm_rowR14 G g q I18 J19 R20 L21) (fun R23 H locs eR23 hP hD hS => ?_)
      have hvR : InvR Wm_rl R23 := inv_upR hvR 14 eR23 (upd_in (hvR 14 (by decide)) (full _))
      have hsR := smF_up hsR eR23 (by decide)
      rw [hQ]
      exact q_v F hr hlk (I18, J19, R23, L21) hP hD hS ⟨hvI, hvR, hsI, hsR, (show (((I18 6).toInt = 0 ∧ ¬ (I0 2).toInt = 0) → (I0 3).toInt < (I18 3).toInt) from by omega), (show ((I18 3).toInt ≤ (I18 4).toInt) from by omega), (show ((I18 4).toInt ≤ (I0 1).toInt) from by omega), (show ((¬ (I18 2).toInt = 0) → (I18 3).toInt < (I18 4).toInt) from by omega), (show ((¬ (I0 6).toInt = 0) → (¬ (I18 6).toInt = 0)) from by omega), (show ((I0 3).toInt ≤ (I18 3).toInt) from by omega)⟩ dX12_turning_44 (Nat.le_of_ble_eq_true rfl) (Nat.le_of_ble_eq_true rfl)
  · have gc7 : r1.toInt = 0 := congrArg Int32.toInt c7
    rw [hQ]
    exact q_v F hr hlk (I3, J4, R5, L6) hP hD hS ⟨hvI, hvR, hsI, hsR, (show (((I3 6).toInt = 0 ∧ ¬ (I0 2).toInt = 0) → (I0 3).toInt < (I3 3).toInt) from by omega), (show ((I3 3).toInt ≤ (I3 4).toInt) from by omega), (show ((I3 4).toInt ≤ (I0 1).toInt) from by omega), (show ((¬ (I3 2).toInt = 0) → (I3 3).toInt < (I3 4).toInt) from by omega), (show ((¬ (I0 6).toInt = 0) → (¬ (I3 6).toInt = 0)) from by omega), (show ((I0 3).toInt ≤ (I3 3).toInt) from by omega)⟩ dX12_turning_8 (Nat.le_of_ble_eq_true rfl) (Nat.le_of_ble_eq_true rfl)
set_option maxHeartbeats 4000000 in
set_option maxRecDepth 100000 in
theorem s_X12_person (l : Launch) (G : Gx) (g q : Nat → Nat) (I0 : Nat → Int32) (J0 : Nat → Int64) (R0 : Nat → Nat → Int32) (L0 : Nat → Nat → Int64) (hvI : InvI Wm_lo Wm_hi I0) (hvR : InvR Wm_rl R0)   (hpre0 : ((I0 3).toInt ≤ (I0 4).toInt)) (hpre1 : ((I0 4).toInt ≤ (I0 1).toInt)) (hpre2 : ((¬ (I0 2).toInt = 0) → (I0 3).toInt < (I0 4).toInt)) : CtV (S := St) l yX12_person cX12_person 3 none (rmD 4 0 0) G [.ref (g 45)] (Wm G g q I0 J0 R0 L0) (fun u => InvI Wm_lo Wm_hi u.1 ∧ InvR Wm_rl u.2.2.1 ∧ SmF ([2, 3, 4, 5, 6, 7] : List Nat) I0 u.1 ∧ SmF ([7, 8, 9, 10, 11, 12, 13, 14] : List Nat) R0 u.2.2.1 ∧ (((u.1 6).toInt = 0 ∧ ¬ (I0 2).toInt = 0) → (I0 3).toInt < (u.1 3).toInt) ∧ ((u.1 3).toInt ≤ (u.1 4).toInt) ∧ ((u.1 4).toInt ≤ (I0 1).toInt) ∧ ((¬ (u.1 2).toInt = 0) → (u.1 3).toInt < (u.1 4).toInt) ∧ ((¬ (I0 6).toInt = 0) → (¬ (u.1 6).toInt = 0)) ∧ ((I0 3).toInt ≤ (u.1 3).toInt)) (fun u => Wm G g q u.1 u.2.1 u.2.2.1 u.2.2.2) := by
  refine ctV_of (own := RX12) (by decide +kernel) rfl (Nat.le_of_ble_eq_true rfl) ?_
  intro p e s m below meth c A ls F hr hlk hnm hK hP hD hA hS hl
  have hx := F.1
  have hb := F.2.1
  have hown := F.2.2.2.1
  have hl : lv_has ls 3 [(0, .ref (g 45))] := hl
  obtain ⟨Q, hQ⟩ : ∃ Q : State → Prop, Q = MQ below (va_Qv (S := St) (fun u => InvI Wm_lo Wm_hi u.1 ∧ InvR Wm_rl u.2.2.1 ∧ SmF ([2, 3, 4, 5, 6, 7] : List Nat) I0 u.1 ∧ SmF ([7, 8, 9, 10, 11, 12, 13, 14] : List Nat) R0 u.2.2.1 ∧ (((u.1 6).toInt = 0 ∧ ¬ (I0 2).toInt = 0) → (I0 3).toInt < (u.1 3).toInt) ∧ ((u.1 3).toInt ≤ (u.1 4).toInt) ∧ ((u.1 4).toInt ≤ (I0 1).toInt) ∧ ((¬ (u.1 2).toInt = 0) → (u.1 3).toInt < (u.1 4).toInt) ∧ ((¬ (I0 6).toInt = 0) → (¬ (u.1 6).toInt = 0)) ∧ ((I0 3).toInt ≤ (u.1 3).toInt)) (BX G A (fun u => Wm G g q u.1 u.2.1 u.2.2.1 u.2.2.2)) A) [.ref (g 45)].toArray s 0 0 A := ⟨_, rfl⟩
  rw [show (MQ below (va_Qv (S := St) (fun u => InvI Wm_lo Wm_hi u.1 ∧ InvR Wm_rl u.2.2.1 ∧ SmF ([2, 3, 4, 5, 6, 7] : List Nat) I0 u.1 ∧ SmF ([7, 8, 9, 10, 11, 12, 13, 14] : List Nat) R0 u.2.2.1 ∧ (((u.1 6).toInt = 0 ∧ ¬ (I0 2).toInt = 0) → (I0 3).toInt < (u.1 3).toInt) ∧ ((u.1 3).toInt ≤ (u.1 4).toInt) ∧ ((u.1 4).toInt ≤ (I0 1).toInt) ∧ ((¬ (u.1 2).toInt = 0) → (u.1 3).toInt < (u.1 4).toInt) ∧ ((¬ (I0 6).toInt = 0) → (¬ (u.1 6).toInt = 0)) ∧ ((I0 3).toInt ≤ (u.1 3).toInt)) (BX G A (fun u => Wm G g q u.1 u.2.1 u.2.2.1 u.2.2.2)) A) [.ref (g 45)].toArray s (rmD 4 0 0).cells (rmD 4 0 0).slots A) = Q from hQ.symm]
  have hsI := smF_rf ([2, 3, 4, 5, 6, 7] : List Nat) I0
  have hsR := smF_rf ([7, 8, 9, 10, 11, 12, 13, 14] : List Nat) R0
  have hvI0 := hvI
  have lab_101 : ∀ (k_101 : Nat) (a1_101 : Int32) (a2_101 : Int32) (I_101 : Nat → Int32) (J_101 : Nat → Int64) (R_101 : Nat → Nat → Int32) (L_101 : Nat → Nat → Int64) (H : Heap) (locs : List Loc) (ls : Array Slot), ((5 - a2_101.toInt) < (k_101 : Int)) → InvI Wm_lo Wm_hi I_101 → InvR Wm_rl R_101 → SmF ([2, 3, 4, 5, 6, 7] : List Nat) I0 I_101 → SmF ([7, 8, 9, 10, 11, 12, 13, 14] : List Nat) R0 R_101 → ((0 : Int) ≤ a1_101.toInt ∧ a1_101.toInt ≤ (23 : Int)) → ((0 : Int) ≤ a2_101.toInt ∧ a2_101.toInt ≤ (5 : Int)) → ((I0 4).toInt ≤ (I_101 3).toInt) → ((R_101 7 (Int32.toNatClampNeg (I0 12))).toInt ≤ 11) → ((I_101 3).toInt ≤ (I_101 4).toInt) → ((I_101 4).toInt ≤ (I0 1).toInt) → ((¬ (I_101 2).toInt = 0) → (I_101 3).toInt < (I_101 4).toInt) → ((¬ (I0 6).toInt = 0) → (¬ (I_101 6).toInt = 0)) → ((I0 3).toInt ≤ (I_101 3).toInt) → va_P G.1 vwCl (Wm G g q I_101 J_101 R_101 L_101) H → va_D A (Wm G g q I_101 J_101 R_101 L_101) → va_S A s.heap H locs → lv_has ls 3 [(0, .ref (g 45)), (1, .int a1_101), (2, .int a2_101)] → W p l e (rmD 4 0 0) s m [.ref (g 45)].toArray below meth c H locs 0 0 Q (F0 m 101 ls []) := by
    intro k_101
    induction k_101 with
    | zero =>
      intro a1_101 a2_101 I_101 J_101 R_101 L_101 H locs ls hm hvI hvR hsI hsR y0_101 y1_101 z0_101 z1_101 z2_101 z3_101 z4_101 z5_101 z6_101 hP hD hS hl
      have hv_I_101 := hvI
      have w_I_101_1 := rg (hvI 1 (by decide)) (0) (1800) rfl rfl
      have v_I_101_1 : (I_101 1).toInt = (I0 1).toInt := congrArg Int32.toInt (hsI 1 rfl)
      have w_I_101_2 := rg (hvI 2 (by decide)) (0) (3) rfl rfl
      have w_I_101_3 := rg (hvI 3 (by decide)) (0) (1800) rfl rfl
      have w_I_101_4 := rg (hvI 4 (by decide)) (0) (1800) rfl rfl
      have w_I_101_6 := rg (hvI 6 (by decide)) (0) (5) rfl rfl
      have w_I_101_12 := rg (hvI 12 (by decide)) (0) (1) rfl rfl
      have v_I_101_12 : (I_101 12).toInt = (I0 12).toInt := congrArg Int32.toInt (hsI 12 rfl)
      exact absurd hm (by omega)
    | succ k_101 ih_101 =>
      intro a1_101 a2_101 I_101 J_101 R_101 L_101 H locs ls hm hvI hvR hsI hsR y0_101 y1_101 z0_101 z1_101 z2_101 z3_101 z4_101 z5_101 z6_101 hP hD hS hl
      have hv_I_101 := hvI
      have w_I_101_1 := rg (hvI 1 (by decide)) (0) (1800) rfl rfl
      have v_I_101_1 : (I_101 1).toInt = (I0 1).toInt := congrArg Int32.toInt (hsI 1 rfl)
      have w_I_101_2 := rg (hvI 2 (by decide)) (0) (3) rfl rfl
      have w_I_101_3 := rg (hvI 3 (by decide)) (0) (1800) rfl rfl
      have w_I_101_4 := rg (hvI 4 (by decide)) (0) (1800) rfl rfl
      have w_I_101_6 := rg (hvI 6 (by decide)) (0) (5) rfl rfl
      have w_I_101_12 := rg (hvI 12 (by decide)) (0) (1) rfl rfl
      have v_I_101_12 : (I_101 12).toInt = (I0 12).toInt := congrArg Int32.toInt (hsI 12 rfl)
      refine lv_iload_n hx hb dX12_person_101 rfl (lv_at hl 2 rfl) ?_
      refine lv_iconst (v := 5) hx hb dX12_person_102 (by decide) ?_
      refine lv_icmp_ge (tgt := 123) hx hb dX12_person_103 (by decide) (fun c1 => ?_) (fun c1 => ?_)
      · have gc1 : 5 ≤ a2_101.toInt := (tle _ _).mp c1
        refine lv_aload_n hx hb dX12_person_123 rfl (lv_at hl 0 rfl) ?_
        refine g_get F hK hP 0 (Wm_at0 G g q I_101 J_101 R_101 L_101) clX12 27 (by decide) flX12_95 rfl dX12_person_124 ?_
        refine lv_iload_n hx hb dX12_person_127 rfl (lv_at hl 1 rfl) ?_
        refine lv_bipush (v := 100) hx hb dX12_person_128 (by decide) ?_
        refine p_row (W1 := fun y => Wm G g q I_101 J_101 y L_101) (n := 12) F hK hP hD hS 16 (Wm_at16 G g q I_101 J_101 R_101 L_101) (in_of (by omega)) dX12_person_130 (Wm_rowR12 G g q I_101 J_101 R_101 L_101) (fun R2 H locs eR2 hP hD hS => ?_)
        have hvR : InvR Wm_rl R2 := inv_upR hvR 12 eR2 (upd_in (hvR 12 (by decide)) (full _))
        have hsR := smF_up hsR eR2 (by decide)
        refine lv_aload_n hx hb dX12_person_131 rfl (lv_at hl 0 rfl) ?_
        refine g_get F hK hP 0 (Wm_at0 G g q I_101 J_101 R2 L_101) clX12 28 (by decide) flX12_98 rfl dX12_person_132 ?_
        refine lv_iload_n hx hb dX12_person_135 rfl (lv_at hl 1 rfl) ?_
        refine lv_iconst (v := (-1)) hx hb dX12_person_136 (by decide) ?_
        refine p_row (W1 := fun y => Wm G g q I_101 J_101 y L_101) (n := 13) F hK hP hD hS 17 (Wm_at17 G g q I_101 J_101 R2 L_101) (in_of (by omega)) dX12_person_137 (Wm_rowR13 G g q I_101 J_101 R2 L_101) (fun R3 H locs eR3 hP hD hS => ?_)
        have hvR : InvR Wm_rl R3 := inv_upR hvR 13 eR3 (upd_in (hvR 13 (by decide)) (by decide))
        have hsR := smF_up hsR eR3 (by decide)
        refine lv_aload_n hx hb dX12_person_138 rfl (lv_at hl 0 rfl) ?_
        refine g_get F hK hP 0 (Wm_at0 G g q I_101 J_101 R3 L_101) clX12 29 (by decide) flX12_101 rfl dX12_person_139 ?_
        refine lv_iload_n hx hb dX12_person_142 rfl (lv_at hl 1 rfl) ?_
        refine lv_iconst (v := 0) hx hb dX12_person_143 (by decide) ?_
        refine p_row (W1 := fun y => Wm G g q I_101 J_101 y L_101) (n := 14) F hK hP hD hS 18 (Wm_at18 G g q I_101 J_101 R3 L_101) (in_of (by omega)) dX12_person_144 (Wm_rowR14 G g q I_101 J_101 R3 L_101) (fun R4 H locs eR4 hP hD hS => ?_)
        have hvR : InvR Wm_rl R4 := inv_upR hvR 14 eR4 (upd_in (hvR 14 (by decide)) (full _))
        have hsR := smF_up hsR eR4 (by decide)
        refine lv_aload_n hx hb dX12_person_145 rfl (lv_at hl 0 rfl) ?_
        refine g_get F hK hP 0 (Wm_at0 G g q I_101 J_101 R4 L_101) clX12 8 (by decide) flX12_36 rfl dX12_person_146 ?_
        have w_I_101_6 := rg (hv_I_101 6 (by decide)) (0) (5) rfl rfl
        refine lv_if_ne (tgt := 165) hx hb dX12_person_149 (by decide) (fun c5 => ?_) (fun c5 => ?_)
        · have gc5 : ¬ ((I_101 6).toInt = 0) := fun q0 => c5 (Int32.toInt_inj.mp q0)
          rw [hQ]
          exact q_v F hr hlk (I_101, J_101, R4, L_101) hP hD hS ⟨hvI, hvR, hsI, hsR, (show (((I_101 6).toInt = 0 ∧ ¬ (I0 2).toInt = 0) → (I0 3).toInt < (I_101 3).toInt) from by omega), (show ((I_101 3).toInt ≤ (I_101 4).toInt) from by omega), (show ((I_101 4).toInt ≤ (I0 1).toInt) from by omega), (show ((¬ (I_101 2).toInt = 0) → (I_101 3).toInt < (I_101 4).toInt) from by omega), (show ((¬ (I0 6).toInt = 0) → (¬ (I_101 6).toInt = 0)) from by omega), (show ((I0 3).toInt ≤ (I_101 3).toInt) from by omega)⟩ dX12_person_165 (Nat.le_of_ble_eq_true rfl) (Nat.le_of_ble_eq_true rfl)
        · have gc5 : (I_101 6).toInt = 0 := congrArg Int32.toInt c5
          refine lv_aload_n hx hb dX12_person_152 rfl (lv_at hl 0 rfl) ?_
          refine g_get F hK hP 0 (Wm_at0 G g q I_101 J_101 R4 L_101) clX12 21 (by decide) flX12_77 rfl dX12_person_153 ?_
          refine lv_aload_n hx hb dX12_person_156 rfl (lv_at hl 0 rfl) ?_
          refine g_get F hK hP 0 (Wm_at0 G g q I_101 J_101 R4 L_101) clX12 44 (by decide) flX12_146 rfl dX12_person_157 ?_
          refine cst_i (hsI 12 rfl) ?_
          have w_I0_12 := rg (hvI0 12 (by decide)) (0) (1) rfl rfl
          refine lv_dup2_11 hx hb dX12_person_160 rfl rfl ?_
          refine g_iald F hK hP 10 (Wm_at10 G g q I_101 J_101 R4 L_101) (in_of (by omega)) dX12_person_161 rfl ?_
          refine lv_topi (fun x6 ex6 => ?_)
          have gx6 : x6.toInt = (R_101 7 (Int32.toNatClampNeg (I0 12))).toInt := congrArg Int32.toInt ((((ex6).trans (congrFun (up_ne eR4 (by decide)) _)).trans (congrFun (up_ne eR3 (by decide)) _)).trans (congrFun (up_ne eR2 (by decide)) _))
          have fx6 : ((0 : Int) ≤ x6.toInt ∧ x6.toInt ≤ (12 : Int)) := by rw [ex6]; exact hvR 7 (by decide) _ (clamp_lt (n := 2) (in_of (by omega)))
          refine lv_iconst (v := 1) hx hb dX12_person_162 (by decide) ?_
          refine lv_iadd hx hb dX12_person_163 ?_
          refine lv_topi (fun x7 ex7 => ?_)
          have fx7 : x7.toInt = x6.toInt + 1 := by rw [ex7]; exact t_add (by show (-2147483648 : Int) ≤ x6.toInt + 1; omega) (by show x6.toInt + 1 ≤ 2147483647; omega)
          refine p_row (W1 := fun y => Wm G g q I_101 J_101 y L_101) (n := 7) F hK hP hD hS 10 (Wm_at10 G g q I_101 J_101 R4 L_101) (in_of (by omega)) dX12_person_164 (Wm_rowR7 G g q I_101 J_101 R4 L_101) (fun R8 H locs eR8 hP hD hS => ?_)
          have hvR : InvR Wm_rl R8 := inv_upR hvR 7 eR8 (upd_in (hvR 7 (by decide)) (show ((0 : Int) ≤ x7.toInt ∧ x7.toInt ≤ (12 : Int)) from by omega))
          have hsR := smF_up hsR eR8 (by decide)
          rw [hQ]
          exact q_v F hr hlk (I_101, J_101, R8, L_101) hP hD hS ⟨hvI, hvR, hsI, hsR, (show (((I_101 6).toInt = 0 ∧ ¬ (I0 2).toInt = 0) → (I0 3).toInt < (I_101 3).toInt) from by omega), (show ((I_101 3).toInt ≤ (I_101 4).toInt) from by omega), (show ((I_101 4).toInt ≤ (I0 1).toInt) from by omega), (show ((¬ (I_101 2).toInt = 0) → (I_101 3).toInt < (I_101 4).toInt) from by omega), (show ((¬ (I0 6).toInt = 0) → (¬ (I_101 6).toInt = 0)) from by omega), (show ((I0 3).toInt ≤ (I_101 3).toInt) from by omega)⟩ dX12_person_165 (Nat.le_of_ble_eq_true rfl) (Nat.le_of_ble_eq_true rfl)
      · have gc1 : ¬ (5 ≤ a2_101.toInt) := fun q0 => c1 ((tle _ _).mpr q0)
        refine lv_aload_n hx hb dX12_person_106 rfl (lv_at hl 0 rfl) ?_
        refine g_get F hK hP 0 (Wm_at0 G g q I_101 J_101 R_101 L_101) clX12 26 (by decide) flX12_92 rfl dX12_person_107 ?_
        refine lv_iconst (v := 5) hx hb dX12_person_110 (by decide) ?_
        refine lv_iload_n hx hb dX12_person_111 rfl (lv_at hl 1 rfl) ?_
        refine lv_imul hx hb dX12_person_112 ?_
        refine lv_topi (fun x9 ex9 => ?_)
        have fx9 : x9.toInt = 5 * a1_101.toInt := by rw [ex9]; exact t_mul (by show (-2147483648 : Int) ≤ 5 * a1_101.toInt; omega) (by show 5 * a1_101.toInt ≤ 2147483647; omega)
        refine lv_iload_n hx hb dX12_person_113 rfl (lv_at hl 2 rfl) ?_
        refine lv_iadd hx hb dX12_person_114 ?_
        refine lv_topi (fun x10 ex10 => ?_)
        have fx10 : x10.toInt = x9.toInt + a2_101.toInt := by rw [ex10]; exact t_add (by show (-2147483648 : Int) ≤ x9.toInt + a2_101.toInt; omega) (by show x9.toInt + a2_101.toInt ≤ 2147483647; omega)
        refine lv_iconst (v := 0) hx hb dX12_person_115 (by decide) ?_
        refine p_row (W1 := fun y => Wm G g q I_101 J_101 y L_101) (n := 11) F hK hP hD hS 15 (Wm_at15 G g q I_101 J_101 R_101 L_101) (in_of (by omega)) dX12_person_116 (Wm_rowR11 G g q I_101 J_101 R_101 L_101) (fun R11 H locs eR11 hP hD hS => ?_)
        have hvR : InvR Wm_rl R11 := inv_upR hvR 11 eR11 (upd_in (hvR 11 (by decide)) (full _))
        have hsR := smF_up hsR eR11 (by decide)
        obtain ⟨x12, ex12⟩ : ∃ y : Int32, y = a2_101 + 1 := ⟨_, rfl⟩
        have fx12 : x12.toInt = a2_101.toInt + (1 : Int) := by rw [ex12]; exact t_add (by show (-2147483648 : Int) ≤ a2_101.toInt + (1 : Int); omega) (by show a2_101.toInt + (1 : Int) ≤ 2147483647; omega)
        refine lv_iinc (v := x12) (lv' := [(2, .int x12), (0, .ref (g 45)), (1, .int a1_101)]) hx hb dX12_person_117 hl (k := 2) rfl (by rw [ex12]; rfl) (by decide) rfl (fun ls hl => ?_)
        refine lv_goto (tgt := 101) hx hb dX12_person_120 (by decide) ?_
        exact ih_101 a1_101 x12 I_101 J_101 R11 L_101 _ _ _ (show (5 - x12.toInt) < (k_101 : Int) from by omega) hvI hvR hsI hsR (show ((0 : Int) ≤ a1_101.toInt ∧ a1_101.toInt ≤ (23 : Int)) from by omega) (show ((0 : Int) ≤ x12.toInt ∧ x12.toInt ≤ (5 : Int)) from by omega) (show ((I0 4).toInt ≤ (I_101 3).toInt) from by omega) (show ((R11 7 (Int32.toNatClampNeg (I0 12))).toInt ≤ 11) from by omega) (show ((I_101 3).toInt ≤ (I_101 4).toInt) from by omega) (show ((I_101 4).toInt ≤ (I0 1).toInt) from by omega) (show ((¬ (I_101 2).toInt = 0) → (I_101 3).toInt < (I_101 4).toInt) from by omega) (show ((¬ (I0 6).toInt = 0) → (¬ (I_101 6).toInt = 0)) from by omega) (show ((I0 3).toInt ≤ (I_101 3).toInt) from by omega) hP hD hS (lv_sub hl [1, 2, 0] rfl)
  have lab_20 : ∀ (b0_20 : Int32) (I_20 : Nat → Int32) (J_20 : Nat → Int64) (R_20 : Nat → Nat → Int32) (L_20 : Nat → Nat → Int64) (H : Heap) (locs : List Loc) (ls : Array Slot), InvI Wm_lo Wm_hi I_20 → InvR Wm_rl R_20 → SmF ([2, 3, 4, 5, 6, 7] : List Nat) I0 I_20 → SmF ([7, 8, 9, 10, 11, 12, 13, 14] : List Nat) R0 R_20 → ((0 : Int) ≤ b0_20.toInt ∧ b0_20.toInt ≤ (1 : Int)) → (b0_20.toInt = 0 → (R_20 7 (Int32.toNatClampNeg (I0 12))).toInt ≤ 11) → ((I_20 2).toInt = (I0 2).toInt) → ((I_20 4).toInt = (I0 4).toInt) → ((I_20 3).toInt = (I0 3).toInt) → ((I_20 3).toInt ≤ (I_20 4).toInt) → ((I_20 4).toInt ≤ (I0 1).toInt) → ((¬ (I_20 2).toInt = 0) → (I_20 3).toInt < (I_20 4).toInt) → ((¬ (I0 6).toInt = 0) → (¬ (I_20 6).toInt = 0)) → ((I0 3).toInt ≤ (I_20 3).toInt) → va_P G.1 vwCl (Wm G g q I_20 J_20 R_20 L_20) H → va_D A (Wm G g q I_20 J_20 R_20 L_20) → va_S A s.heap H locs → lv_has ls 3 [(0, .ref (g 45))] → W p l e (rmD 4 0 0) s m [.ref (g 45)].toArray below meth c H locs 0 0 Q (F0 m 20 ls [.int b0_20, .ref (g 45)]) := by
    intro b0_20 I_20 J_20 R_20 L_20 H locs ls hvI hvR hsI hsR y0_20 z0_20 z1_20 z2_20 z3_20 z4_20 z5_20 z6_20 z7_20 z8_20 hP hD hS hl
    have hv_I_20 := hvI
    have w_I_20_1 := rg (hvI 1 (by decide)) (0) (1800) rfl rfl
    have v_I_20_1 : (I_20 1).toInt = (I0 1).toInt := congrArg Int32.toInt (hsI 1 rfl)
    have w_I_20_2 := rg (hvI 2 (by decide)) (0) (3) rfl rfl
    have w_I_20_3 := rg (hvI 3 (by decide)) (0) (1800) rfl rfl
    have w_I_20_4 := rg (hvI 4 (by decide)) (0) (1800) rfl rfl
    have w_I_20_6 := rg (hvI 6 (by decide)) (0) (5) rfl rfl
    have w_I_20_12 := rg (hvI 12 (by decide)) (0) (1) rfl rfl
    have v_I_20_12 : (I_20 12).toInt = (I0 12).toInt := congrArg Int32.toInt (hsI 12 rfl)
    refine wvi (As := [.int b0_20]) (rest := []) (b := (g 45)) (d := 3) F hK hP hD hS hA (s_X12_counts l G g q I_20 J_20 R_20 L_20 hvI hvR  b0_20 (show ((0 : Int) ≤ b0_20.toInt ∧ b0_20.toInt ≤ (1 : Int)) from by omega) (by omega) (by omega) (by omega)) kmV_X12_counts mlX12_358 clX12 rfl 0 (Wm_at0 G g q I_20 J_20 R_20 L_20) ⟨(Nat.le_of_ble_eq_true rfl), (Nat.le_of_ble_eq_true rfl)⟩ hl.1 rfl (Nat.le_of_ble_eq_true rfl) dX12_person_20 (fun r13 u14 H locs hwr13 hP hD hS => ?_)
    obtain ⟨I15, J16, R17, L18⟩ := u14
    replace hP : va_P G.1 vwCl (Wm G g q I15 J16 R17 L18) H := hP
    replace hD : va_D A (Wm G g q I15 J16 R17 L18) := hD
    obtain ⟨hvI, hvR, tIr13, tRr13, F0r13, F1r13, F2r13, F3r13, F4r13, F5r13, F6r13⟩ := hwr13
    replace F0r13 : ((0 : Int) ≤ r13.toInt ∧ r13.toInt ≤ (1 : Int)) := F0r13
    replace F1r13 : ((r13.toInt = 1 ∧ b0_20.toInt = 0 ∧ (I15 6).toInt = 0 ∧ (I_20 4).toInt ≤ (I15 3).toInt) ∨ (r13.toInt = 0 ∧ ¬ (I15 6).toInt = 0)) := F1r13
    replace F2r13 : ((I15 3).toInt ≤ (I15 4).toInt) := F2r13
    replace F3r13 : ((I15 4).toInt ≤ (I_20 1).toInt) := F3r13
    replace F4r13 : ((¬ (I15 2).toInt = 0) → (I15 3).toInt < (I15 4).toInt) := F4r13
    replace F5r13 : ((¬ (I_20 6).toInt = 0) → (¬ (I15 6).toInt = 0)) := F5r13
    replace F6r13 : ((I_20 3).toInt ≤ (I15 3).toInt) := F6r13
    replace hvI : InvI Wm_lo Wm_hi I15 := hvI
    replace hvR : InvR Wm_rl R17 := hvR
    replace tIr13 : SmF ([2, 3, 4, 5, 6, 7] : List Nat) I_20 I15 := tIr13
    replace tRr13 : SmF ([] : List Nat) R_20 R17 := tRr13
    have hv_I15 := hvI
    have hsI := smF_tr hsI tIr13 (by decide)
    have hsR := smF_tr hsR tRr13 (by decide)
    have u_I15_1 : (I15 1).toInt = (I_20 1).toInt := congrArg Int32.toInt (tIr13 1 rfl)
    have w_I15_2 := rg (hvI 2 (by decide)) (0) (3) rfl rfl
    have w_I15_3 := rg (hvI 3 (by decide)) (0) (1800) rfl rfl
    have w_I15_4 := rg (hvI 4 (by decide)) (0) (1800) rfl rfl
    have w_I15_6 := rg (hvI 6 (by decide)) (0) (5) rfl rfl
    have u_I15_12 : (I15 12).toInt = (I_20 12).toInt := congrArg Int32.toInt (tIr13 12 rfl)
    refine lv_if_ne (tgt := 27) hx hb dX12_person_23 (by decide) (fun c19 => ?_) (fun c19 => ?_)
    · have gc19 : ¬ (r13.toInt = 0) := fun q0 => c19 (Int32.toInt_inj.mp q0)
      refine lv_bipush (v := 12) hx hb dX12_person_27 (by decide) ?_
      refine lv_aload_n hx hb dX12_person_29 rfl (lv_at hl 0 rfl) ?_
      refine g_get F hK hP 0 (Wm_at0 G g q I15 J16 R17 L18) clX12 44 (by decide) flX12_146 rfl dX12_person_30 ?_
      refine cst_i (hsI 12 rfl) ?_
      have w_I0_12 := rg (hvI0 12 (by decide)) (0) (1) rfl rfl
      refine lv_imul hx hb dX12_person_33 ?_
      refine lv_topi (fun x20 ex20 => ?_)
      have fx20 : x20.toInt = 12 * (I0 12).toInt := by rw [ex20]; exact t_mul (by show (-2147483648 : Int) ≤ 12 * (I0 12).toInt; omega) (by show 12 * (I0 12).toInt ≤ 2147483647; omega)
      refine lv_aload_n hx hb dX12_person_34 rfl (lv_at hl 0 rfl) ?_
      refine g_get F hK hP 0 (Wm_at0 G g q I15 J16 R17 L18) clX12 21 (by decide) flX12_77 rfl dX12_person_35 ?_
      refine lv_aload_n hx hb dX12_person_38 rfl (lv_at hl 0 rfl) ?_
      refine g_get F hK hP 0 (Wm_at0 G g q I15 J16 R17 L18) clX12 44 (by decide) flX12_146 rfl dX12_person_39 ?_
      refine cst_i (hsI 12 rfl) ?_
      refine g_iald F hK hP 10 (Wm_at10 G g q I15 J16 R17 L18) (in_of (by omega)) dX12_person_42 rfl ?_
      refine lv_topi (fun x21 ex21 => ?_)
      have gx21 : x21.toInt = (R_20 7 (Int32.toNatClampNeg (I0 12))).toInt := congrArg Int32.toInt ((ex21).trans (congrFun (tRr13 7 rfl) _))
      have fx21 : ((0 : Int) ≤ x21.toInt ∧ x21.toInt ≤ (12 : Int)) := by rw [ex21]; exact hvR 7 (by decide) _ (clamp_lt (n := 2) (in_of (by omega)))
      refine lv_iadd hx hb dX12_person_43 ?_
      refine lv_topi (fun x22 ex22 => ?_)
      have fx22 : x22.toInt = x20.toInt + x21.toInt := by rw [ex22]; exact t_add (by show (-2147483648 : Int) ≤ x20.toInt + x21.toInt; omega) (by show x20.toInt + x21.toInt ≤ 2147483647; omega)
      refine lv_istore_n (lv' := [(1, .int x22), (0, .ref (g 45))]) hx hb dX12_person_44 rfl hl (by decide) rfl (fun ls hl => ?_)
      refine lv_aload_n hx hb dX12_person_45 rfl (lv_at hl 1 rfl) ?_
      refine g_get F hK hP 0 (Wm_at0 G g q I15 J16 R17 L18) clX12 22 (by decide) flX12_80 rfl dX12_person_46 ?_
      refine lv_iload_n hx hb dX12_person_49 rfl (lv_at hl 0 rfl) ?_
      refine lv_aload_n hx hb dX12_person_50 rfl (lv_at hl 1 rfl) ?_
      refine wvl (As := []) (rest := [.int x22, .ref (g 10)]) (b := (g 45)) (d := 3) F hK hP hD hS hA (s_X12_fresh l G g q I15 J16 R17 L18 hvI hvR   (by omega) (by omega) (by omega)) kmV_X12_fresh mlX12_362 clX12 rfl 0 (Wm_at0 G g q I15 J16 R17 L18) ⟨(Nat.le_of_ble_eq_true rfl), (Nat.le_of_ble_eq_true rfl)⟩ hl.1 rfl (Nat.le_of_ble_eq_true rfl) dX12_person_51 (fun r23 u24 H locs hwr23 hP hD hS => ?_)
      obtain ⟨I25, J26, R27, L28⟩ := u24
      replace hP : va_P G.1 vwCl (Wm G g q I25 J26 R27 L28) H := hP
      replace hD : va_D A (Wm G g q I25 J26 R27 L28) := hD
      obtain ⟨hvI, hvR, tIr23, tRr23, F0r23, F1r23, F2r23, F3r23, F4r23⟩ := hwr23
      replace F0r23 : ((I25 3).toInt ≤ (I25 4).toInt) := F0r23
      replace F1r23 : ((I25 4).toInt ≤ (I15 1).toInt) := F1r23
      replace F2r23 : ((¬ (I25 2).toInt = 0) → (I25 3).toInt < (I25 4).toInt) := F2r23
      replace F3r23 : ((¬ (I15 6).toInt = 0) → (¬ (I25 6).toInt = 0)) := F3r23
      replace F4r23 : ((I15 3).toInt ≤ (I25 3).toInt) := F4r23
      replace hvI : InvI Wm_lo Wm_hi I25 := hvI
      replace hvR : InvR Wm_rl R27 := hvR
      replace tIr23 : SmF ([2, 3, 4, 5, 6, 7] : List Nat) I15 I25 := tIr23
      replace tRr23 : SmF ([] : List Nat) R17 R27 := tRr23
      have hv_I25 := hvI
      have hsI := smF_tr hsI tIr23 (by decide)
      have hsR := smF_tr hsR tRr23 (by decide)
      have u_I25_1 : (I25 1).toInt = (I15 1).toInt := congrArg Int32.toInt (tIr23 1 rfl)
      have w_I25_2 := rg (hvI 2 (by decide)) (0) (3) rfl rfl
      have w_I25_3 := rg (hvI 3 (by decide)) (0) (1800) rfl rfl
      have w_I25_4 := rg (hvI 4 (by decide)) (0) (1800) rfl rfl
      have w_I25_6 := rg (hvI 6 (by decide)) (0) (5) rfl rfl
      have u_I25_12 : (I25 12).toInt = (I15 12).toInt := congrArg Int32.toInt (tIr23 12 rfl)
      refine p_lrow (W1 := fun y => Wm G g q I25 J26 R27 y) (n := 2) F hK hP hD hS 11 (Wm_at11 G g q I25 J26 R27 L28) (in_of (by omega)) dX12_person_54 (Wm_rowL2 G g q I25 J26 R27 L28) (fun L29 H locs eL29 hP hD hS => ?_)
      refine lv_aload_n hx hb dX12_person_55 rfl (lv_at hl 1 rfl) ?_
      refine lv_ldc2 hx hb hown (F.2.2.2.2 _ clX12_258) dX12_person_56 ?_
      refine wvv (As := [.long 1952801133]) (rest := []) (b := (g 45)) (d := 3) F hK hP hD hS hA (s_X12_must_ l G g q I25 J26 R27 L29 hvI hvR  1952801133 (by omega) (by omega) (by omega)) kmV_X12_must_ mlX12_366 clX12 rfl 0 (Wm_at0 G g q I25 J26 R27 L29) ⟨(Nat.le_of_ble_eq_true rfl), (Nat.le_of_ble_eq_true rfl)⟩ hl.1 rfl (Nat.le_of_ble_eq_true rfl) dX12_person_59 (fun u31 H locs hwr30 hP hD hS => ?_)
      obtain ⟨I32, J33, R34, L35⟩ := u31
      replace hP : va_P G.1 vwCl (Wm G g q I32 J33 R34 L35) H := hP
      replace hD : va_D A (Wm G g q I32 J33 R34 L35) := hD
      obtain ⟨hvI, hvR, tIr30, tRr30, F0r30, F1r30, F2r30, F3r30, F4r30⟩ := hwr30
      replace F0r30 : ((I32 3).toInt ≤ (I32 4).toInt) := F0r30
      replace F1r30 : ((I32 4).toInt ≤ (I25 1).toInt) := F1r30
      replace F2r30 : ((¬ (I32 2).toInt = 0) → (I32 3).toInt < (I32 4).toInt) := F2r30
      replace F3r30 : ((¬ (I25 6).toInt = 0) → (¬ (I32 6).toInt = 0)) := F3r30
      replace F4r30 : ((I25 3).toInt ≤ (I32 3).toInt) := F4r30
      replace hvI : InvI Wm_lo Wm_hi I32 := hvI
      replace hvR : InvR Wm_rl R34 := hvR
      replace tIr30 : SmF ([2, 3, 4, 5, 6, 7] : List Nat) I25 I32 := tIr30
      replace tRr30 : SmF ([] : List Nat) R27 R34 := tRr30
      have hv_I32 := hvI
      have hsI := smF_tr hsI tIr30 (by decide)
      have hsR := smF_tr hsR tRr30 (by decide)
      have u_I32_1 : (I32 1).toInt = (I25 1).toInt := congrArg Int32.toInt (tIr30 1 rfl)
      have w_I32_2 := rg (hvI 2 (by decide)) (0) (3) rfl rfl
      have w_I32_3 := rg (hvI 3 (by decide)) (0) (1800) rfl rfl
      have w_I32_4 := rg (hvI 4 (by decide)) (0) (1800) rfl rfl
      have w_I32_6 := rg (hvI 6 (by decide)) (0) (5) rfl rfl
      have u_I32_12 : (I32 12).toInt = (I25 12).toInt := congrArg Int32.toInt (tIr30 12 rfl)
      refine lv_aload_n hx hb dX12_person_62 rfl (lv_at hl 1 rfl) ?_
      refine g_get F hK hP 0 (Wm_at0 G g q I32 J33 R34 L35) clX12 23 (by decide) flX12_83 rfl dX12_person_63 ?_
      refine lv_iload_n hx hb dX12_person_66 rfl (lv_at hl 0 rfl) ?_
      refine lv_aload_n hx hb dX12_person_67 rfl (lv_at hl 1 rfl) ?_
      refine lv_iconst (v := 1) hx hb dX12_person_68 (by decide) ?_
      refine wvi (As := [.int 1]) (rest := [.int x22, .ref (g 11)]) (b := (g 45)) (d := 3) F hK hP hD hS hA (s_X12_asked l G g q I32 J33 R34 L35 hvI hvR  1 (by decide) (by omega) (by omega) (by omega)) kmV_X12_asked mlX12_374 clX12 rfl 0 (Wm_at0 G g q I32 J33 R34 L35) ⟨(Nat.le_of_ble_eq_true rfl), (Nat.le_of_ble_eq_true rfl)⟩ hl.1 rfl (Nat.le_of_ble_eq_true rfl) dX12_person_69 (fun r36 u37 H locs hwr36 hP hD hS => ?_)
      obtain ⟨I38, J39, R40, L41⟩ := u37
      replace hP : va_P G.1 vwCl (Wm G g q I38 J39 R40 L41) H := hP
      replace hD : va_D A (Wm G g q I38 J39 R40 L41) := hD
      obtain ⟨hvI, hvR, tIr36, tRr36, F0r36, F1r36, F2r36, F3r36, F4r36, F5r36, F6r36, F7r36⟩ := hwr36
      replace F0r36 : ((0 : Int) ≤ r36.toInt ∧ r36.toInt ≤ (11 : Int)) := F0r36
      replace F1r36 : (1 = 0 → r36.toInt ≤ 4) := F1r36
      replace F2r36 : (1 = 1 → r36.toInt ≤ 5) := F2r36
      replace F3r36 : ((I38 3).toInt ≤ (I38 4).toInt) := F3r36
      replace F4r36 : ((I38 4).toInt ≤ (I32 1).toInt) := F4r36
      replace F5r36 : ((¬ (I38 2).toInt = 0) → (I38 3).toInt < (I38 4).toInt) := F5r36
      replace F6r36 : ((¬ (I32 6).toInt = 0) → (¬ (I38 6).toInt = 0)) := F6r36
      replace F7r36 : ((I32 3).toInt ≤ (I38 3).toInt) := F7r36
      replace hvI : InvI Wm_lo Wm_hi I38 := hvI
      replace hvR : InvR Wm_rl R40 := hvR
      replace tIr36 : SmF ([2, 3, 4, 5, 6, 7] : List Nat) I32 I38 := tIr36
      replace tRr36 : SmF ([] : List Nat) R34 R40 := tRr36
      have hv_I38 := hvI
      have hsI := smF_tr hsI tIr36 (by decide)
      have hsR := smF_tr hsR tRr36 (by decide)
      have u_I38_1 : (I38 1).toInt = (I32 1).toInt := congrArg Int32.toInt (tIr36 1 rfl)
      have w_I38_2 := rg (hvI 2 (by decide)) (0) (3) rfl rfl
      have w_I38_3 := rg (hvI 3 (by decide)) (0) (1800) rfl rfl
      have w_I38_4 := rg (hvI 4 (by decide)) (0) (1800) rfl rfl
      have w_I38_6 := rg (hvI 6 (by decide)) (0) (5) rfl rfl
      have u_I38_12 : (I38 12).toInt = (I32 12).toInt := congrArg Int32.toInt (tIr36 12 rfl)
      refine p_row (W1 := fun y => Wm G g q I38 J39 y L41) (n := 8) F hK hP hD hS 12 (Wm_at12 G g q I38 J39 R40 L41) (in_of (by omega)) dX12_person_72 (Wm_rowR8 G g q I38 J39 R40 L41) (fun R42 H locs eR42 hP hD hS => ?_)
      have hvR : InvR Wm_rl R42 := inv_upR hvR 8 eR42 (upd_in (hvR 8 (by decide)) (show ((0 : Int) ≤ r36.toInt ∧ r36.toInt ≤ (5 : Int)) from by omega))
      have hsR := smF_up hsR eR42 (by decide)
      refine lv_aload_n hx hb dX12_person_73 rfl (lv_at hl 1 rfl) ?_
      refine lv_ldc2 hx hb hown (F.2.2.2.2 _ clX12_262) dX12_person_74 ?_
      refine wvv (As := [.long 1684109683]) (rest := []) (b := (g 45)) (d := 3) F hK hP hD hS hA (s_X12_must_ l G g q I38 J39 R42 L41 hvI hvR  1684109683 (by omega) (by omega) (by omega)) kmV_X12_must_ mlX12_366 clX12 rfl 0 (Wm_at0 G g q I38 J39 R42 L41) ⟨(Nat.le_of_ble_eq_true rfl), (Nat.le_of_ble_eq_true rfl)⟩ hl.1 rfl (Nat.le_of_ble_eq_true rfl) dX12_person_77 (fun u44 H locs hwr43 hP hD hS => ?_)
      obtain ⟨I45, J46, R47, L48⟩ := u44
      replace hP : va_P G.1 vwCl (Wm G g q I45 J46 R47 L48) H := hP
      replace hD : va_D A (Wm G g q I45 J46 R47 L48) := hD
      obtain ⟨hvI, hvR, tIr43, tRr43, F0r43, F1r43, F2r43, F3r43, F4r43⟩ := hwr43
      replace F0r43 : ((I45 3).toInt ≤ (I45 4).toInt) := F0r43
      replace F1r43 : ((I45 4).toInt ≤ (I38 1).toInt) := F1r43
      replace F2r43 : ((¬ (I45 2).toInt = 0) → (I45 3).toInt < (I45 4).toInt) := F2r43
      replace F3r43 : ((¬ (I38 6).toInt = 0) → (¬ (I45 6).toInt = 0)) := F3r43
      replace F4r43 : ((I38 3).toInt ≤ (I45 3).toInt) := F4r43
      replace hvI : InvI Wm_lo Wm_hi I45 := hvI
      replace hvR : InvR Wm_rl R47 := hvR
      replace tIr43 : SmF ([2, 3, 4, 5, 6, 7] : List Nat) I38 I45 := tIr43
      replace tRr43 : SmF ([] : List Nat) R42 R47 := tRr43
      have hv_I45 := hvI
      have hsI := smF_tr hsI tIr43 (by decide)
      have hsR := smF_tr hsR tRr43 (by decide)
      have u_I45_1 : (I45 1).toInt = (I38 1).toInt := congrArg Int32.toInt (tIr43 1 rfl)
      have w_I45_2 := rg (hvI 2 (by decide)) (0) (3) rfl rfl
      have w_I45_3 := rg (hvI 3 (by decide)) (0) (1800) rfl rfl
      have w_I45_4 := rg (hvI 4 (by decide)) (0) (1800) rfl rfl
      have w_I45_6 := rg (hvI 6 (by decide)) (0) (5) rfl rfl
      have u_I45_12 : (I45 12).toInt = (I38 12).toInt := congrArg Int32.toInt (tIr43 12 rfl)
      refine lv_aload_n hx hb dX12_person_80 rfl (lv_at hl 1 rfl) ?_
      refine g_get F hK hP 0 (Wm_at0 G g q I45 J46 R47 L48) clX12 24 (by decide) flX12_86 rfl dX12_person_81 ?_
      refine lv_iload_n hx hb dX12_person_84 rfl (lv_at hl 0 rfl) ?_
      refine lv_aload_n hx hb dX12_person_85 rfl (lv_at hl 1 rfl) ?_
      refine lv_iconst (v := 0) hx hb dX12_person_86 (by decide) ?_
      refine lv_iconst (v := 5) hx hb dX12_person_87 (by decide) ?_
      refine wvi (As := [.int 0, .int 5]) (rest := [.int x22, .ref (g 12)]) (b := (g 45)) (d := 3) F hK hP hD hS hA (s_X12_number l G g q I45 J46 R47 L48 hvI hvR  0 5 (by decide) (by decide) (by omega) (by omega) (by omega)) kmV_X12_number mlX12_370 clX12 rfl 0 (Wm_at0 G g q I45 J46 R47 L48) ⟨(Nat.le_of_ble_eq_true rfl), (Nat.le_of_ble_eq_true rfl)⟩ hl.1 rfl (Nat.le_of_ble_eq_true rfl) dX12_person_88 (fun r49 u50 H locs hwr49 hP hD hS => ?_)
      obtain ⟨I51, J52, R53, L54⟩ := u50
      replace hP : va_P G.1 vwCl (Wm G g q I51 J52 R53 L54) H := hP
      replace hD : va_D A (Wm G g q I51 J52 R53 L54) := hD
      obtain ⟨hvI, hvR, tIr49, tRr49, F0r49, F1r49, F2r49, F3r49, F4r49, F5r49⟩ := hwr49
      replace F0r49 : ((0 : Int) ≤ r49.toInt ∧ r49.toInt ≤ (9999 : Int)) := F0r49
      replace F1r49 : ((I51 3).toInt ≤ (I51 4).toInt) := F1r49
      replace F2r49 : ((I51 4).toInt ≤ (I45 1).toInt) := F2r49
      replace F3r49 : ((¬ (I51 2).toInt = 0) → (I51 3).toInt < (I51 4).toInt) := F3r49
      replace F4r49 : ((¬ (I45 6).toInt = 0) → (¬ (I51 6).toInt = 0)) := F4r49
      replace F5r49 : ((I45 3).toInt ≤ (I51 3).toInt) := F5r49
      replace hvI : InvI Wm_lo Wm_hi I51 := hvI
      replace hvR : InvR Wm_rl R53 := hvR
      replace tIr49 : SmF ([2, 3, 4, 5, 6, 7] : List Nat) I45 I51 := tIr49
      replace tRr49 : SmF ([] : List Nat) R47 R53 := tRr49
      have hv_I51 := hvI
      have hsI := smF_tr hsI tIr49 (by decide)
      have hsR := smF_tr hsR tRr49 (by decide)
      have u_I51_1 : (I51 1).toInt = (I45 1).toInt := congrArg Int32.toInt (tIr49 1 rfl)
      have w_I51_2 := rg (hvI 2 (by decide)) (0) (3) rfl rfl
      have w_I51_3 := rg (hvI 3 (by decide)) (0) (1800) rfl rfl
      have w_I51_4 := rg (hvI 4 (by decide)) (0) (1800) rfl rfl
      have w_I51_6 := rg (hvI 6 (by decide)) (0) (5) rfl rfl
      have u_I51_12 : (I51 12).toInt = (I45 12).toInt := congrArg Int32.toInt (tIr49 12 rfl)
      refine p_row (W1 := fun y => Wm G g q I51 J52 y L54) (n := 9) F hK hP hD hS 13 (Wm_at13 G g q I51 J52 R53 L54) (in_of (by omega)) dX12_person_91 (Wm_rowR9 G g q I51 J52 R53 L54) (fun R55 H locs eR55 hP hD hS => ?_)
      have hvR : InvR Wm_rl R55 := inv_upR hvR 9 eR55 (upd_in (hvR 9 (by decide)) (full _))
      have hsR := smF_up hsR eR55 (by decide)
      refine lv_aload_n hx hb dX12_person_92 rfl (lv_at hl 1 rfl) ?_
      refine g_get F hK hP 0 (Wm_at0 G g q I51 J52 R55 L54) clX12 25 (by decide) flX12_89 rfl dX12_person_93 ?_
      refine lv_iload_n hx hb dX12_person_96 rfl (lv_at hl 0 rfl) ?_
      refine lv_iconst (v := 0) hx hb dX12_person_97 (by decide) ?_
      refine p_row (W1 := fun y => Wm G g q I51 J52 y L54) (n := 10) F hK hP hD hS 14 (Wm_at14 G g q I51 J52 R55 L54) (in_of (by omega)) dX12_person_98 (Wm_rowR10 G g q I51 J52 R55 L54) (fun R56 H locs eR56 hP hD hS => ?_)
      have hvR : InvR Wm_rl R56 := inv_upR hvR 10 eR56 (upd_in (hvR 10 (by decide)) (full _))
      have hsR := smF_up hsR eR56 (by decide)
      refine lv_iconst (v := 0) hx hb dX12_person_99 (by decide) ?_
      refine lv_istore_n (lv' := [(2, .int 0), (1, .int x22), (0, .ref (g 45))]) hx hb dX12_person_100 rfl hl (by decide) rfl (fun ls hl => ?_)
      exact lab_101 6 x22 0 I51 J52 R56 L54 _ _ _ (show (5 - 0) < ((6 : Nat) : Int) from by omega) hvI hvR hsI hsR (show ((0 : Int) ≤ x22.toInt ∧ x22.toInt ≤ (23 : Int)) from by omega) (by decide) (show ((I0 4).toInt ≤ (I51 3).toInt) from by omega) (show ((R56 7 (Int32.toNatClampNeg (I0 12))).toInt ≤ 11) from by omega) (show ((I51 3).toInt ≤ (I51 4).toInt) from by omega) (show ((I51 4).toInt ≤ (I0 1).toInt) from by omega) (show ((¬ (I51 2).toInt = 0) → (I51 3).toInt < (I51 4).toInt) from by omega) (show ((¬ (I0 6).toInt = 0) → (¬ (I51 6).toInt = 0)) from by omega) (show ((I0 3).toInt ≤ (I51 3).toInt) from by omega) hP hD hS (lv_sub hl [2, 1, 0] rfl)
    · have gc19 : r13.toInt = 0 := congrArg Int32.toInt c19
      rw [hQ]
      exact q_v F hr hlk (I15, J16, R17, L18) hP hD hS ⟨hvI, hvR, hsI, hsR, (show (((I15 6).toInt = 0 ∧ ¬ (I0 2).toInt = 0) → (I0 3).toInt < (I15 3).toInt) from by omega), (show ((I15 3).toInt ≤ (I15 4).toInt) from by omega), (show ((I15 4).toInt ≤ (I0 1).toInt) from by omega), (show ((¬ (I15 2).toInt = 0) → (I15 3).toInt < (I15 4).toInt) from by omega), (show ((¬ (I0 6).toInt = 0) → (¬ (I15 6).toInt = 0)) from by omega), (show ((I0 3).toInt ≤ (I15 3).toInt) from by omega)⟩ dX12_person_26 (Nat.le_of_ble_eq_true rfl) (Nat.le_of_ble_eq_true rfl)
  have w_I0_1 := rg (hvI 1 (by decide)) (0) (1800) rfl rfl
  have w_I0_2 := rg (hvI 2 (by decide)) (0) (3) rfl rfl
  have w_I0_3 := rg (hvI 3 (by decide)) (0) (1800) rfl rfl
  have w_I0_4 := rg (hvI 4 (by decide)) (0) (1800) rfl rfl
  have w_I0_6 := rg (hvI 6 (by decide)) (0) (5) rfl rfl
  have w_I0_12 := rg (hvI 12 (by decide)) (0) (1) rfl rfl
  refine lv_aload_n hx hb dX12_person_0 rfl (lv_at hl 0 rfl) ?_
  refine lv_aload_n hx hb dX12_person_1 rfl (lv_at hl 0 rfl) ?_
  refine g_get F hK hP 0 (Wm_at0 G g q I0 J0 R0 L0) clX12 21 (by decide) flX12_77 rfl dX12_person_2 ?_
  refine lv_aload_n hx hb dX12_person_5 rfl (lv_at hl 0 rfl) ?_
  refine g_get F hK hP 0 (Wm_at0 G g q I0 J0 R0 L0) clX12 44 (by decide) flX12_146 rfl dX12_person_6 ?_
  have w_I0_12 := rg (hvI0 12 (by decide)) (0) (1) rfl rfl
  refine g_iald F hK hP 10 (Wm_at10 G g q I0 J0 R0 L0) (in_of (by omega)) dX12_person_9 rfl ?_
  refine lv_topi (fun x57 ex57 => ?_)
  have gx57 : x57.toInt = (R0 7 (Int32.toNatClampNeg (I0 12))).toInt := congrArg Int32.toInt (ex57)
  have fx57 : ((0 : Int) ≤ x57.toInt ∧ x57.toInt ≤ (12 : Int)) := by rw [ex57]; exact hvR 7 (by decide) _ (clamp_lt (n := 2) (in_of (by omega)))
  refine lv_bipush (v := 12) hx hb dX12_person_10 (by decide) ?_
  refine lv_icmp_ne (tgt := 19) hx hb dX12_person_12 (by decide) (fun c58 => ?_) (fun c58 => ?_)
  · have gc58 : ¬ (x57.toInt = 12) := fun q0 => c58 (Int32.toInt_inj.mp q0)
    refine lv_iconst (v := 0) hx hb dX12_person_19 (by decide) ?_
    exact lab_20 0 I0 J0 R0 L0 _ _ _ hvI hvR hsI hsR (by decide) (show (0 = 0 → (R0 7 (Int32.toNatClampNeg (I0 12))).toInt ≤ 11) from by omega) (show ((I0 2).toInt = (I0 2).toInt) from by omega) (show ((I0 4).toInt = (I0 4).toInt) from by omega) (show ((I0 3).toInt = (I0 3).toInt) from by omega) (show ((I0 3).toInt ≤ (I0 4).toInt) from by omega) (show ((I0 4).toInt ≤ (I0 1).toInt) from by omega) (show ((¬ (I0 2).toInt = 0) → (I0 3).toInt < (I0 4).toInt) from by omega) (show ((¬ (I0 6).toInt = 0) → (¬ (I0 6).toInt = 0)) from by omega) (show ((I0 3).toInt ≤ (I0 3).toInt) from by omega) hP hD hS (lv_sub hl [0] rfl)
  · have gc58 : x57.toInt = 12 := congrArg Int32.toInt c58
    refine lv_iconst (v := 1) hx hb dX12_person_15 (by decide) ?_
    refine lv_goto (tgt := 20) hx hb dX12_person_16 (by decide) ?_
    exact lab_20 1 I0 J0 R0 L0 _ _ _ hvI hvR hsI hsR (by decide) (show (1 = 0 → (R0 7 (Int32.toNatClampNeg (I0 12))).toInt ≤ 11) from by omega) (show ((I0 2).toInt = (I0 2).toInt) from by omega) (show ((I0 4).toInt = (I0 4).toInt) from by omega) (show ((I0 3).toInt = (I0 3).toInt) from by omega) (show ((I0 3).toInt ≤ (I0 4).toInt) from by omega) (show ((I0 4).toInt ≤ (I0 1).toInt) from by omega) (show ((¬ (I0 2).toInt = 0) → (I0 3).toInt < (I0 4).toInt) from by omega) (show ((¬ (I0 6).toInt = 0) → (¬ (I0 6).toInt = 0)) from by omega) (show ((I0 3).toInt ≤ (I0 3).toInt) from by omega) hP hD hS (lv_sub hl [0] rfl)
set_option maxHeartbeats 4000000 in
set_option maxRecDepth 100000 in
theorem s_X12_team (l : Launch) (G : Gx) (g q : Nat → Nat) (I0 : Nat → Int32) (J0 : Nat → Int64) (R0 : Nat → Nat → Int32) (L0 : Nat → Nat → Int64) (hvI : InvI Wm_lo Wm_hi I0) (hvR : InvR Wm_rl R0)   (hpre0 : ((I0 3).toInt ≤ (I0 4).toInt)) (hpre1 : ((I0 4).toInt ≤ (I0 1).toInt)) (hpre2 : ((¬ (I0 2).toInt = 0) → (I0 3).toInt < (I0 4).toInt)) : CtV (S := St) l yX12_team cX12_team 2 none (rmD 4 0 0) G [.ref (g 45)] (Wm G g q I0 J0 R0 L0) (fun u => InvI Wm_lo Wm_hi u.1 ∧ InvR Wm_rl u.2.2.1 ∧ SmF ([2, 3, 4, 5, 6, 7] : List Nat) I0 u.1 ∧ SmF ([5, 6] : List Nat) R0 u.2.2.1 ∧ (((u.1 6).toInt = 0 ∧ ¬ (I0 2).toInt = 0) → (I0 3).toInt < (u.1 3).toInt) ∧ ((u.1 3).toInt ≤ (u.1 4).toInt) ∧ ((u.1 4).toInt ≤ (I0 1).toInt) ∧ ((¬ (u.1 2).toInt = 0) → (u.1 3).toInt < (u.1 4).toInt) ∧ ((¬ (I0 6).toInt = 0) → (¬ (u.1 6).toInt = 0)) ∧ ((I0 3).toInt ≤ (u.1 3).toInt)) (fun u => Wm G g q u.1 u.2.1 u.2.2.1 u.2.2.2) := by
  refine ctV_of (own := RX12) (by decide +kernel) rfl (Nat.le_of_ble_eq_true rfl) ?_
  intro p e s m below meth c A ls F hr hlk hnm hK hP hD hA hS hl
  have hx := F.1
  have hb := F.2.1
  have hown := F.2.2.2.1
  have hl : lv_has ls 2 [(0, .ref (g 45))] := hl
  obtain ⟨Q, hQ⟩ : ∃ Q : State → Prop, Q = MQ below (va_Qv (S := St) (fun u => InvI Wm_lo Wm_hi u.1 ∧ InvR Wm_rl u.2.2.1 ∧ SmF ([2, 3, 4, 5, 6, 7] : List Nat) I0 u.1 ∧ SmF ([5, 6] : List Nat) R0 u.2.2.1 ∧ (((u.1 6).toInt = 0 ∧ ¬ (I0 2).toInt = 0) → (I0 3).toInt < (u.1 3).toInt) ∧ ((u.1 3).toInt ≤ (u.1 4).toInt) ∧ ((u.1 4).toInt ≤ (I0 1).toInt) ∧ ((¬ (u.1 2).toInt = 0) → (u.1 3).toInt < (u.1 4).toInt) ∧ ((¬ (I0 6).toInt = 0) → (¬ (u.1 6).toInt = 0)) ∧ ((I0 3).toInt ≤ (u.1 3).toInt)) (BX G A (fun u => Wm G g q u.1 u.2.1 u.2.2.1 u.2.2.2)) A) [.ref (g 45)].toArray s 0 0 A := ⟨_, rfl⟩
  rw [show (MQ below (va_Qv (S := St) (fun u => InvI Wm_lo Wm_hi u.1 ∧ InvR Wm_rl u.2.2.1 ∧ SmF ([2, 3, 4, 5, 6, 7] : List Nat) I0 u.1 ∧ SmF ([5, 6] : List Nat) R0 u.2.2.1 ∧ (((u.1 6).toInt = 0 ∧ ¬ (I0 2).toInt = 0) → (I0 3).toInt < (u.1 3).toInt) ∧ ((u.1 3).toInt ≤ (u.1 4).toInt) ∧ ((u.1 4).toInt ≤ (I0 1).toInt) ∧ ((¬ (u.1 2).toInt = 0) → (u.1 3).toInt < (u.1 4).toInt) ∧ ((¬ (I0 6).toInt = 0) → (¬ (u.1 6).toInt = 0)) ∧ ((I0 3).toInt ≤ (u.1 3).toInt)) (BX G A (fun u => Wm G g q u.1 u.2.1 u.2.2.1 u.2.2.2)) A) [.ref (g 45)].toArray s (rmD 4 0 0).cells (rmD 4 0 0).slots A) = Q from hQ.symm]
  have hsI := smF_rf ([2, 3, 4, 5, 6, 7] : List Nat) I0
  have hsR := smF_rf ([5, 6] : List Nat) R0
  have hvI0 := hvI
  have lab_20 : ∀ (b0_20 : Int32) (I_20 : Nat → Int32) (J_20 : Nat → Int64) (R_20 : Nat → Nat → Int32) (L_20 : Nat → Nat → Int64) (H : Heap) (locs : List Loc) (ls : Array Slot), InvI Wm_lo Wm_hi I_20 → InvR Wm_rl R_20 → SmF ([2, 3, 4, 5, 6, 7] : List Nat) I0 I_20 → SmF ([5, 6] : List Nat) R0 R_20 → ((0 : Int) ≤ b0_20.toInt ∧ b0_20.toInt ≤ (1 : Int)) → (b0_20.toInt = 0 → (R_20 5 (Int32.toNatClampNeg (I0 12))).toInt ≤ 5) → ((I_20 2).toInt = (I0 2).toInt) → ((I_20 4).toInt = (I0 4).toInt) → ((I_20 3).toInt = (I0 3).toInt) → ((I_20 3).toInt ≤ (I_20 4).toInt) → ((I_20 4).toInt ≤ (I0 1).toInt) → ((¬ (I_20 2).toInt = 0) → (I_20 3).toInt < (I_20 4).toInt) → ((¬ (I0 6).toInt = 0) → (¬ (I_20 6).toInt = 0)) → ((I0 3).toInt ≤ (I_20 3).toInt) → va_P G.1 vwCl (Wm G g q I_20 J_20 R_20 L_20) H → va_D A (Wm G g q I_20 J_20 R_20 L_20) → va_S A s.heap H locs → lv_has ls 2 [(0, .ref (g 45))] → W p l e (rmD 4 0 0) s m [.ref (g 45)].toArray below meth c H locs 0 0 Q (F0 m 20 ls [.int b0_20, .ref (g 45)]) := by
    intro b0_20 I_20 J_20 R_20 L_20 H locs ls hvI hvR hsI hsR y0_20 z0_20 z1_20 z2_20 z3_20 z4_20 z5_20 z6_20 z7_20 z8_20 hP hD hS hl
    have hv_I_20 := hvI
    have w_I_20_1 := rg (hvI 1 (by decide)) (0) (1800) rfl rfl
    have v_I_20_1 : (I_20 1).toInt = (I0 1).toInt := congrArg Int32.toInt (hsI 1 rfl)
    have w_I_20_2 := rg (hvI 2 (by decide)) (0) (3) rfl rfl
    have w_I_20_3 := rg (hvI 3 (by decide)) (0) (1800) rfl rfl
    have w_I_20_4 := rg (hvI 4 (by decide)) (0) (1800) rfl rfl
    have w_I_20_6 := rg (hvI 6 (by decide)) (0) (5) rfl rfl
    have w_I_20_12 := rg (hvI 12 (by decide)) (0) (1) rfl rfl
    have v_I_20_12 : (I_20 12).toInt = (I0 12).toInt := congrArg Int32.toInt (hsI 12 rfl)
    refine wvi (As := [.int b0_20]) (rest := []) (b := (g 45)) (d := 3) F hK hP hD hS hA (s_X12_counts l G g q I_20 J_20 R_20 L_20 hvI hvR  b0_20 (show ((0 : Int) ≤ b0_20.toInt ∧ b0_20.toInt ≤ (1 : Int)) from by omega) (by omega) (by omega) (by omega)) kmV_X12_counts mlX12_358 clX12 rfl 0 (Wm_at0 G g q I_20 J_20 R_20 L_20) ⟨(Nat.le_of_ble_eq_true rfl), (Nat.le_of_ble_eq_true rfl)⟩ hl.1 rfl (Nat.le_of_ble_eq_true rfl) dX12_team_20 (fun r1 u2 H locs hwr1 hP hD hS => ?_)
    obtain ⟨I3, J4, R5, L6⟩ := u2
    replace hP : va_P G.1 vwCl (Wm G g q I3 J4 R5 L6) H := hP
    replace hD : va_D A (Wm G g q I3 J4 R5 L6) := hD
    obtain ⟨hvI, hvR, tIr1, tRr1, F0r1, F1r1, F2r1, F3r1, F4r1, F5r1, F6r1⟩ := hwr1
    replace F0r1 : ((0 : Int) ≤ r1.toInt ∧ r1.toInt ≤ (1 : Int)) := F0r1
    replace F1r1 : ((r1.toInt = 1 ∧ b0_20.toInt = 0 ∧ (I3 6).toInt = 0 ∧ (I_20 4).toInt ≤ (I3 3).toInt) ∨ (r1.toInt = 0 ∧ ¬ (I3 6).toInt = 0)) := F1r1
    replace F2r1 : ((I3 3).toInt ≤ (I3 4).toInt) := F2r1
    replace F3r1 : ((I3 4).toInt ≤ (I_20 1).toInt) := F3r1
    replace F4r1 : ((¬ (I3 2).toInt = 0) → (I3 3).toInt < (I3 4).toInt) := F4r1
    replace F5r1 : ((¬ (I_20 6).toInt = 0) → (¬ (I3 6).toInt = 0)) := F5r1
    replace F6r1 : ((I_20 3).toInt ≤ (I3 3).toInt) := F6r1
    replace hvI : InvI Wm_lo Wm_hi I3 := hvI
    replace hvR : InvR Wm_rl R5 := hvR
    replace tIr1 : SmF ([2, 3, 4, 5, 6, 7] : List Nat) I_20 I3 := tIr1
    replace tRr1 : SmF ([] : List Nat) R_20 R5 := tRr1
    have hv_I3 := hvI
    have hsI := smF_tr hsI tIr1 (by decide)
    have hsR := smF_tr hsR tRr1 (by decide)
    have u_I3_1 : (I3 1).toInt = (I_20 1).toInt := congrArg Int32.toInt (tIr1 1 rfl)
    have w_I3_2 := rg (hvI 2 (by decide)) (0) (3) rfl rfl
    have w_I3_3 := rg (hvI 3 (by decide)) (0) (1800) rfl rfl
    have w_I3_4 := rg (hvI 4 (by decide)) (0) (1800) rfl rfl
    have w_I3_6 := rg (hvI 6 (by decide)) (0) (5) rfl rfl
    have u_I3_12 : (I3 12).toInt = (I_20 12).toInt := congrArg Int32.toInt (tIr1 12 rfl)
    refine lv_if_ne (tgt := 27) hx hb dX12_team_23 (by decide) (fun c7 => ?_) (fun c7 => ?_)
    · have gc7 : ¬ (r1.toInt = 0) := fun q0 => c7 (Int32.toInt_inj.mp q0)
      refine lv_bipush (v := 6) hx hb dX12_team_27 (by decide) ?_
      refine lv_aload_n hx hb dX12_team_29 rfl (lv_at hl 0 rfl) ?_
      refine g_get F hK hP 0 (Wm_at0 G g q I3 J4 R5 L6) clX12 44 (by decide) flX12_146 rfl dX12_team_30 ?_
      refine cst_i (hsI 12 rfl) ?_
      have w_I0_12 := rg (hvI0 12 (by decide)) (0) (1) rfl rfl
      refine lv_imul hx hb dX12_team_33 ?_
      refine lv_topi (fun x8 ex8 => ?_)
      have fx8 : x8.toInt = 6 * (I0 12).toInt := by rw [ex8]; exact t_mul (by show (-2147483648 : Int) ≤ 6 * (I0 12).toInt; omega) (by show 6 * (I0 12).toInt ≤ 2147483647; omega)
      refine lv_aload_n hx hb dX12_team_34 rfl (lv_at hl 0 rfl) ?_
      refine g_get F hK hP 0 (Wm_at0 G g q I3 J4 R5 L6) clX12 18 (by decide) flX12_67 rfl dX12_team_35 ?_
      refine lv_aload_n hx hb dX12_team_38 rfl (lv_at hl 0 rfl) ?_
      refine g_get F hK hP 0 (Wm_at0 G g q I3 J4 R5 L6) clX12 44 (by decide) flX12_146 rfl dX12_team_39 ?_
      refine cst_i (hsI 12 rfl) ?_
      refine g_iald F hK hP 7 (Wm_at7 G g q I3 J4 R5 L6) (in_of (by omega)) dX12_team_42 rfl ?_
      refine lv_topi (fun x9 ex9 => ?_)
      have gx9 : x9.toInt = (R_20 5 (Int32.toNatClampNeg (I0 12))).toInt := congrArg Int32.toInt ((ex9).trans (congrFun (tRr1 5 rfl) _))
      have fx9 : ((0 : Int) ≤ x9.toInt ∧ x9.toInt ≤ (6 : Int)) := by rw [ex9]; exact hvR 5 (by decide) _ (clamp_lt (n := 2) (in_of (by omega)))
      refine lv_iadd hx hb dX12_team_43 ?_
      refine lv_topi (fun x10 ex10 => ?_)
      have fx10 : x10.toInt = x8.toInt + x9.toInt := by rw [ex10]; exact t_add (by show (-2147483648 : Int) ≤ x8.toInt + x9.toInt; omega) (by show x8.toInt + x9.toInt ≤ 2147483647; omega)
      refine lv_istore_n (lv' := [(1, .int x10), (0, .ref (g 45))]) hx hb dX12_team_44 rfl hl (by decide) rfl (fun ls hl => ?_)
      refine lv_aload_n hx hb dX12_team_45 rfl (lv_at hl 1 rfl) ?_
      refine g_get F hK hP 0 (Wm_at0 G g q I3 J4 R5 L6) clX12 19 (by decide) flX12_70 rfl dX12_team_46 ?_
      refine lv_iload_n hx hb dX12_team_49 rfl (lv_at hl 0 rfl) ?_
      refine lv_aload_n hx hb dX12_team_50 rfl (lv_at hl 1 rfl) ?_
      refine wvl (As := []) (rest := [.int x10, .ref (g 7)]) (b := (g 45)) (d := 3) F hK hP hD hS hA (s_X12_fresh l G g q I3 J4 R5 L6 hvI hvR   (by omega) (by omega) (by omega)) kmV_X12_fresh mlX12_362 clX12 rfl 0 (Wm_at0 G g q I3 J4 R5 L6) ⟨(Nat.le_of_ble_eq_true rfl), (Nat.le_of_ble_eq_true rfl)⟩ hl.1 rfl (Nat.le_of_ble_eq_true rfl) dX12_team_51 (fun r11 u12 H locs hwr11 hP hD hS => ?_)
      obtain ⟨I13, J14, R15, L16⟩ := u12
      replace hP : va_P G.1 vwCl (Wm G g q I13 J14 R15 L16) H := hP
      replace hD : va_D A (Wm G g q I13 J14 R15 L16) := hD
      obtain ⟨hvI, hvR, tIr11, tRr11, F0r11, F1r11, F2r11, F3r11, F4r11⟩ := hwr11
      replace F0r11 : ((I13 3).toInt ≤ (I13 4).toInt) := F0r11
      replace F1r11 : ((I13 4).toInt ≤ (I3 1).toInt) := F1r11
      replace F2r11 : ((¬ (I13 2).toInt = 0) → (I13 3).toInt < (I13 4).toInt) := F2r11
      replace F3r11 : ((¬ (I3 6).toInt = 0) → (¬ (I13 6).toInt = 0)) := F3r11
      replace F4r11 : ((I3 3).toInt ≤ (I13 3).toInt) := F4r11
      replace hvI : InvI Wm_lo Wm_hi I13 := hvI
      replace hvR : InvR Wm_rl R15 := hvR
      replace tIr11 : SmF ([2, 3, 4, 5, 6, 7] : List Nat) I3 I13 := tIr11
      replace tRr11 : SmF ([] : List Nat) R5 R15 := tRr11
      have hv_I13 := hvI
      have hsI := smF_tr hsI tIr11 (by decide)
      have hsR := smF_tr hsR tRr11 (by decide)
      have u_I13_1 : (I13 1).toInt = (I3 1).toInt := congrArg Int32.toInt (tIr11 1 rfl)
      have w_I13_2 := rg (hvI 2 (by decide)) (0) (3) rfl rfl
      have w_I13_3 := rg (hvI 3 (by decide)) (0) (1800) rfl rfl
      have w_I13_4 := rg (hvI 4 (by decide)) (0) (1800) rfl rfl
      have w_I13_6 := rg (hvI 6 (by decide)) (0) (5) rfl rfl
      have u_I13_12 : (I13 12).toInt = (I3 12).toInt := congrArg Int32.toInt (tIr11 12 rfl)
      refine p_lrow (W1 := fun y => Wm G g q I13 J14 R15 y) (n := 1) F hK hP hD hS 8 (Wm_at8 G g q I13 J14 R15 L16) (in_of (by omega)) dX12_team_54 (Wm_rowL1 G g q I13 J14 R15 L16) (fun L17 H locs eL17 hP hD hS => ?_)
      refine lv_aload_n hx hb dX12_team_55 rfl (lv_at hl 1 rfl) ?_
      refine g_get F hK hP 0 (Wm_at0 G g q I13 J14 R15 L17) clX12 20 (by decide) flX12_73 rfl dX12_team_56 ?_
      refine lv_iload_n hx hb dX12_team_59 rfl (lv_at hl 0 rfl) ?_
      refine lv_iconst (v := 0) hx hb dX12_team_60 (by decide) ?_
      refine p_zrow (W1 := fun y => Wm G g q I13 J14 y L17) (n := 6) F hK hP hD hS 9 (Wm_at9 G g q I13 J14 R15 L17) (narz (by decide)) (in_of (by omega)) dX12_team_61 (Wm_rowR6 G g q I13 J14 R15 L17) (fun R18 H locs eR18 hP hD hS => ?_)
      have hvR : InvR Wm_rl R18 := inv_upR hvR 6 eR18 (upd_in (hvR 6 (by decide)) (by decide))
      have hsR := smF_up hsR eR18 (by decide)
      refine lv_aload_n hx hb dX12_team_62 rfl (lv_at hl 1 rfl) ?_
      refine g_get F hK hP 0 (Wm_at0 G g q I13 J14 R18 L17) clX12 8 (by decide) flX12_36 rfl dX12_team_63 ?_
      have w_I13_6 := rg (hv_I13 6 (by decide)) (0) (5) rfl rfl
      refine lv_if_ne (tgt := 82) hx hb dX12_team_66 (by decide) (fun c19 => ?_) (fun c19 => ?_)
      · have gc19 : ¬ ((I13 6).toInt = 0) := fun q0 => c19 (Int32.toInt_inj.mp q0)
        rw [hQ]
        exact q_v F hr hlk (I13, J14, R18, L17) hP hD hS ⟨hvI, hvR, hsI, hsR, (show (((I13 6).toInt = 0 ∧ ¬ (I0 2).toInt = 0) → (I0 3).toInt < (I13 3).toInt) from by omega), (show ((I13 3).toInt ≤ (I13 4).toInt) from by omega), (show ((I13 4).toInt ≤ (I0 1).toInt) from by omega), (show ((¬ (I13 2).toInt = 0) → (I13 3).toInt < (I13 4).toInt) from by omega), (show ((¬ (I0 6).toInt = 0) → (¬ (I13 6).toInt = 0)) from by omega), (show ((I0 3).toInt ≤ (I13 3).toInt) from by omega)⟩ dX12_team_82 (Nat.le_of_ble_eq_true rfl) (Nat.le_of_ble_eq_true rfl)
      · have gc19 : (I13 6).toInt = 0 := congrArg Int32.toInt c19
        refine lv_aload_n hx hb dX12_team_69 rfl (lv_at hl 1 rfl) ?_
        refine g_get F hK hP 0 (Wm_at0 G g q I13 J14 R18 L17) clX12 18 (by decide) flX12_67 rfl dX12_team_70 ?_
        refine lv_aload_n hx hb dX12_team_73 rfl (lv_at hl 1 rfl) ?_
        refine g_get F hK hP 0 (Wm_at0 G g q I13 J14 R18 L17) clX12 44 (by decide) flX12_146 rfl dX12_team_74 ?_
        refine cst_i (hsI 12 rfl) ?_
        refine lv_dup2_11 hx hb dX12_team_77 rfl rfl ?_
        refine g_iald F hK hP 7 (Wm_at7 G g q I13 J14 R18 L17) (in_of (by omega)) dX12_team_78 rfl ?_
        refine lv_topi (fun x20 ex20 => ?_)
        have gx20 : x20.toInt = (R_20 5 (Int32.toNatClampNeg (I0 12))).toInt := congrArg Int32.toInt ((((ex20).trans (congrFun (up_ne eR18 (by decide)) _)).trans (congrFun (tRr11 5 rfl) _)).trans (congrFun (tRr1 5 rfl) _))
        have fx20 : ((0 : Int) ≤ x20.toInt ∧ x20.toInt ≤ (6 : Int)) := by rw [ex20]; exact hvR 5 (by decide) _ (clamp_lt (n := 2) (in_of (by omega)))
        refine lv_iconst (v := 1) hx hb dX12_team_79 (by decide) ?_
        refine lv_iadd hx hb dX12_team_80 ?_
        refine lv_topi (fun x21 ex21 => ?_)
        have fx21 : x21.toInt = x20.toInt + 1 := by rw [ex21]; exact t_add (by show (-2147483648 : Int) ≤ x20.toInt + 1; omega) (by show x20.toInt + 1 ≤ 2147483647; omega)
        refine p_row (W1 := fun y => Wm G g q I13 J14 y L17) (n := 5) F hK hP hD hS 7 (Wm_at7 G g q I13 J14 R18 L17) (in_of (by omega)) dX12_team_81 (Wm_rowR5 G g q I13 J14 R18 L17) (fun R22 H locs eR22 hP hD hS => ?_)
        have hvR : InvR Wm_rl R22 := inv_upR hvR 5 eR22 (upd_in (hvR 5 (by decide)) (show ((0 : Int) ≤ x21.toInt ∧ x21.toInt ≤ (6 : Int)) from by omega))
        have hsR := smF_up hsR eR22 (by decide)
        rw [hQ]
        exact q_v F hr hlk (I13, J14, R22, L17) hP hD hS ⟨hvI, hvR, hsI, hsR, (show (((I13 6).toInt = 0 ∧ ¬ (I0 2).toInt = 0) → (I0 3).toInt < (I13 3).toInt) from by omega), (show ((I13 3).toInt ≤ (I13 4).toInt) from by omega), (show ((I13 4).toInt ≤ (I0 1).toInt) from by omega), (show ((¬ (I13 2).toInt = 0) → (I13 3).toInt < (I13 4).toInt) from by omega), (show ((¬ (I0 6).toInt = 0) → (¬ (I13 6).toInt = 0)) from by omega), (show ((I0 3).toInt ≤ (I13 3).toInt) from by omega)⟩ dX12_team_82 (Nat.le_of_ble_eq_true rfl) (Nat.le_of_ble_eq_true rfl)
    · have gc7 : r1.toInt = 0 := congrArg Int32.toInt c7
      rw [hQ]
      exact q_v F hr hlk (I3, J4, R5, L6) hP hD hS ⟨hvI, hvR, hsI, hsR, (show (((I3 6).toInt = 0 ∧ ¬ (I0 2).toInt = 0) → (I0 3).toInt < (I3 3).toInt) from by omega), (show ((I3 3).toInt ≤ (I3 4).toInt) from by omega), (show ((I3 4).toInt ≤ (I0 1).toInt) from by omega), (show ((¬ (I3 2).toInt = 0) → (I3 3).toInt < (I3 4).toInt) from by omega), (show ((¬ (I0 6).toInt = 0) → (¬ (I3 6).toInt = 0)) from by omega), (show ((I0 3).toInt ≤ (I3 3).toInt) from by omega)⟩ dX12_team_26 (Nat.le_of_ble_eq_true rfl) (Nat.le_of_ble_eq_true rfl)
  have w_I0_1 := rg (hvI 1 (by decide)) (0) (1800) rfl rfl
  have w_I0_2 := rg (hvI 2 (by decide)) (0) (3) rfl rfl
  have w_I0_3 := rg (hvI 3 (by decide)) (0) (1800) rfl rfl
  have w_I0_4 := rg (hvI 4 (by decide)) (0) (1800) rfl rfl
  have w_I0_6 := rg (hvI 6 (by decide)) (0) (5) rfl rfl
  have w_I0_12 := rg (hvI 12 (by decide)) (0) (1) rfl rfl
  refine lv_aload_n hx hb dX12_team_0 rfl (lv_at hl 0 rfl) ?_
  refine lv_aload_n hx hb dX12_team_1 rfl (lv_at hl 0 rfl) ?_
  refine g_get F hK hP 0 (Wm_at0 G g q I0 J0 R0 L0) clX12 18 (by decide) flX12_67 rfl dX12_team_2 ?_
  refine lv_aload_n hx hb dX12_team_5 rfl (lv_at hl 0 rfl) ?_
  refine g_get F hK hP 0 (Wm_at0 G g q I0 J0 R0 L0) clX12 44 (by decide) flX12_146 rfl dX12_team_6 ?_
  have w_I0_12 := rg (hvI0 12 (by decide)) (0) (1) rfl rfl
  refine g_iald F hK hP 7 (Wm_at7 G g q I0 J0 R0 L0) (in_of (by omega)) dX12_team_9 rfl ?_
  refine lv_topi (fun x23 ex23 => ?_)
  have gx23 : x23.toInt = (R0 5 (Int32.toNatClampNeg (I0 12))).toInt := congrArg Int32.toInt (ex23)
  have fx23 : ((0 : Int) ≤ x23.toInt ∧ x23.toInt ≤ (6 : Int)) := by rw [ex23]; exact hvR 5 (by decide) _ (clamp_lt (n := 2) (in_of (by omega)))
  refine lv_bipush (v := 6) hx hb dX12_team_10 (by decide) ?_
  refine lv_icmp_ne (tgt := 19) hx hb dX12_team_12 (by decide) (fun c24 => ?_) (fun c24 => ?_)
  · have gc24 : ¬ (x23.toInt = 6) := fun q0 => c24 (Int32.toInt_inj.mp q0)
    refine lv_iconst (v := 0) hx hb dX12_team_19 (by decide) ?_
    exact lab_20 0 I0 J0 R0 L0 _ _ _ hvI hvR hsI hsR (by decide) (show (0 = 0 → (R0 5 (Int32.toNatClampNeg (I0 12))).toInt ≤ 5) from by omega) (show ((I0 2).toInt = (I0 2).toInt) from by omega) (show ((I0 4).toInt = (I0 4).toInt) from by omega) (show ((I0 3).toInt = (I0 3).toInt) from by omega) (show ((I0 3).toInt ≤ (I0 4).toInt) from by omega) (show ((I0 4).toInt ≤ (I0 1).toInt) from by omega) (show ((¬ (I0 2).toInt = 0) → (I0 3).toInt < (I0 4).toInt) from by omega) (show ((¬ (I0 6).toInt = 0) → (¬ (I0 6).toInt = 0)) from by omega) (show ((I0 3).toInt ≤ (I0 3).toInt) from by omega) hP hD hS (lv_sub hl [0] rfl)
  · have gc24 : x23.toInt = 6 := congrArg Int32.toInt c24
    refine lv_iconst (v := 1) hx hb dX12_team_15 (by decide) ?_
    refine lv_goto (tgt := 20) hx hb dX12_team_16 (by decide) ?_
    exact lab_20 1 I0 J0 R0 L0 _ _ _ hvI hvR hsI hsR (by decide) (show (1 = 0 → (R0 5 (Int32.toNatClampNeg (I0 12))).toInt ≤ 5) from by omega) (show ((I0 2).toInt = (I0 2).toInt) from by omega) (show ((I0 4).toInt = (I0 4).toInt) from by omega) (show ((I0 3).toInt = (I0 3).toInt) from by omega) (show ((I0 3).toInt ≤ (I0 4).toInt) from by omega) (show ((I0 4).toInt ≤ (I0 1).toInt) from by omega) (show ((¬ (I0 2).toInt = 0) → (I0 3).toInt < (I0 4).toInt) from by omega) (show ((¬ (I0 6).toInt = 0) → (¬ (I0 6).toInt = 0)) from by omega) (show ((I0 3).toInt ≤ (I0 3).toInt) from by omega) hP hD hS (lv_sub hl [0] rfl)
set_option maxHeartbeats 4000000 in
set_option maxRecDepth 100000 in
theorem s_X12_tie (l : Launch) (G : Gx) (g q : Nat → Nat) (I0 : Nat → Int32) (J0 : Nat → Int64) (R0 : Nat → Nat → Int32) (L0 : Nat → Nat → Int64) (hvI : InvI Wm_lo Wm_hi I0) (hvR : InvR Wm_rl R0)   (hpre0 : ((I0 3).toInt ≤ (I0 4).toInt)) (hpre1 : ((I0 4).toInt ≤ (I0 1).toInt)) (hpre2 : ((¬ (I0 2).toInt = 0) → (I0 3).toInt < (I0 4).toInt)) : CtV (S := St) l yX12_tie cX12_tie 2 none (rmD 4 0 0) G [.ref (g 45)] (Wm G g q I0 J0 R0 L0) (fun u => InvI Wm_lo Wm_hi u.1 ∧ InvR Wm_rl u.2.2.1 ∧ SmF ([2, 3, 4, 5, 6, 7] : List Nat) I0 u.1 ∧ SmF ([15, 16, 17, 18] : List Nat) R0 u.2.2.1 ∧ (((u.1 6).toInt = 0 ∧ ¬ (I0 2).toInt = 0) → (I0 3).toInt < (u.1 3).toInt) ∧ ((u.1 3).toInt ≤ (u.1 4).toInt) ∧ ((u.1 4).toInt ≤ (I0 1).toInt) ∧ ((¬ (u.1 2).toInt = 0) → (u.1 3).toInt < (u.1 4).toInt) ∧ ((¬ (I0 6).toInt = 0) → (¬ (u.1 6).toInt = 0)) ∧ ((I0 3).toInt ≤ (u.1 3).toInt)) (fun u => Wm G g q u.1 u.2.1 u.2.2.1 u.2.2.2) := by
  refine ctV_of (own := RX12) (by decide +kernel) rfl (Nat.le_of_ble_eq_true rfl) ?_
  intro p e s m below meth c A ls F hr hlk hnm hK hP hD hA hS hl
  have hx := F.1
  have hb := F.2.1
  have hown := F.2.2.2.1
  have hl : lv_has ls 2 [(0, .ref (g 45))] := hl
  obtain ⟨Q, hQ⟩ : ∃ Q : State → Prop, Q = MQ below (va_Qv (S := St) (fun u => InvI Wm_lo Wm_hi u.1 ∧ InvR Wm_rl u.2.2.1 ∧ SmF ([2, 3, 4, 5, 6, 7] : List Nat) I0 u.1 ∧ SmF ([15, 16, 17, 18] : List Nat) R0 u.2.2.1 ∧ (((u.1 6).toInt = 0 ∧ ¬ (I0 2).toInt = 0) → (I0 3).toInt < (u.1 3).toInt) ∧ ((u.1 3).toInt ≤ (u.1 4).toInt) ∧ ((u.1 4).toInt ≤ (I0 1).toInt) ∧ ((¬ (u.1 2).toInt = 0) → (u.1 3).toInt < (u.1 4).toInt) ∧ ((¬ (I0 6).toInt = 0) → (¬ (u.1 6).toInt = 0)) ∧ ((I0 3).toInt ≤ (u.1 3).toInt)) (BX G A (fun u => Wm G g q u.1 u.2.1 u.2.2.1 u.2.2.2)) A) [.ref (g 45)].toArray s 0 0 A := ⟨_, rfl⟩
  rw [show (MQ below (va_Qv (S := St) (fun u => InvI Wm_lo Wm_hi u.1 ∧ InvR Wm_rl u.2.2.1 ∧ SmF ([2, 3, 4, 5, 6, 7] : List Nat) I0 u.1 ∧ SmF ([15, 16, 17, 18] : List Nat) R0 u.2.2.1 ∧ (((u.1 6).toInt = 0 ∧ ¬ (I0 2).toInt = 0) → (I0 3).toInt < (u.1 3).toInt) ∧ ((u.1 3).toInt ≤ (u.1 4).toInt) ∧ ((u.1 4).toInt ≤ (I0 1).toInt) ∧ ((¬ (u.1 2).toInt = 0) → (u.1 3).toInt < (u.1 4).toInt) ∧ ((¬ (I0 6).toInt = 0) → (¬ (u.1 6).toInt = 0)) ∧ ((I0 3).toInt ≤ (u.1 3).toInt)) (BX G A (fun u => Wm G g q u.1 u.2.1 u.2.2.1 u.2.2.2)) A) [.ref (g 45)].toArray s (rmD 4 0 0).cells (rmD 4 0 0).slots A) = Q from hQ.symm]
  have hsI := smF_rf ([2, 3, 4, 5, 6, 7] : List Nat) I0
  have hsR := smF_rf ([15, 16, 17, 18] : List Nat) R0
  have hvI0 := hvI
  have lab_109 : ∀ (a1_109 : Int32) (I_109 : Nat → Int32) (J_109 : Nat → Int64) (R_109 : Nat → Nat → Int32) (L_109 : Nat → Nat → Int64) (H : Heap) (locs : List Loc) (ls : Array Slot), InvI Wm_lo Wm_hi I_109 → InvR Wm_rl R_109 → SmF ([2, 3, 4, 5, 6, 7] : List Nat) I0 I_109 → SmF ([15, 16, 17, 18] : List Nat) R0 R_109 → ((0 : Int) ≤ a1_109.toInt ∧ a1_109.toInt ≤ (59 : Int)) → ((I0 4).toInt ≤ (I_109 3).toInt) → ((R_109 15 (Int32.toNatClampNeg (I0 12))).toInt ≤ 29) → ((I_109 3).toInt ≤ (I_109 4).toInt) → ((I_109 4).toInt ≤ (I0 1).toInt) → ((¬ (I_109 2).toInt = 0) → (I_109 3).toInt < (I_109 4).toInt) → ((¬ (I0 6).toInt = 0) → (¬ (I_109 6).toInt = 0)) → ((I0 3).toInt ≤ (I_109 3).toInt) → va_P G.1 vwCl (Wm G g q I_109 J_109 R_109 L_109) H → va_D A (Wm G g q I_109 J_109 R_109 L_109) → va_S A s.heap H locs → lv_has ls 2 [(0, .ref (g 45)), (1, .int a1_109)] → W p l e (rmD 4 0 0) s m [.ref (g 45)].toArray below meth c H locs 0 0 Q (F0 m 109 ls []) := by
    intro a1_109 I_109 J_109 R_109 L_109 H locs ls hvI hvR hsI hsR y0_109 z0_109 z1_109 z2_109 z3_109 z4_109 z5_109 z6_109 hP hD hS hl
    have hv_I_109 := hvI
    have w_I_109_1 := rg (hvI 1 (by decide)) (0) (1800) rfl rfl
    have v_I_109_1 : (I_109 1).toInt = (I0 1).toInt := congrArg Int32.toInt (hsI 1 rfl)
    have w_I_109_2 := rg (hvI 2 (by decide)) (0) (3) rfl rfl
    have w_I_109_3 := rg (hvI 3 (by decide)) (0) (1800) rfl rfl
    have w_I_109_4 := rg (hvI 4 (by decide)) (0) (1800) rfl rfl
    have w_I_109_6 := rg (hvI 6 (by decide)) (0) (5) rfl rfl
    have w_I_109_12 := rg (hvI 12 (by decide)) (0) (1) rfl rfl
    have v_I_109_12 : (I_109 12).toInt = (I0 12).toInt := congrArg Int32.toInt (hsI 12 rfl)
    refine lv_aload_n hx hb dX12_tie_109 rfl (lv_at hl 0 rfl) ?_
    refine g_get F hK hP 0 (Wm_at0 G g q I_109 J_109 R_109 L_109) clX12 32 (by decide) flX12_110 rfl dX12_tie_110 ?_
    refine lv_iload_n hx hb dX12_tie_113 rfl (lv_at hl 1 rfl) ?_
    refine lv_aload_n hx hb dX12_tie_114 rfl (lv_at hl 0 rfl) ?_
    refine lv_iconst (v := 2) hx hb dX12_tie_115 (by decide) ?_
    refine wvi (As := [.int 2]) (rest := [.int a1_109, .ref (g 20)]) (b := (g 45)) (d := 3) F hK hP hD hS hA (s_X12_asked l G g q I_109 J_109 R_109 L_109 hvI hvR  2 (by decide) (by omega) (by omega) (by omega)) kmV_X12_asked mlX12_374 clX12 rfl 0 (Wm_at0 G g q I_109 J_109 R_109 L_109) ⟨(Nat.le_of_ble_eq_true rfl), (Nat.le_of_ble_eq_true rfl)⟩ hl.1 rfl (Nat.le_of_ble_eq_true rfl) dX12_tie_116 (fun r1 u2 H locs hwr1 hP hD hS => ?_)
    obtain ⟨I3, J4, R5, L6⟩ := u2
    replace hP : va_P G.1 vwCl (Wm G g q I3 J4 R5 L6) H := hP
    replace hD : va_D A (Wm G g q I3 J4 R5 L6) := hD
    obtain ⟨hvI, hvR, tIr1, tRr1, F0r1, F1r1, F2r1, F3r1, F4r1, F5r1, F6r1, F7r1⟩ := hwr1
    replace F0r1 : ((0 : Int) ≤ r1.toInt ∧ r1.toInt ≤ (11 : Int)) := F0r1
    replace F1r1 : (2 = 0 → r1.toInt ≤ 4) := F1r1
    replace F2r1 : (2 = 1 → r1.toInt ≤ 5) := F2r1
    replace F3r1 : ((I3 3).toInt ≤ (I3 4).toInt) := F3r1
    replace F4r1 : ((I3 4).toInt ≤ (I_109 1).toInt) := F4r1
    replace F5r1 : ((¬ (I3 2).toInt = 0) → (I3 3).toInt < (I3 4).toInt) := F5r1
    replace F6r1 : ((¬ (I_109 6).toInt = 0) → (¬ (I3 6).toInt = 0)) := F6r1
    replace F7r1 : ((I_109 3).toInt ≤ (I3 3).toInt) := F7r1
    replace hvI : InvI Wm_lo Wm_hi I3 := hvI
    replace hvR : InvR Wm_rl R5 := hvR
    replace tIr1 : SmF ([2, 3, 4, 5, 6, 7] : List Nat) I_109 I3 := tIr1
    replace tRr1 : SmF ([] : List Nat) R_109 R5 := tRr1
    have hv_I3 := hvI
    have hsI := smF_tr hsI tIr1 (by decide)
    have hsR := smF_tr hsR tRr1 (by decide)
    have u_I3_1 : (I3 1).toInt = (I_109 1).toInt := congrArg Int32.toInt (tIr1 1 rfl)
    have w_I3_2 := rg (hvI 2 (by decide)) (0) (3) rfl rfl
    have w_I3_3 := rg (hvI 3 (by decide)) (0) (1800) rfl rfl
    have w_I3_4 := rg (hvI 4 (by decide)) (0) (1800) rfl rfl
    have w_I3_6 := rg (hvI 6 (by decide)) (0) (5) rfl rfl
    have u_I3_12 : (I3 12).toInt = (I_109 12).toInt := congrArg Int32.toInt (tIr1 12 rfl)
    refine p_row (W1 := fun y => Wm G g q I3 J4 y L6) (n := 17) F hK hP hD hS 21 (Wm_at21 G g q I3 J4 R5 L6) (in_of (by omega)) dX12_tie_119 (Wm_rowR17 G g q I3 J4 R5 L6) (fun R7 H locs eR7 hP hD hS => ?_)
    have hvR : InvR Wm_rl R7 := inv_upR hvR 17 eR7 (upd_in (hvR 17 (by decide)) (show ((0 : Int) ≤ r1.toInt ∧ r1.toInt ≤ (11 : Int)) from by omega))
    have hsR := smF_up hsR eR7 (by decide)
    refine lv_aload_n hx hb dX12_tie_120 rfl (lv_at hl 0 rfl) ?_
    refine g_get F hK hP 0 (Wm_at0 G g q I3 J4 R7 L6) clX12 33 (by decide) flX12_113 rfl dX12_tie_121 ?_
    refine lv_iload_n hx hb dX12_tie_124 rfl (lv_at hl 1 rfl) ?_
    refine lv_aload_n hx hb dX12_tie_125 rfl (lv_at hl 0 rfl) ?_
    refine lv_iconst (v := 0) hx hb dX12_tie_126 (by decide) ?_
    refine lv_bipush (v := 99) hx hb dX12_tie_127 (by decide) ?_
    refine wvi (As := [.int 0, .int 99]) (rest := [.int a1_109, .ref (g 21)]) (b := (g 45)) (d := 3) F hK hP hD hS hA (s_X12_number l G g q I3 J4 R7 L6 hvI hvR  0 99 (by decide) (by decide) (by omega) (by omega) (by omega)) kmV_X12_number mlX12_370 clX12 rfl 0 (Wm_at0 G g q I3 J4 R7 L6) ⟨(Nat.le_of_ble_eq_true rfl), (Nat.le_of_ble_eq_true rfl)⟩ hl.1 rfl (Nat.le_of_ble_eq_true rfl) dX12_tie_129 (fun r8 u9 H locs hwr8 hP hD hS => ?_)
    obtain ⟨I10, J11, R12, L13⟩ := u9
    replace hP : va_P G.1 vwCl (Wm G g q I10 J11 R12 L13) H := hP
    replace hD : va_D A (Wm G g q I10 J11 R12 L13) := hD
    obtain ⟨hvI, hvR, tIr8, tRr8, F0r8, F1r8, F2r8, F3r8, F4r8, F5r8⟩ := hwr8
    replace F0r8 : ((0 : Int) ≤ r8.toInt ∧ r8.toInt ≤ (9999 : Int)) := F0r8
    replace F1r8 : ((I10 3).toInt ≤ (I10 4).toInt) := F1r8
    replace F2r8 : ((I10 4).toInt ≤ (I3 1).toInt) := F2r8
    replace F3r8 : ((¬ (I10 2).toInt = 0) → (I10 3).toInt < (I10 4).toInt) := F3r8
    replace F4r8 : ((¬ (I3 6).toInt = 0) → (¬ (I10 6).toInt = 0)) := F4r8
    replace F5r8 : ((I3 3).toInt ≤ (I10 3).toInt) := F5r8
    replace hvI : InvI Wm_lo Wm_hi I10 := hvI
    replace hvR : InvR Wm_rl R12 := hvR
    replace tIr8 : SmF ([2, 3, 4, 5, 6, 7] : List Nat) I3 I10 := tIr8
    replace tRr8 : SmF ([] : List Nat) R7 R12 := tRr8
    have hv_I10 := hvI
    have hsI := smF_tr hsI tIr8 (by decide)
    have hsR := smF_tr hsR tRr8 (by decide)
    have u_I10_1 : (I10 1).toInt = (I3 1).toInt := congrArg Int32.toInt (tIr8 1 rfl)
    have w_I10_2 := rg (hvI 2 (by decide)) (0) (3) rfl rfl
    have w_I10_3 := rg (hvI 3 (by decide)) (0) (1800) rfl rfl
    have w_I10_4 := rg (hvI 4 (by decide)) (0) (1800) rfl rfl
    have w_I10_6 := rg (hvI 6 (by decide)) (0) (5) rfl rfl
    have u_I10_12 : (I10 12).toInt = (I3 12).toInt := congrArg Int32.toInt (tIr8 12 rfl)
    refine p_row (W1 := fun y => Wm G g q I10 J11 y L13) (n := 18) F hK hP hD hS 22 (Wm_at22 G g q I10 J11 R12 L13) (in_of (by omega)) dX12_tie_132 (Wm_rowR18 G g q I10 J11 R12 L13) (fun R14 H locs eR14 hP hD hS => ?_)
    have hvR : InvR Wm_rl R14 := inv_upR hvR 18 eR14 (upd_in (hvR 18 (by decide)) (full _))
    have hsR := smF_up hsR eR14 (by decide)
    refine lv_aload_n hx hb dX12_tie_133 rfl (lv_at hl 0 rfl) ?_
    refine g_get F hK hP 0 (Wm_at0 G g q I10 J11 R14 L13) clX12 8 (by decide) flX12_36 rfl dX12_tie_134 ?_
    have w_I10_6 := rg (hv_I10 6 (by decide)) (0) (5) rfl rfl
    refine lv_if_ne (tgt := 153) hx hb dX12_tie_137 (by decide) (fun c15 => ?_) (fun c15 => ?_)
    · have gc15 : ¬ ((I10 6).toInt = 0) := fun q0 => c15 (Int32.toInt_inj.mp q0)
      rw [hQ]
      exact q_v F hr hlk (I10, J11, R14, L13) hP hD hS ⟨hvI, hvR, hsI, hsR, (show (((I10 6).toInt = 0 ∧ ¬ (I0 2).toInt = 0) → (I0 3).toInt < (I10 3).toInt) from by omega), (show ((I10 3).toInt ≤ (I10 4).toInt) from by omega), (show ((I10 4).toInt ≤ (I0 1).toInt) from by omega), (show ((¬ (I10 2).toInt = 0) → (I10 3).toInt < (I10 4).toInt) from by omega), (show ((¬ (I0 6).toInt = 0) → (¬ (I10 6).toInt = 0)) from by omega), (show ((I0 3).toInt ≤ (I10 3).toInt) from by omega)⟩ dX12_tie_153 (Nat.le_of_ble_eq_true rfl) (Nat.le_of_ble_eq_true rfl)
    · have gc15 : (I10 6).toInt = 0 := congrArg Int32.toInt c15
      refine lv_aload_n hx hb dX12_tie_140 rfl (lv_at hl 0 rfl) ?_
      refine g_get F hK hP 0 (Wm_at0 G g q I10 J11 R14 L13) clX12 30 (by decide) flX12_104 rfl dX12_tie_141 ?_
      refine lv_aload_n hx hb dX12_tie_144 rfl (lv_at hl 0 rfl) ?_
      refine g_get F hK hP 0 (Wm_at0 G g q I10 J11 R14 L13) clX12 44 (by decide) flX12_146 rfl dX12_tie_145 ?_
      refine cst_i (hsI 12 rfl) ?_
      have w_I0_12 := rg (hvI0 12 (by decide)) (0) (1) rfl rfl
      refine lv_dup2_11 hx hb dX12_tie_148 rfl rfl ?_
      refine g_iald F hK hP 19 (Wm_at19 G g q I10 J11 R14 L13) (in_of (by omega)) dX12_tie_149 rfl ?_
      refine lv_topi (fun x16 ex16 => ?_)
      have gx16 : x16.toInt = (R_109 15 (Int32.toNatClampNeg (I0 12))).toInt := congrArg Int32.toInt (((((ex16).trans (congrFun (up_ne eR14 (by decide)) _)).trans (congrFun (tRr8 15 rfl) _)).trans (congrFun (up_ne eR7 (by decide)) _)).trans (congrFun (tRr1 15 rfl) _))
      have fx16 : ((0 : Int) ≤ x16.toInt ∧ x16.toInt ≤ (30 : Int)) := by rw [ex16]; exact hvR 15 (by decide) _ (clamp_lt (n := 2) (in_of (by omega)))
      refine lv_iconst (v := 1) hx hb dX12_tie_150 (by decide) ?_
      refine lv_iadd hx hb dX12_tie_151 ?_
      refine lv_topi (fun x17 ex17 => ?_)
      have fx17 : x17.toInt = x16.toInt + 1 := by rw [ex17]; exact t_add (by show (-2147483648 : Int) ≤ x16.toInt + 1; omega) (by show x16.toInt + 1 ≤ 2147483647; omega)
      refine p_row (W1 := fun y => Wm G g q I10 J11 y L13) (n := 15) F hK hP hD hS 19 (Wm_at19 G g q I10 J11 R14 L13) (in_of (by omega)) dX12_tie_152 (Wm_rowR15 G g q I10 J11 R14 L13) (fun R18 H locs eR18 hP hD hS => ?_)
      have hvR : InvR Wm_rl R18 := inv_upR hvR 15 eR18 (upd_in (hvR 15 (by decide)) (show ((0 : Int) ≤ x17.toInt ∧ x17.toInt ≤ (30 : Int)) from by omega))
      have hsR := smF_up hsR eR18 (by decide)
      rw [hQ]
      exact q_v F hr hlk (I10, J11, R18, L13) hP hD hS ⟨hvI, hvR, hsI, hsR, (show (((I10 6).toInt = 0 ∧ ¬ (I0 2).toInt = 0) → (I0 3).toInt < (I10 3).toInt) from by omega), (show ((I10 3).toInt ≤ (I10 4).toInt) from by omega), (show ((I10 4).toInt ≤ (I0 1).toInt) from by omega), (show ((¬ (I10 2).toInt = 0) → (I10 3).toInt < (I10 4).toInt) from by omega), (show ((¬ (I0 6).toInt = 0) → (¬ (I10 6).toInt = 0)) from by omega), (show ((I0 3).toInt ≤ (I10 3).toInt) from by omega)⟩ dX12_tie_153 (Nat.le_of_ble_eq_true rfl) (Nat.le_of_ble_eq_true rfl)
  have lab_20 : ∀ (b0_20 : Int32) (I_20 : Nat → Int32) (J_20 : Nat → Int64) (R_20 : Nat → Nat → Int32) (L_20 : Nat → Nat → Int64) (H : Heap) (locs : List Loc) (ls : Array Slot), InvI Wm_lo Wm_hi I_20 → InvR Wm_rl R_20 → SmF ([2, 3, 4, 5, 6, 7] : List Nat) I0 I_20 → SmF ([15, 16, 17, 18] : List Nat) R0 R_20 → ((0 : Int) ≤ b0_20.toInt ∧ b0_20.toInt ≤ (1 : Int)) → (b0_20.toInt = 0 → (R_20 15 (Int32.toNatClampNeg (I0 12))).toInt ≤ 29) → ((I_20 2).toInt = (I0 2).toInt) → ((I_20 4).toInt = (I0 4).toInt) → ((I_20 3).toInt = (I0 3).toInt) → ((I_20 3).toInt ≤ (I_20 4).toInt) → ((I_20 4).toInt ≤ (I0 1).toInt) → ((¬ (I_20 2).toInt = 0) → (I_20 3).toInt < (I_20 4).toInt) → ((¬ (I0 6).toInt = 0) → (¬ (I_20 6).toInt = 0)) → ((I0 3).toInt ≤ (I_20 3).toInt) → va_P G.1 vwCl (Wm G g q I_20 J_20 R_20 L_20) H → va_D A (Wm G g q I_20 J_20 R_20 L_20) → va_S A s.heap H locs → lv_has ls 2 [(0, .ref (g 45))] → W p l e (rmD 4 0 0) s m [.ref (g 45)].toArray below meth c H locs 0 0 Q (F0 m 20 ls [.int b0_20, .ref (g 45)]) := by
    intro b0_20 I_20 J_20 R_20 L_20 H locs ls hvI hvR hsI hsR y0_20 z0_20 z1_20 z2_20 z3_20 z4_20 z5_20 z6_20 z7_20 z8_20 hP hD hS hl
    have hv_I_20 := hvI
    have w_I_20_1 := rg (hvI 1 (by decide)) (0) (1800) rfl rfl
    have v_I_20_1 : (I_20 1).toInt = (I0 1).toInt := congrArg Int32.toInt (hsI 1 rfl)
    have w_I_20_2 := rg (hvI 2 (by decide)) (0) (3) rfl rfl
    have w_I_20_3 := rg (hvI 3 (by decide)) (0) (1800) rfl rfl
    have w_I_20_4 := rg (hvI 4 (by decide)) (0) (1800) rfl rfl
    have w_I_20_6 := rg (hvI 6 (by decide)) (0) (5) rfl rfl
    have w_I_20_12 := rg (hvI 12 (by decide)) (0) (1) rfl rfl
    have v_I_20_12 : (I_20 12).toInt = (I0 12).toInt := congrArg Int32.toInt (hsI 12 rfl)
    refine wvi (As := [.int b0_20]) (rest := []) (b := (g 45)) (d := 3) F hK hP hD hS hA (s_X12_counts l G g q I_20 J_20 R_20 L_20 hvI hvR  b0_20 (show ((0 : Int) ≤ b0_20.toInt ∧ b0_20.toInt ≤ (1 : Int)) from by omega) (by omega) (by omega) (by omega)) kmV_X12_counts mlX12_358 clX12 rfl 0 (Wm_at0 G g q I_20 J_20 R_20 L_20) ⟨(Nat.le_of_ble_eq_true rfl), (Nat.le_of_ble_eq_true rfl)⟩ hl.1 rfl (Nat.le_of_ble_eq_true rfl) dX12_tie_20 (fun r19 u20 H locs hwr19 hP hD hS => ?_)
    obtain ⟨I21, J22, R23, L24⟩ := u20
    replace hP : va_P G.1 vwCl (Wm G g q I21 J22 R23 L24) H := hP
    replace hD : va_D A (Wm G g q I21 J22 R23 L24) := hD
    obtain ⟨hvI, hvR, tIr19, tRr19, F0r19, F1r19, F2r19, F3r19, F4r19, F5r19, F6r19⟩ := hwr19
    replace F0r19 : ((0 : Int) ≤ r19.toInt ∧ r19.toInt ≤ (1 : Int)) := F0r19
    replace F1r19 : ((r19.toInt = 1 ∧ b0_20.toInt = 0 ∧ (I21 6).toInt = 0 ∧ (I_20 4).toInt ≤ (I21 3).toInt) ∨ (r19.toInt = 0 ∧ ¬ (I21 6).toInt = 0)) := F1r19
    replace F2r19 : ((I21 3).toInt ≤ (I21 4).toInt) := F2r19
    replace F3r19 : ((I21 4).toInt ≤ (I_20 1).toInt) := F3r19
    replace F4r19 : ((¬ (I21 2).toInt = 0) → (I21 3).toInt < (I21 4).toInt) := F4r19
    replace F5r19 : ((¬ (I_20 6).toInt = 0) → (¬ (I21 6).toInt = 0)) := F5r19
    replace F6r19 : ((I_20 3).toInt ≤ (I21 3).toInt) := F6r19
    replace hvI : InvI Wm_lo Wm_hi I21 := hvI
    replace hvR : InvR Wm_rl R23 := hvR
    replace tIr19 : SmF ([2, 3, 4, 5, 6, 7] : List Nat) I_20 I21 := tIr19
    replace tRr19 : SmF ([] : List Nat) R_20 R23 := tRr19
    have hv_I21 := hvI
    have hsI := smF_tr hsI tIr19 (by decide)
    have hsR := smF_tr hsR tRr19 (by decide)
    have u_I21_1 : (I21 1).toInt = (I_20 1).toInt := congrArg Int32.toInt (tIr19 1 rfl)
    have w_I21_2 := rg (hvI 2 (by decide)) (0) (3) rfl rfl
    have w_I21_3 := rg (hvI 3 (by decide)) (0) (1800) rfl rfl
    have w_I21_4 := rg (hvI 4 (by decide)) (0) (1800) rfl rfl
    have w_I21_6 := rg (hvI 6 (by decide)) (0) (5) rfl rfl
    have u_I21_12 : (I21 12).toInt = (I_20 12).toInt := congrArg Int32.toInt (tIr19 12 rfl)
    refine lv_if_ne (tgt := 27) hx hb dX12_tie_23 (by decide) (fun c25 => ?_) (fun c25 => ?_)
    · have gc25 : ¬ (r19.toInt = 0) := fun q0 => c25 (Int32.toInt_inj.mp q0)
      refine lv_bipush (v := 30) hx hb dX12_tie_27 (by decide) ?_
      refine lv_aload_n hx hb dX12_tie_29 rfl (lv_at hl 0 rfl) ?_
      refine g_get F hK hP 0 (Wm_at0 G g q I21 J22 R23 L24) clX12 44 (by decide) flX12_146 rfl dX12_tie_30 ?_
      refine cst_i (hsI 12 rfl) ?_
      have w_I0_12 := rg (hvI0 12 (by decide)) (0) (1) rfl rfl
      refine lv_imul hx hb dX12_tie_33 ?_
      refine lv_topi (fun x26 ex26 => ?_)
      have fx26 : x26.toInt = 30 * (I0 12).toInt := by rw [ex26]; exact t_mul (by show (-2147483648 : Int) ≤ 30 * (I0 12).toInt; omega) (by show 30 * (I0 12).toInt ≤ 2147483647; omega)
      refine lv_aload_n hx hb dX12_tie_34 rfl (lv_at hl 0 rfl) ?_
      refine g_get F hK hP 0 (Wm_at0 G g q I21 J22 R23 L24) clX12 30 (by decide) flX12_104 rfl dX12_tie_35 ?_
      refine lv_aload_n hx hb dX12_tie_38 rfl (lv_at hl 0 rfl) ?_
      refine g_get F hK hP 0 (Wm_at0 G g q I21 J22 R23 L24) clX12 44 (by decide) flX12_146 rfl dX12_tie_39 ?_
      refine cst_i (hsI 12 rfl) ?_
      refine g_iald F hK hP 19 (Wm_at19 G g q I21 J22 R23 L24) (in_of (by omega)) dX12_tie_42 rfl ?_
      refine lv_topi (fun x27 ex27 => ?_)
      have gx27 : x27.toInt = (R_20 15 (Int32.toNatClampNeg (I0 12))).toInt := congrArg Int32.toInt ((ex27).trans (congrFun (tRr19 15 rfl) _))
      have fx27 : ((0 : Int) ≤ x27.toInt ∧ x27.toInt ≤ (30 : Int)) := by rw [ex27]; exact hvR 15 (by decide) _ (clamp_lt (n := 2) (in_of (by omega)))
      refine lv_iadd hx hb dX12_tie_43 ?_
      refine lv_topi (fun x28 ex28 => ?_)
      have fx28 : x28.toInt = x26.toInt + x27.toInt := by rw [ex28]; exact t_add (by show (-2147483648 : Int) ≤ x26.toInt + x27.toInt; omega) (by show x26.toInt + x27.toInt ≤ 2147483647; omega)
      refine lv_istore_n (lv' := [(1, .int x28), (0, .ref (g 45))]) hx hb dX12_tie_44 rfl hl (by decide) rfl (fun ls hl => ?_)
      refine lv_aload_n hx hb dX12_tie_45 rfl (lv_at hl 1 rfl) ?_
      refine g_get F hK hP 0 (Wm_at0 G g q I21 J22 R23 L24) clX12 31 (by decide) flX12_107 rfl dX12_tie_46 ?_
      refine lv_iload_n hx hb dX12_tie_49 rfl (lv_at hl 0 rfl) ?_
      refine lv_aload_n hx hb dX12_tie_50 rfl (lv_at hl 1 rfl) ?_
      refine lv_iconst (v := 2) hx hb dX12_tie_51 (by decide) ?_
      refine wvi (As := [.int 2]) (rest := [.int x28, .ref (g 19)]) (b := (g 45)) (d := 3) F hK hP hD hS hA (s_X12_asked l G g q I21 J22 R23 L24 hvI hvR  2 (by decide) (by omega) (by omega) (by omega)) kmV_X12_asked mlX12_374 clX12 rfl 0 (Wm_at0 G g q I21 J22 R23 L24) ⟨(Nat.le_of_ble_eq_true rfl), (Nat.le_of_ble_eq_true rfl)⟩ hl.1 rfl (Nat.le_of_ble_eq_true rfl) dX12_tie_52 (fun r29 u30 H locs hwr29 hP hD hS => ?_)
      obtain ⟨I31, J32, R33, L34⟩ := u30
      replace hP : va_P G.1 vwCl (Wm G g q I31 J32 R33 L34) H := hP
      replace hD : va_D A (Wm G g q I31 J32 R33 L34) := hD
      obtain ⟨hvI, hvR, tIr29, tRr29, F0r29, F1r29, F2r29, F3r29, F4r29, F5r29, F6r29, F7r29⟩ := hwr29
      replace F0r29 : ((0 : Int) ≤ r29.toInt ∧ r29.toInt ≤ (11 : Int)) := F0r29
      replace F1r29 : (2 = 0 → r29.toInt ≤ 4) := F1r29
      replace F2r29 : (2 = 1 → r29.toInt ≤ 5) := F2r29
      replace F3r29 : ((I31 3).toInt ≤ (I31 4).toInt) := F3r29
      replace F4r29 : ((I31 4).toInt ≤ (I21 1).toInt) := F4r29
      replace F5r29 : ((¬ (I31 2).toInt = 0) → (I31 3).toInt < (I31 4).toInt) := F5r29
      replace F6r29 : ((¬ (I21 6).toInt = 0) → (¬ (I31 6).toInt = 0)) := F6r29
      replace F7r29 : ((I21 3).toInt ≤ (I31 3).toInt) := F7r29
      replace hvI : InvI Wm_lo Wm_hi I31 := hvI
      replace hvR : InvR Wm_rl R33 := hvR
      replace tIr29 : SmF ([2, 3, 4, 5, 6, 7] : List Nat) I21 I31 := tIr29
      replace tRr29 : SmF ([] : List Nat) R23 R33 := tRr29
      have hv_I31 := hvI
      have hsI := smF_tr hsI tIr29 (by decide)
      have hsR := smF_tr hsR tRr29 (by decide)
      have u_I31_1 : (I31 1).toInt = (I21 1).toInt := congrArg Int32.toInt (tIr29 1 rfl)
      have w_I31_2 := rg (hvI 2 (by decide)) (0) (3) rfl rfl
      have w_I31_3 := rg (hvI 3 (by decide)) (0) (1800) rfl rfl
      have w_I31_4 := rg (hvI 4 (by decide)) (0) (1800) rfl rfl
      have w_I31_6 := rg (hvI 6 (by decide)) (0) (5) rfl rfl
      have u_I31_12 : (I31 12).toInt = (I21 12).toInt := congrArg Int32.toInt (tIr29 12 rfl)
      refine p_row (W1 := fun y => Wm G g q I31 J32 y L34) (n := 16) F hK hP hD hS 20 (Wm_at20 G g q I31 J32 R33 L34) (in_of (by omega)) dX12_tie_55 (Wm_rowR16 G g q I31 J32 R33 L34) (fun R35 H locs eR35 hP hD hS => ?_)
      have hvR : InvR Wm_rl R35 := inv_upR hvR 16 eR35 (upd_in (hvR 16 (by decide)) (show ((0 : Int) ≤ r29.toInt ∧ r29.toInt ≤ (11 : Int)) from by omega))
      have hsR := smF_up hsR eR35 (by decide)
      refine lv_aload_n hx hb dX12_tie_56 rfl (lv_at hl 1 rfl) ?_
      refine g_get F hK hP 0 (Wm_at0 G g q I31 J32 R35 L34) clX12 8 (by decide) flX12_36 rfl dX12_tie_57 ?_
      have w_I31_6 := rg (hv_I31 6 (by decide)) (0) (5) rfl rfl
      refine lv_if_ne (tgt := 109) hx hb dX12_tie_60 (by decide) (fun c36 => ?_) (fun c36 => ?_)
      · have gc36 : ¬ ((I31 6).toInt = 0) := fun q0 => c36 (Int32.toInt_inj.mp q0)
        exact lab_109 x28 I31 J32 R35 L34 _ _ _ hvI hvR hsI hsR (show ((0 : Int) ≤ x28.toInt ∧ x28.toInt ≤ (59 : Int)) from by omega) (show ((I0 4).toInt ≤ (I31 3).toInt) from by omega) (show ((R35 15 (Int32.toNatClampNeg (I0 12))).toInt ≤ 29) from by omega) (show ((I31 3).toInt ≤ (I31 4).toInt) from by omega) (show ((I31 4).toInt ≤ (I0 1).toInt) from by omega) (show ((¬ (I31 2).toInt = 0) → (I31 3).toInt < (I31 4).toInt) from by omega) (show ((¬ (I0 6).toInt = 0) → (¬ (I31 6).toInt = 0)) from by omega) (show ((I0 3).toInt ≤ (I31 3).toInt) from by omega) hP hD hS (lv_sub hl [1, 0] rfl)
      · have gc36 : (I31 6).toInt = 0 := congrArg Int32.toInt c36
        refine lv_aload_n hx hb dX12_tie_63 rfl (lv_at hl 1 rfl) ?_
        refine g_get F hK hP 0 (Wm_at0 G g q I31 J32 R35 L34) clX12 3 (by decide) flX12_20 rfl dX12_tie_64 ?_
        have w_I31_2 := rg (hv_I31 2 (by decide)) (0) (3) rfl rfl
        refine lv_iconst (v := 1) hx hb dX12_tie_67 (by decide) ?_
        refine lv_icmp_ne (tgt := 109) hx hb dX12_tie_68 (by decide) (fun c37 => ?_) (fun c37 => ?_)
        · have gc37 : ¬ ((I31 2).toInt = 1) := fun q0 => c37 (Int32.toInt_inj.mp q0)
          exact lab_109 x28 I31 J32 R35 L34 _ _ _ hvI hvR hsI hsR (show ((0 : Int) ≤ x28.toInt ∧ x28.toInt ≤ (59 : Int)) from by omega) (show ((I0 4).toInt ≤ (I31 3).toInt) from by omega) (show ((R35 15 (Int32.toNatClampNeg (I0 12))).toInt ≤ 29) from by omega) (show ((I31 3).toInt ≤ (I31 4).toInt) from by omega) (show ((I31 4).toInt ≤ (I0 1).toInt) from by omega) (show ((¬ (I31 2).toInt = 0) → (I31 3).toInt < (I31 4).toInt) from by omega) (show ((¬ (I0 6).toInt = 0) → (¬ (I31 6).toInt = 0)) from by omega) (show ((I0 3).toInt ≤ (I31 3).toInt) from by omega) hP hD hS (lv_sub hl [1, 0] rfl)
        · have gc37 : (I31 2).toInt = 1 := congrArg Int32.toInt c37
          refine lv_aload_n hx hb dX12_tie_71 rfl (lv_at hl 1 rfl) ?_
          refine lv_aload_n hx hb dX12_tie_72 rfl (lv_at hl 1 rfl) ?_
          refine g_get F hK hP 0 (Wm_at0 G g q I31 J32 R35 L34) clX12 7 (by decide) flX12_32 rfl dX12_tie_73 ?_
          refine wvi (As := [.long (J32 0)]) (rest := []) (b := (g 45)) (d := 1) F hK hP hD hS hA (s_X12_isOwn l G g q I31 J32 R35 L34 hvI hvR  ((J32 0)) ) kmV_X12_isOwn mlX12_351 clX12 rfl 0 (Wm_at0 G g q I31 J32 R35 L34) ⟨(Nat.le_of_ble_eq_true rfl), (Nat.le_of_ble_eq_true rfl)⟩ hl.1 rfl (Nat.le_of_ble_eq_true rfl) dX12_tie_76 (fun r38 u39 H locs hwr38 hP hD hS => ?_)
          have F0r38 := hwr38
          replace F0r38 : ((0 : Int) ≤ r38.toInt ∧ r38.toInt ≤ (1 : Int)) := F0r38
          refine lv_if_ne (tgt := 109) hx hb dX12_tie_79 (by decide) (fun c40 => ?_) (fun c40 => ?_)
          · have gc40 : ¬ (r38.toInt = 0) := fun q0 => c40 (Int32.toInt_inj.mp q0)
            exact lab_109 x28 I31 J32 R35 L34 _ _ _ hvI hvR hsI hsR (show ((0 : Int) ≤ x28.toInt ∧ x28.toInt ≤ (59 : Int)) from by omega) (show ((I0 4).toInt ≤ (I31 3).toInt) from by omega) (show ((R35 15 (Int32.toNatClampNeg (I0 12))).toInt ≤ 29) from by omega) (show ((I31 3).toInt ≤ (I31 4).toInt) from by omega) (show ((I31 4).toInt ≤ (I0 1).toInt) from by omega) (show ((¬ (I31 2).toInt = 0) → (I31 3).toInt < (I31 4).toInt) from by omega) (show ((¬ (I0 6).toInt = 0) → (¬ (I31 6).toInt = 0)) from by omega) (show ((I0 3).toInt ≤ (I31 3).toInt) from by omega) hP hD hS (lv_sub hl [1, 0] rfl)
          · have gc40 : r38.toInt = 0 := congrArg Int32.toInt c40
            refine lv_aload_n hx hb dX12_tie_82 rfl (lv_at hl 1 rfl) ?_
            refine lv_iconst (v := 2) hx hb dX12_tie_83 (by decide) ?_
            refine lv_aload_n hx hb dX12_tie_84 rfl (lv_at hl 1 rfl) ?_
            refine g_get F hK hP 0 (Wm_at0 G g q I31 J32 R35 L34) clX12 7 (by decide) flX12_32 rfl dX12_tie_85 ?_
            refine wvi (As := [.int 2, .long (J32 0)]) (rest := []) (b := (g 45)) (d := 1) F hK hP hD hS hA (s_X12_named l G g q I31 J32 R35 L34 hvI hvR  2 ((J32 0)) (by decide)) kmV_X12_named mlX12_354 clX12 rfl 0 (Wm_at0 G g q I31 J32 R35 L34) ⟨(Nat.le_of_ble_eq_true rfl), (Nat.le_of_ble_eq_true rfl)⟩ hl.1 rfl (Nat.le_of_ble_eq_true rfl) dX12_tie_88 (fun r41 u42 H locs hwr41 hP hD hS => ?_)
            obtain ⟨F0r41, F1r41, F2r41⟩ := hwr41
            replace F0r41 : ((-1 : Int) ≤ r41.toInt ∧ r41.toInt ≤ (11 : Int)) := F0r41
            replace F1r41 : (2 = 0 → r41.toInt ≤ 4) := F1r41
            replace F2r41 : (2 = 1 → r41.toInt ≤ 5) := F2r41
            refine lv_aload_n hx hb dX12_tie_91 rfl (lv_at hl 1 rfl) ?_
            refine g_get F hK hP 0 (Wm_at0 G g q I31 J32 R35 L34) clX12 31 (by decide) flX12_107 rfl dX12_tie_92 ?_
            refine lv_iload_n hx hb dX12_tie_95 rfl (lv_at hl 0 rfl) ?_
            refine g_iald F hK hP 20 (Wm_at20 G g q I31 J32 R35 L34) (in_of (by omega)) dX12_tie_96 rfl ?_
            refine lv_topi (fun x43 ex43 => ?_)
            have gx43 : x43.toInt = (R35 16 (Int32.toNatClampNeg x28)).toInt := congrArg Int32.toInt (ex43)
            have fx43 : ((0 : Int) ≤ x43.toInt ∧ x43.toInt ≤ (11 : Int)) := by rw [ex43]; exact hvR 16 (by decide) _ (clamp_lt (n := 60) (in_of (by omega)))
            refine lv_icmp_ne (tgt := 109) hx hb dX12_tie_97 (by decide) (fun c44 => ?_) (fun c44 => ?_)
            · have gc44 : ¬ (r41.toInt = x43.toInt) := fun q0 => c44 (Int32.toInt_inj.mp q0)
              exact lab_109 x28 I31 J32 R35 L34 _ _ _ hvI hvR hsI hsR (show ((0 : Int) ≤ x28.toInt ∧ x28.toInt ≤ (59 : Int)) from by omega) (show ((I0 4).toInt ≤ (I31 3).toInt) from by omega) (show ((R35 15 (Int32.toNatClampNeg (I0 12))).toInt ≤ 29) from by omega) (show ((I31 3).toInt ≤ (I31 4).toInt) from by omega) (show ((I31 4).toInt ≤ (I0 1).toInt) from by omega) (show ((¬ (I31 2).toInt = 0) → (I31 3).toInt < (I31 4).toInt) from by omega) (show ((¬ (I0 6).toInt = 0) → (¬ (I31 6).toInt = 0)) from by omega) (show ((I0 3).toInt ≤ (I31 3).toInt) from by omega) hP hD hS (lv_sub hl [1, 0] rfl)
            · have gc44 : r41.toInt = x43.toInt := congrArg Int32.toInt c44
              refine lv_aload_n hx hb dX12_tie_100 rfl (lv_at hl 1 rfl) ?_
              refine lv_iconst (v := 3) hx hb dX12_tie_101 (by decide) ?_
              refine lv_aload_n hx hb dX12_tie_102 rfl (lv_at hl 1 rfl) ?_
              refine g_get F hK hP 0 (Wm_at0 G g q I31 J32 R35 L34) clX12 4 (by decide) flX12_23 rfl dX12_tie_103 ?_
              have w_I31_3 := rg (hv_I31 3 (by decide)) (0) (1800) rfl rfl
              refine wvv (As := [.int 3, .int (I31 3)]) (rest := []) (b := (g 45)) (d := 1) F hK hP hD hS hA (s_X12_blame l G g q I31 J32 R35 L34 hvI hvR  3 ((I31 3)) (by decide) (show ((0 : Int) ≤ (I31 3).toInt ∧ (I31 3).toInt ≤ (1800 : Int)) from by omega)) kmV_X12_blame mlX12_240 clX12 rfl 0 (Wm_at0 G g q I31 J32 R35 L34) ⟨(Nat.le_of_ble_eq_true rfl), (Nat.le_of_ble_eq_true rfl)⟩ hl.1 rfl (Nat.le_of_ble_eq_true rfl) dX12_tie_106 (fun u46 H locs hwr45 hP hD hS => ?_)
              obtain ⟨I47, J48, R49, L50⟩ := u46
              replace hP : va_P G.1 vwCl (Wm G g q I47 J48 R49 L50) H := hP
              replace hD : va_D A (Wm G g q I47 J48 R49 L50) := hD
              obtain ⟨hvI, hvR, tIr45, tRr45, F0r45⟩ := hwr45
              replace F0r45 : (¬ (I47 6).toInt = 0) := F0r45
              replace hvI : InvI Wm_lo Wm_hi I47 := hvI
              replace hvR : InvR Wm_rl R49 := hvR
              replace tIr45 : SmF ([6, 7] : List Nat) I31 I47 := tIr45
              replace tRr45 : SmF ([] : List Nat) R35 R49 := tRr45
              have hv_I47 := hvI
              have hsI := smF_tr hsI tIr45 (by decide)
              have hsR := smF_tr hsR tRr45 (by decide)
              have u_I47_1 : (I47 1).toInt = (I31 1).toInt := congrArg Int32.toInt (tIr45 1 rfl)
              have u_I47_2 : (I47 2).toInt = (I31 2).toInt := congrArg Int32.toInt (tIr45 2 rfl)
              have u_I47_3 : (I47 3).toInt = (I31 3).toInt := congrArg Int32.toInt (tIr45 3 rfl)
              have u_I47_4 : (I47 4).toInt = (I31 4).toInt := congrArg Int32.toInt (tIr45 4 rfl)
              have w_I47_6 := rg (hvI 6 (by decide)) (0) (5) rfl rfl
              have u_I47_12 : (I47 12).toInt = (I31 12).toInt := congrArg Int32.toInt (tIr45 12 rfl)
              exact lab_109 x28 I47 J48 R49 L50 _ _ _ hvI hvR hsI hsR (show ((0 : Int) ≤ x28.toInt ∧ x28.toInt ≤ (59 : Int)) from by omega) (show ((I0 4).toInt ≤ (I47 3).toInt) from by omega) (show ((R49 15 (Int32.toNatClampNeg (I0 12))).toInt ≤ 29) from by omega) (show ((I47 3).toInt ≤ (I47 4).toInt) from by omega) (show ((I47 4).toInt ≤ (I0 1).toInt) from by omega) (show ((¬ (I47 2).toInt = 0) → (I47 3).toInt < (I47 4).toInt) from by omega) (show ((¬ (I0 6).toInt = 0) → (¬ (I47 6).toInt = 0)) from by omega) (show ((I0 3).toInt ≤ (I47 3).toInt) from by omega) hP hD hS (lv_sub hl [1, 0] rfl)
    · have gc25 : r19.toInt = 0 := congrArg Int32.toInt c25
      rw [hQ]
      exact q_v F hr hlk (I21, J22, R23, L24) hP hD hS ⟨hvI, hvR, hsI, hsR, (show (((I21 6).toInt = 0 ∧ ¬ (I0 2).toInt = 0) → (I0 3).toInt < (I21 3).toInt) from by omega), (show ((I21 3).toInt ≤ (I21 4).toInt) from by omega), (show ((I21 4).toInt ≤ (I0 1).toInt) from by omega), (show ((¬ (I21 2).toInt = 0) → (I21 3).toInt < (I21 4).toInt) from by omega), (show ((¬ (I0 6).toInt = 0) → (¬ (I21 6).toInt = 0)) from by omega), (show ((I0 3).toInt ≤ (I21 3).toInt) from by omega)⟩ dX12_tie_26 (Nat.le_of_ble_eq_true rfl) (Nat.le_of_ble_eq_true rfl)
  have w_I0_1 := rg (hvI 1 (by decide)) (0) (1800) rfl rfl
  have w_I0_2 := rg (hvI 2 (by decide)) (0) (3) rfl rfl
  have w_I0_3 := rg (hvI 3 (by decide)) (0) (1800) rfl rfl
  have w_I0_4 := rg (hvI 4 (by decide)) (0) (1800) rfl rfl
  have w_I0_6 := rg (hvI 6 (by decide)) (0) (5) rfl rfl
  have w_I0_12 := rg (hvI 12 (by decide)) (0) (1) rfl rfl
  refine lv_aload_n hx hb dX12_tie_0 rfl (lv_at hl 0 rfl) ?_
  refine lv_aload_n hx hb dX12_tie_1 rfl (lv_at hl 0 rfl) ?_
  refine g_get F hK hP 0 (Wm_at0 G g q I0 J0 R0 L0) clX12 30 (by decide) flX12_104 rfl dX12_tie_2 ?_
  refine lv_aload_n hx hb dX12_tie_5 rfl (lv_at hl 0 rfl) ?_
  refine g_get F hK hP 0 (Wm_at0 G g q I0 J0 R0 L0) clX12 44 (by decide) flX12_146 rfl dX12_tie_6 ?_
  have w_I0_12 := rg (hvI0 12 (by decide)) (0) (1) rfl rfl
  refine g_iald F hK hP 19 (Wm_at19 G g q I0 J0 R0 L0) (in_of (by omega)) dX12_tie_9 rfl ?_
  refine lv_topi (fun x51 ex51 => ?_)
  have gx51 : x51.toInt = (R0 15 (Int32.toNatClampNeg (I0 12))).toInt := congrArg Int32.toInt (ex51)
  have fx51 : ((0 : Int) ≤ x51.toInt ∧ x51.toInt ≤ (30 : Int)) := by rw [ex51]; exact hvR 15 (by decide) _ (clamp_lt (n := 2) (in_of (by omega)))
  refine lv_bipush (v := 30) hx hb dX12_tie_10 (by decide) ?_
  refine lv_icmp_ne (tgt := 19) hx hb dX12_tie_12 (by decide) (fun c52 => ?_) (fun c52 => ?_)
  · have gc52 : ¬ (x51.toInt = 30) := fun q0 => c52 (Int32.toInt_inj.mp q0)
    refine lv_iconst (v := 0) hx hb dX12_tie_19 (by decide) ?_
    exact lab_20 0 I0 J0 R0 L0 _ _ _ hvI hvR hsI hsR (by decide) (show (0 = 0 → (R0 15 (Int32.toNatClampNeg (I0 12))).toInt ≤ 29) from by omega) (show ((I0 2).toInt = (I0 2).toInt) from by omega) (show ((I0 4).toInt = (I0 4).toInt) from by omega) (show ((I0 3).toInt = (I0 3).toInt) from by omega) (show ((I0 3).toInt ≤ (I0 4).toInt) from by omega) (show ((I0 4).toInt ≤ (I0 1).toInt) from by omega) (show ((¬ (I0 2).toInt = 0) → (I0 3).toInt < (I0 4).toInt) from by omega) (show ((¬ (I0 6).toInt = 0) → (¬ (I0 6).toInt = 0)) from by omega) (show ((I0 3).toInt ≤ (I0 3).toInt) from by omega) hP hD hS (lv_sub hl [0] rfl)
  · have gc52 : x51.toInt = 30 := congrArg Int32.toInt c52
    refine lv_iconst (v := 1) hx hb dX12_tie_15 (by decide) ?_
    refine lv_goto (tgt := 20) hx hb dX12_tie_16 (by decide) ?_
    exact lab_20 1 I0 J0 R0 L0 _ _ _ hvI hvR hsI hsR (by decide) (show (1 = 0 → (R0 15 (Int32.toNatClampNeg (I0 12))).toInt ≤ 29) from by omega) (show ((I0 2).toInt = (I0 2).toInt) from by omega) (show ((I0 4).toInt = (I0 4).toInt) from by omega) (show ((I0 3).toInt = (I0 3).toInt) from by omega) (show ((I0 3).toInt ≤ (I0 4).toInt) from by omega) (show ((I0 4).toInt ≤ (I0 1).toInt) from by omega) (show ((¬ (I0 2).toInt = 0) → (I0 3).toInt < (I0 4).toInt) from by omega) (show ((¬ (I0 6).toInt = 0) → (¬ (I0 6).toInt = 0)) from by omega) (show ((I0 3).toInt ≤ (I0 3).toInt) from by omega) hP hD hS (lv_sub hl [0] rfl)
set_option maxHeartbeats 4000000 in
set_option maxRecDepth 100000 in
theorem s_X12_visit (l : Launch) (G : Gx) (g q : Nat → Nat) (I0 : Nat → Int32) (J0 : Nat → Int64) (R0 : Nat → Nat → Int32) (L0 : Nat → Nat → Int64) (hvI : InvI Wm_lo Wm_hi I0) (hvR : InvR Wm_rl R0)   (hpre0 : ((I0 3).toInt ≤ (I0 4).toInt)) (hpre1 : ((I0 4).toInt ≤ (I0 1).toInt)) (hpre2 : ((¬ (I0 2).toInt = 0) → (I0 3).toInt < (I0 4).toInt)) : CtV (S := St) l yX12_visit cX12_visit 4 none (rmD 4 0 0) G [.ref (g 45)] (Wm G g q I0 J0 R0 L0) (fun u => InvI Wm_lo Wm_hi u.1 ∧ InvR Wm_rl u.2.2.1 ∧ SmF ([2, 3, 4, 5, 6, 7] : List Nat) I0 u.1 ∧ SmF ([19, 20] : List Nat) R0 u.2.2.1 ∧ (((u.1 6).toInt = 0 ∧ ¬ (I0 2).toInt = 0) → (I0 3).toInt < (u.1 3).toInt) ∧ ((u.1 3).toInt ≤ (u.1 4).toInt) ∧ ((u.1 4).toInt ≤ (I0 1).toInt) ∧ ((¬ (u.1 2).toInt = 0) → (u.1 3).toInt < (u.1 4).toInt) ∧ ((¬ (I0 6).toInt = 0) → (¬ (u.1 6).toInt = 0)) ∧ ((I0 3).toInt ≤ (u.1 3).toInt)) (fun u => Wm G g q u.1 u.2.1 u.2.2.1 u.2.2.2) := by
  refine ctV_of (own := RX12) (by decide +kernel) rfl (Nat.le_of_ble_eq_true rfl) ?_
  intro p e s m below meth c A ls F hr hlk hnm hK hP hD hA hS hl
  have hx := F.1
  have hb := F.2.1
  have hown := F.2.2.2.1
  have hl : lv_has ls 4 [(0, .ref (g 45))] := hl
  obtain ⟨Q, hQ⟩ : ∃ Q : State → Prop, Q = MQ below (va_Qv (S := St) (fun u => InvI Wm_lo Wm_hi u.1 ∧ InvR Wm_rl u.2.2.1 ∧ SmF ([2, 3, 4, 5, 6, 7] : List Nat) I0 u.1 ∧ SmF ([19, 20] : List Nat) R0 u.2.2.1 ∧ (((u.1 6).toInt = 0 ∧ ¬ (I0 2).toInt = 0) → (I0 3).toInt < (u.1 3).toInt) ∧ ((u.1 3).toInt ≤ (u.1 4).toInt) ∧ ((u.1 4).toInt ≤ (I0 1).toInt) ∧ ((¬ (u.1 2).toInt = 0) → (u.1 3).toInt < (u.1 4).toInt) ∧ ((¬ (I0 6).toInt = 0) → (¬ (u.1 6).toInt = 0)) ∧ ((I0 3).toInt ≤ (u.1 3).toInt)) (BX G A (fun u => Wm G g q u.1 u.2.1 u.2.2.1 u.2.2.2)) A) [.ref (g 45)].toArray s 0 0 A := ⟨_, rfl⟩
  rw [show (MQ below (va_Qv (S := St) (fun u => InvI Wm_lo Wm_hi u.1 ∧ InvR Wm_rl u.2.2.1 ∧ SmF ([2, 3, 4, 5, 6, 7] : List Nat) I0 u.1 ∧ SmF ([19, 20] : List Nat) R0 u.2.2.1 ∧ (((u.1 6).toInt = 0 ∧ ¬ (I0 2).toInt = 0) → (I0 3).toInt < (u.1 3).toInt) ∧ ((u.1 3).toInt ≤ (u.1 4).toInt) ∧ ((u.1 4).toInt ≤ (I0 1).toInt) ∧ ((¬ (u.1 2).toInt = 0) → (u.1 3).toInt < (u.1 4).toInt) ∧ ((¬ (I0 6).toInt = 0) → (¬ (u.1 6).toInt = 0)) ∧ ((I0 3).toInt ≤ (u.1 3).toInt)) (BX G A (fun u => Wm G g q u.1 u.2.1 u.2.2.1 u.2.2.2)) A) [.ref (g 45)].toArray s (rmD 4 0 0).cells (rmD 4 0 0).slots A) = Q from hQ.symm]
  have hsI := smF_rf ([2, 3, 4, 5, 6, 7] : List Nat) I0
  have hsR := smF_rf ([19, 20] : List Nat) R0
  have hvI0 := hvI
  have w_I0_1 := rg (hvI 1 (by decide)) (0) (1800) rfl rfl
  have w_I0_2 := rg (hvI 2 (by decide)) (0) (3) rfl rfl
  have w_I0_3 := rg (hvI 3 (by decide)) (0) (1800) rfl rfl
  have w_I0_4 := rg (hvI 4 (by decide)) (0) (1800) rfl rfl
  have w_I0_6 := rg (hvI 6 (by decide)) (0) (5) rfl rfl
  refine lv_aload_n hx hb dX12_visit_0 rfl (lv_at hl 0 rfl) ?_
  refine lv_iconst (v := 0) hx hb dX12_visit_1 (by decide) ?_
  refine wvi (As := [.int 0]) (rest := []) (b := (g 45)) (d := 3) F hK hP hD hS hA (s_X12_counts l G g q I0 J0 R0 L0 hvI hvR  0 (by decide) (by omega) (by omega) (by omega)) kmV_X12_counts mlX12_358 clX12 rfl 0 (Wm_at0 G g q I0 J0 R0 L0) ⟨(Nat.le_of_ble_eq_true rfl), (Nat.le_of_ble_eq_true rfl)⟩ hl.1 rfl (Nat.le_of_ble_eq_true rfl) dX12_visit_2 (fun r1 u2 H locs hwr1 hP hD hS => ?_)
  obtain ⟨I3, J4, R5, L6⟩ := u2
  replace hP : va_P G.1 vwCl (Wm G g q I3 J4 R5 L6) H := hP
  replace hD : va_D A (Wm G g q I3 J4 R5 L6) := hD
  obtain ⟨hvI, hvR, tIr1, tRr1, F0r1, F1r1, F2r1, F3r1, F4r1, F5r1, F6r1⟩ := hwr1
  replace F0r1 : ((0 : Int) ≤ r1.toInt ∧ r1.toInt ≤ (1 : Int)) := F0r1
  replace F1r1 : ((r1.toInt = 1 ∧ 0 = 0 ∧ (I3 6).toInt = 0 ∧ (I0 4).toInt ≤ (I3 3).toInt) ∨ (r1.toInt = 0 ∧ ¬ (I3 6).toInt = 0)) := F1r1
  replace F2r1 : ((I3 3).toInt ≤ (I3 4).toInt) := F2r1
  replace F3r1 : ((I3 4).toInt ≤ (I0 1).toInt) := F3r1
  replace F4r1 : ((¬ (I3 2).toInt = 0) → (I3 3).toInt < (I3 4).toInt) := F4r1
  replace F5r1 : ((¬ (I0 6).toInt = 0) → (¬ (I3 6).toInt = 0)) := F5r1
  replace F6r1 : ((I0 3).toInt ≤ (I3 3).toInt) := F6r1
  replace hvI : InvI Wm_lo Wm_hi I3 := hvI
  replace hvR : InvR Wm_rl R5 := hvR
  replace tIr1 : SmF ([2, 3, 4, 5, 6, 7] : List Nat) I0 I3 := tIr1
  replace tRr1 : SmF ([] : List Nat) R0 R5 := tRr1
  have hv_I3 := hvI
  have hsI := smF_tr hsI tIr1 (by decide)
  have hsR := smF_tr hsR tRr1 (by decide)
  have u_I3_1 : (I3 1).toInt = (I0 1).toInt := congrArg Int32.toInt (tIr1 1 rfl)
  have w_I3_2 := rg (hvI 2 (by decide)) (0) (3) rfl rfl
  have w_I3_3 := rg (hvI 3 (by decide)) (0) (1800) rfl rfl
  have w_I3_4 := rg (hvI 4 (by decide)) (0) (1800) rfl rfl
  have w_I3_6 := rg (hvI 6 (by decide)) (0) (5) rfl rfl
  refine lv_if_ne (tgt := 9) hx hb dX12_visit_5 (by decide) (fun c7 => ?_) (fun c7 => ?_)
  · have gc7 : ¬ (r1.toInt = 0) := fun q0 => c7 (Int32.toInt_inj.mp q0)
    refine lv_aload_n hx hb dX12_visit_9 rfl (lv_at hl 0 rfl) ?_
    refine wvi (As := []) (rest := []) (b := (g 45)) (d := 3) F hK hP hD hS hA (s_X12_dayHere l G g q I3 J4 R5 L6 hvI hvR   (by omega) (by omega) (by omega)) kmV_X12_dayHere mlX12_377 clX12 rfl 0 (Wm_at0 G g q I3 J4 R5 L6) ⟨(Nat.le_of_ble_eq_true rfl), (Nat.le_of_ble_eq_true rfl)⟩ hl.1 rfl (Nat.le_of_ble_eq_true rfl) dX12_visit_10 (fun r8 u9 H locs hwr8 hP hD hS => ?_)
    obtain ⟨I10, J11, R12, L13⟩ := u9
    replace hP : va_P G.1 vwCl (Wm G g q I10 J11 R12 L13) H := hP
    replace hD : va_D A (Wm G g q I10 J11 R12 L13) := hD
    obtain ⟨hvI, hvR, tIr8, tRr8, F0r8, F1r8, F2r8, F3r8, F4r8, F5r8⟩ := hwr8
    replace F0r8 : ((0 : Int) ≤ r8.toInt ∧ r8.toInt ≤ (4 : Int)) := F0r8
    replace F1r8 : ((I10 3).toInt ≤ (I10 4).toInt) := F1r8
    replace F2r8 : ((I10 4).toInt ≤ (I3 1).toInt) := F2r8
    replace F3r8 : ((¬ (I10 2).toInt = 0) → (I10 3).toInt < (I10 4).toInt) := F3r8
    replace F4r8 : ((¬ (I3 6).toInt = 0) → (¬ (I10 6).toInt = 0)) := F4r8
    replace F5r8 : ((I3 3).toInt ≤ (I10 3).toInt) := F5r8
    replace hvI : InvI Wm_lo Wm_hi I10 := hvI
    replace hvR : InvR Wm_rl R12 := hvR
    replace tIr8 : SmF ([2, 3, 4, 5, 6, 7] : List Nat) I3 I10 := tIr8
    replace tRr8 : SmF ([] : List Nat) R5 R12 := tRr8
    have hv_I10 := hvI
    have hsI := smF_tr hsI tIr8 (by decide)
    have hsR := smF_tr hsR tRr8 (by decide)
    have u_I10_1 : (I10 1).toInt = (I3 1).toInt := congrArg Int32.toInt (tIr8 1 rfl)
    have w_I10_2 := rg (hvI 2 (by decide)) (0) (3) rfl rfl
    have w_I10_3 := rg (hvI 3 (by decide)) (0) (1800) rfl rfl
    have w_I10_4 := rg (hvI 4 (by decide)) (0) (1800) rfl rfl
    have w_I10_6 := rg (hvI 6 (by decide)) (0) (5) rfl rfl
    refine lv_istore_n (lv' := [(1, .int r8), (0, .ref (g 45))]) hx hb dX12_visit_13 rfl hl (by decide) rfl (fun ls hl => ?_)
    refine lv_aload_n hx hb dX12_visit_14 rfl (lv_at hl 1 rfl) ?_
    refine lv_iconst (v := 0) hx hb dX12_visit_15 (by decide) ?_
    refine lv_bipush (v := 9) hx hb dX12_visit_16 (by decide) ?_
    refine wvi (As := [.int 0, .int 9]) (rest := []) (b := (g 45)) (d := 3) F hK hP hD hS hA (s_X12_number l G g q I10 J11 R12 L13 hvI hvR  0 9 (by decide) (by decide) (by omega) (by omega) (by omega)) kmV_X12_number mlX12_370 clX12 rfl 0 (Wm_at0 G g q I10 J11 R12 L13) ⟨(Nat.le_of_ble_eq_true rfl), (Nat.le_of_ble_eq_true rfl)⟩ hl.1 rfl (Nat.le_of_ble_eq_true rfl) dX12_visit_18 (fun r14 u15 H locs hwr14 hP hD hS => ?_)
    obtain ⟨I16, J17, R18, L19⟩ := u15
    replace hP : va_P G.1 vwCl (Wm G g q I16 J17 R18 L19) H := hP
    replace hD : va_D A (Wm G g q I16 J17 R18 L19) := hD
    obtain ⟨hvI, hvR, tIr14, tRr14, F0r14, F1r14, F2r14, F3r14, F4r14, F5r14⟩ := hwr14
    replace F0r14 : ((0 : Int) ≤ r14.toInt ∧ r14.toInt ≤ (9999 : Int)) := F0r14
    replace F1r14 : ((I16 3).toInt ≤ (I16 4).toInt) := F1r14
    replace F2r14 : ((I16 4).toInt ≤ (I10 1).toInt) := F2r14
    replace F3r14 : ((¬ (I16 2).toInt = 0) → (I16 3).toInt < (I16 4).toInt) := F3r14
    replace F4r14 : ((¬ (I10 6).toInt = 0) → (¬ (I16 6).toInt = 0)) := F4r14
    replace F5r14 : ((I10 3).toInt ≤ (I16 3).toInt) := F5r14
    replace hvI : InvI Wm_lo Wm_hi I16 := hvI
    replace hvR : InvR Wm_rl R18 := hvR
    replace tIr14 : SmF ([2, 3, 4, 5, 6, 7] : List Nat) I10 I16 := tIr14
    replace tRr14 : SmF ([] : List Nat) R12 R18 := tRr14
    have hv_I16 := hvI
    have hsI := smF_tr hsI tIr14 (by decide)
    have hsR := smF_tr hsR tRr14 (by decide)
    have u_I16_1 : (I16 1).toInt = (I10 1).toInt := congrArg Int32.toInt (tIr14 1 rfl)
    have w_I16_2 := rg (hvI 2 (by decide)) (0) (3) rfl rfl
    have w_I16_3 := rg (hvI 3 (by decide)) (0) (1800) rfl rfl
    have w_I16_4 := rg (hvI 4 (by decide)) (0) (1800) rfl rfl
    have w_I16_6 := rg (hvI 6 (by decide)) (0) (5) rfl rfl
    refine lv_istore_n (lv' := [(2, .int r14), (1, .int r8), (0, .ref (g 45))]) hx hb dX12_visit_21 rfl hl (by decide) rfl (fun ls hl => ?_)
    refine lv_aload_n hx hb dX12_visit_22 rfl (lv_at hl 2 rfl) ?_
    refine lv_iconst (v := 0) hx hb dX12_visit_23 (by decide) ?_
    refine lv_bipush (v := 100) hx hb dX12_visit_24 (by decide) ?_
    refine wvi (As := [.int 0, .int 100]) (rest := []) (b := (g 45)) (d := 3) F hK hP hD hS hA (s_X12_number l G g q I16 J17 R18 L19 hvI hvR  0 100 (by decide) (by decide) (by omega) (by omega) (by omega)) kmV_X12_number mlX12_370 clX12 rfl 0 (Wm_at0 G g q I16 J17 R18 L19) ⟨(Nat.le_of_ble_eq_true rfl), (Nat.le_of_ble_eq_true rfl)⟩ hl.1 rfl (Nat.le_of_ble_eq_true rfl) dX12_visit_26 (fun r20 u21 H locs hwr20 hP hD hS => ?_)
    obtain ⟨I22, J23, R24, L25⟩ := u21
    replace hP : va_P G.1 vwCl (Wm G g q I22 J23 R24 L25) H := hP
    replace hD : va_D A (Wm G g q I22 J23 R24 L25) := hD
    obtain ⟨hvI, hvR, tIr20, tRr20, F0r20, F1r20, F2r20, F3r20, F4r20, F5r20⟩ := hwr20
    replace F0r20 : ((0 : Int) ≤ r20.toInt ∧ r20.toInt ≤ (9999 : Int)) := F0r20
    replace F1r20 : ((I22 3).toInt ≤ (I22 4).toInt) := F1r20
    replace F2r20 : ((I22 4).toInt ≤ (I16 1).toInt) := F2r20
    replace F3r20 : ((¬ (I22 2).toInt = 0) → (I22 3).toInt < (I22 4).toInt) := F3r20
    replace F4r20 : ((¬ (I16 6).toInt = 0) → (¬ (I22 6).toInt = 0)) := F4r20
    replace F5r20 : ((I16 3).toInt ≤ (I22 3).toInt) := F5r20
    replace hvI : InvI Wm_lo Wm_hi I22 := hvI
    replace hvR : InvR Wm_rl R24 := hvR
    replace tIr20 : SmF ([2, 3, 4, 5, 6, 7] : List Nat) I16 I22 := tIr20
    replace tRr20 : SmF ([] : List Nat) R18 R24 := tRr20
    have hv_I22 := hvI
    have hsI := smF_tr hsI tIr20 (by decide)
    have hsR := smF_tr hsR tRr20 (by decide)
    have u_I22_1 : (I22 1).toInt = (I16 1).toInt := congrArg Int32.toInt (tIr20 1 rfl)
    have w_I22_2 := rg (hvI 2 (by decide)) (0) (3) rfl rfl
    have w_I22_3 := rg (hvI 3 (by decide)) (0) (1800) rfl rfl
    have w_I22_4 := rg (hvI 4 (by decide)) (0) (1800) rfl rfl
    have w_I22_6 := rg (hvI 6 (by decide)) (0) (5) rfl rfl
    refine lv_istore_n (lv' := [(3, .int r20), (2, .int r14), (1, .int r8), (0, .ref (g 45))]) hx hb dX12_visit_29 rfl hl (by decide) rfl (fun ls hl => ?_)
    refine lv_aload_n hx hb dX12_visit_30 rfl (lv_at hl 3 rfl) ?_
    refine g_get F hK hP 0 (Wm_at0 G g q I22 J23 R24 L25) clX12 8 (by decide) flX12_36 rfl dX12_visit_31 ?_
    have w_I22_6 := rg (hv_I22 6 (by decide)) (0) (5) rfl rfl
    refine lv_if_le (tgt := 38) hx hb dX12_visit_34 (by decide) (fun c26 => ?_) (fun c26 => ?_)
    · have gc26 : (I22 6).toInt ≤ 0 := (tle _ _).mp c26
      refine lv_aload_n hx hb dX12_visit_38 rfl (lv_at hl 3 rfl) ?_
      refine g_get F hK hP 0 (Wm_at0 G g q I22 J23 R24 L25) clX12 34 (by decide) flX12_116 rfl dX12_visit_39 ?_
      refine lv_iconst (v := 5) hx hb dX12_visit_42 (by decide) ?_
      refine lv_aload_n hx hb dX12_visit_43 rfl (lv_at hl 3 rfl) ?_
      refine g_get F hK hP 0 (Wm_at0 G g q I22 J23 R24 L25) clX12 44 (by decide) flX12_146 rfl dX12_visit_44 ?_
      refine cst_i (hsI 12 rfl) ?_
      have w_I0_12 := rg (hvI0 12 (by decide)) (0) (1) rfl rfl
      refine lv_imul hx hb dX12_visit_47 ?_
      refine lv_topi (fun x27 ex27 => ?_)
      have fx27 : x27.toInt = 5 * (I0 12).toInt := by rw [ex27]; exact t_mul (by show (-2147483648 : Int) ≤ 5 * (I0 12).toInt; omega) (by show 5 * (I0 12).toInt ≤ 2147483647; omega)
      refine lv_iload_n hx hb dX12_visit_48 rfl (lv_at hl 2 rfl) ?_
      refine lv_iadd hx hb dX12_visit_49 ?_
      refine lv_topi (fun x28 ex28 => ?_)
      have fx28 : x28.toInt = x27.toInt + r8.toInt := by rw [ex28]; exact t_add (by show (-2147483648 : Int) ≤ x27.toInt + r8.toInt; omega) (by show x27.toInt + r8.toInt ≤ 2147483647; omega)
      refine lv_iload_n hx hb dX12_visit_50 rfl (lv_at hl 1 rfl) ?_
      refine p_row (W1 := fun y => Wm G g q I22 J23 y L25) (n := 19) F hK hP hD hS 23 (Wm_at23 G g q I22 J23 R24 L25) (in_of (by omega)) dX12_visit_51 (Wm_rowR19 G g q I22 J23 R24 L25) (fun R29 H locs eR29 hP hD hS => ?_)
      have hvR : InvR Wm_rl R29 := inv_upR hvR 19 eR29 (upd_in (hvR 19 (by decide)) (full _))
      have hsR := smF_up hsR eR29 (by decide)
      refine lv_aload_n hx hb dX12_visit_52 rfl (lv_at hl 3 rfl) ?_
      refine g_get F hK hP 0 (Wm_at0 G g q I22 J23 R29 L25) clX12 35 (by decide) flX12_119 rfl dX12_visit_53 ?_
      refine lv_iconst (v := 5) hx hb dX12_visit_56 (by decide) ?_
      refine lv_aload_n hx hb dX12_visit_57 rfl (lv_at hl 3 rfl) ?_
      refine g_get F hK hP 0 (Wm_at0 G g q I22 J23 R29 L25) clX12 44 (by decide) flX12_146 rfl dX12_visit_58 ?_
      refine cst_i (hsI 12 rfl) ?_
      refine lv_imul hx hb dX12_visit_61 ?_
      refine lv_topi (fun x30 ex30 => ?_)
      have fx30 : x30.toInt = 5 * (I0 12).toInt := by rw [ex30]; exact t_mul (by show (-2147483648 : Int) ≤ 5 * (I0 12).toInt; omega) (by show 5 * (I0 12).toInt ≤ 2147483647; omega)
      refine lv_iload_n hx hb dX12_visit_62 rfl (lv_at hl 2 rfl) ?_
      refine lv_iadd hx hb dX12_visit_63 ?_
      refine lv_topi (fun x31 ex31 => ?_)
      have fx31 : x31.toInt = x30.toInt + r8.toInt := by rw [ex31]; exact t_add (by show (-2147483648 : Int) ≤ x30.toInt + r8.toInt; omega) (by show x30.toInt + r8.toInt ≤ 2147483647; omega)
      refine lv_iload_n hx hb dX12_visit_64 rfl (lv_at hl 0 rfl) ?_
      refine p_row (W1 := fun y => Wm G g q I22 J23 y L25) (n := 20) F hK hP hD hS 24 (Wm_at24 G g q I22 J23 R29 L25) (in_of (by omega)) dX12_visit_65 (Wm_rowR20 G g q I22 J23 R29 L25) (fun R32 H locs eR32 hP hD hS => ?_)
      have hvR : InvR Wm_rl R32 := inv_upR hvR 20 eR32 (upd_in (hvR 20 (by decide)) (full _))
      have hsR := smF_up hsR eR32 (by decide)
      rw [hQ]
      exact q_v F hr hlk (I22, J23, R32, L25) hP hD hS ⟨hvI, hvR, hsI, hsR, (show (((I22 6).toInt = 0 ∧ ¬ (I0 2).toInt = 0) → (I0 3).toInt < (I22 3).toInt) from by omega), (show ((I22 3).toInt ≤ (I22 4).toInt) from by omega), (show ((I22 4).toInt ≤ (I0 1).toInt) from by omega), (show ((¬ (I22 2).toInt = 0) → (I22 3).toInt < (I22 4).toInt) from by omega), (show ((¬ (I0 6).toInt = 0) → (¬ (I22 6).toInt = 0)) from by omega), (show ((I0 3).toInt ≤ (I22 3).toInt) from by omega)⟩ dX12_visit_66 (Nat.le_of_ble_eq_true rfl) (Nat.le_of_ble_eq_true rfl)
    · have gc26 : ¬ ((I22 6).toInt ≤ 0) := fun q0 => c26 ((tle _ _).mpr q0)
      rw [hQ]
      exact q_v F hr hlk (I22, J23, R24, L25) hP hD hS ⟨hvI, hvR, hsI, hsR, (show (((I22 6).toInt = 0 ∧ ¬ (I0 2).toInt = 0) → (I0 3).toInt < (I22 3).toInt) from by omega), (show ((I22 3).toInt ≤ (I22 4).toInt) from by omega), (show ((I22 4).toInt ≤ (I0 1).toInt) from by omega), (show ((¬ (I22 2).toInt = 0) → (I22 3).toInt < (I22 4).toInt) from by omega), (show ((¬ (I0 6).toInt = 0) → (¬ (I22 6).toInt = 0)) from by omega), (show ((I0 3).toInt ≤ (I22 3).toInt) from by omega)⟩ dX12_visit_37 (Nat.le_of_ble_eq_true rfl) (Nat.le_of_ble_eq_true rfl)
  · have gc7 : r1.toInt = 0 := congrArg Int32.toInt c7
    rw [hQ]
    exact q_v F hr hlk (I3, J4, R5, L6) hP hD hS ⟨hvI, hvR, hsI, hsR, (show (((I3 6).toInt = 0 ∧ ¬ (I0 2).toInt = 0) → (I0 3).toInt < (I3 3).toInt) from by omega), (show ((I3 3).toInt ≤ (I3 4).toInt) from by omega), (show ((I3 4).toInt ≤ (I0 1).toInt) from by omega), (show ((¬ (I3 2).toInt = 0) → (I3 3).toInt < (I3 4).toInt) from by omega), (show ((¬ (I0 6).toInt = 0) → (¬ (I3 6).toInt = 0)) from by omega), (show ((I0 3).toInt ≤ (I3 3).toInt) from by omega)⟩ dX12_visit_8 (Nat.le_of_ble_eq_true rfl) (Nat.le_of_ble_eq_true rfl)
