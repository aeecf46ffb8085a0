set_option maxHeartbeats 4000000 in
set_option maxRecDepth 100000 in
theorem s_X12_opens (l : Launch) (G : Gx) (g q : Nat → Nat) (I0 : Nat → Int32) (J0 : Nat → Int64) (R0 : Nat → Nat → Int32) (L0 : Nat → Nat → Int64) (hvI : InvI Wm_lo Wm_hi I0) (hvR : InvR Wm_rl R0)  (p1 : Int32) (hp1 : ((0 : Int) ≤ p1.toInt ∧ p1.toInt ≤ (5 : Int))) (hpre0 : ((I0 3).toInt ≤ (I0 4).toInt)) (hpre1 : ((I0 4).toInt ≤ (I0 1).toInt)) (hpre2 : ((¬ (I0 2).toInt = 0) → (I0 3).toInt < (I0 4).toInt)) (hpre3 : (2 ≤ p1.toInt)) (hpre4 : (¬ p1.toInt = 4)) (hpre5 : ((I0 6).toInt = 0 → (I0 2).toInt = 3)) (a : Nat) (hRS : RS a 0 I0 (J0 0) R0) (hbg : ∀ k : Nat, (I0 13).toInt = (k : Int) + 1 → (R0 30 k).toInt = 0) : CtV (S := St) l yX12_opens cX12_opens 2 none (rmD 3 0 0) G [.ref (g 45), .int p1] (Wm G g q I0 J0 R0 L0) (fun u => InvI Wm_lo Wm_hi u.1 ∧ InvR Wm_rl u.2.2.1 ∧ SmF ([2, 3, 4, 5, 6, 7, 13, 14] : List Nat) I0 u.1 ∧ SmF ([28, 29, 30, 32] : List Nat) R0 u.2.2.1 ∧ ((u.1 6).toInt = 0 → (I0 3).toInt < (u.1 3).toInt) ∧ ((u.1 6).toInt = 0 → 1 ≤ (u.1 13).toInt) ∧ ((u.1 3).toInt ≤ (u.1 4).toInt) ∧ ((u.1 4).toInt ≤ (I0 1).toInt) ∧ ((¬ (u.1 2).toInt = 0) → (u.1 3).toInt < (u.1 4).toInt) ∧ ((¬ (I0 6).toInt = 0) → (¬ (u.1 6).toInt = 0)) ∧ ((I0 3).toInt ≤ (u.1 3).toInt) ∧ (¬ p1.toInt = 3 → RS a 0 u.1 (u.2.1 0) u.2.2.1) ∧ (∀ v : Int32, 10 ≤ v.toInt → v.toInt ≤ 21 → RS a 0 u.1 (u.2.1 0) (va_up u.2.2.1 31 (upd (u.2.2.1 31) (((u.1 13).toInt - 1).toNat) v)))) (fun u => Wm G g q u.1 u.2.1 u.2.2.1 u.2.2.2) := by
  refine ctV_of (own := RX12) (by decide +kernel) rfl (Nat.le_of_ble_eq_true rfl) ?_
  intro p e s m below meth c A ls F hr hlk hnm hK hP hD hA hS hl
  have hx := F.1
  have hb := F.2.1
  have hown := F.2.2.2.1
  have hl : lv_has ls 2 [(0, .ref (g 45)), (1, .int p1)] := hl
  obtain ⟨Q, hQ⟩ : ∃ Q : State → Prop, Q = MQ below (va_Qv (S := St) (fun u => InvI Wm_lo Wm_hi u.1 ∧ InvR Wm_rl u.2.2.1 ∧ SmF ([2, 3, 4, 5, 6, 7, 13, 14] : List Nat) I0 u.1 ∧ SmF ([28, 29, 30, 32] : List Nat) R0 u.2.2.1 ∧ ((u.1 6).toInt = 0 → (I0 3).toInt < (u.1 3).toInt) ∧ ((u.1 6).toInt = 0 → 1 ≤ (u.1 13).toInt) ∧ ((u.1 3).toInt ≤ (u.1 4).toInt) ∧ ((u.1 4).toInt ≤ (I0 1).toInt) ∧ ((¬ (u.1 2).toInt = 0) → (u.1 3).toInt < (u.1 4).toInt) ∧ ((¬ (I0 6).toInt = 0) → (¬ (u.1 6).toInt = 0)) ∧ ((I0 3).toInt ≤ (u.1 3).toInt) ∧ (¬ p1.toInt = 3 → RS a 0 u.1 (u.2.1 0) u.2.2.1) ∧ (∀ v : Int32, 10 ≤ v.toInt → v.toInt ≤ 21 → RS a 0 u.1 (u.2.1 0) (va_up u.2.2.1 31 (upd (u.2.2.1 31) (((u.1 13).toInt - 1).toNat) v)))) (BX G A (fun u => Wm G g q u.1 u.2.1 u.2.2.1 u.2.2.2)) A) [.ref (g 45), .int p1].toArray s 0 0 A := ⟨_, rfl⟩
  rw [show (MQ below (va_Qv (S := St) (fun u => InvI Wm_lo Wm_hi u.1 ∧ InvR Wm_rl u.2.2.1 ∧ SmF ([2, 3, 4, 5, 6, 7, 13, 14] : List Nat) I0 u.1 ∧ SmF ([28, 29, 30, 32] : List Nat) R0 u.2.2.1 ∧ ((u.1 6).toInt = 0 → (I0 3).toInt < (u.1 3).toInt) ∧ ((u.1 6).toInt = 0 → 1 ≤ (u.1 13).toInt) ∧ ((u.1 3).toInt ≤ (u.1 4).toInt) ∧ ((u.1 4).toInt ≤ (I0 1).toInt) ∧ ((¬ (u.1 2).toInt = 0) → (u.1 3).toInt < (u.1 4).toInt) ∧ ((¬ (I0 6).toInt = 0) → (¬ (u.1 6).toInt = 0)) ∧ ((I0 3).toInt ≤ (u.1 3).toInt) ∧ (¬ p1.toInt = 3 → RS a 0 u.1 (u.2.1 0) u.2.2.1) ∧ (∀ v : Int32, 10 ≤ v.toInt → v.toInt ≤ 21 → RS a 0 u.1 (u.2.1 0) (va_up u.2.2.1 31 (upd (u.2.2.1 31) (((u.1 13).toInt - 1).toNat) v)))) (BX G A (fun u => Wm G g q u.1 u.2.1 u.2.2.1 u.2.2.2)) A) [.ref (g 45), .int p1].toArray s (rmD 3 0 0).cells (rmD 3 0 0).slots A) = Q from hQ.symm]
  have hsI := smF_rf ([2, 3, 4, 5, 6, 7, 13, 14] : List Nat) I0
  have hsR := smF_rf ([28, 29, 30, 32] : List Nat) R0
  have hvI0 := hvI
  have w_I0_1 := rg (hvI 1 (by decide)) (0) (1800) rfl rfl
  have w_I0_2 := rg (hvI 2 (by decide)) (0) (3) rfl rfl
  have w_I0_3 := rg (hvI 3 (by decide)) (0) (1800) rfl rfl
  have w_I0_4 := rg (hvI 4 (by decide)) (0) (1800) rfl rfl
  have w_I0_5 := rg (hvI 5 (by decide)) (0) (9999) rfl rfl
  have w_I0_6 := rg (hvI 6 (by decide)) (0) (5) rfl rfl
  have w_I0_11 := rg (hvI 11 (by decide)) (0) (1800) rfl rfl
  have w_I0_12 := rg (hvI 12 (by decide)) (0) (1) rfl rfl
  have w_I0_13 := rg (hvI 13 (by decide)) (0) (9) rfl rfl
  have w_I0_14 := rg (hvI 14 (by decide)) (0) (8) rfl rfl
  have w_I0_15 := rg (hvI 15 (by decide)) (0) (499) rfl rfl
  have w_I0_16 := rg (hvI 16 (by decide)) (0) (1) rfl rfl
  have lab_18 : ∀  (I_18 : Nat → Int32) (J_18 : Nat → Int64) (R_18 : Nat → Nat → Int32) (L_18 : Nat → Nat → Int64) (H : Heap) (locs : List Loc) (ls : Array Slot), InvI Wm_lo Wm_hi I_18 → InvR Wm_rl R_18 → SmF ([2, 3, 4, 5, 6, 7, 13, 14] : List Nat) I0 I_18 → SmF ([28, 29, 30, 32] : List Nat) R0 R_18 → ((I_18 6).toInt = 0 → (I_18 14).toInt ≤ 7) → ((I_18 3).toInt ≤ (I_18 4).toInt) → ((I_18 4).toInt ≤ (I0 1).toInt) → ((¬ (I_18 2).toInt = 0) → (I_18 3).toInt < (I_18 4).toInt) → ((¬ (I0 6).toInt = 0) → (¬ (I_18 6).toInt = 0)) → ((I0 3).toInt ≤ (I_18 3).toInt) → ((I_18 6).toInt = 0 → (I0 = I_18 ∧ J0 = J_18 ∧ R0 = R_18)) → va_P G.1 vwCl (Wm G g q I_18 J_18 R_18 L_18) H → va_D A (Wm G g q I_18 J_18 R_18 L_18) → va_S A s.heap H locs → lv_has ls 2 [(0, .ref (g 45)), (1, .int p1)] → W p l e (rmD 3 0 0) s m [.ref (g 45), .int p1].toArray below meth c H locs 0 0 Q (F0 m 18 ls []) := by
    intro I_18 J_18 R_18 L_18 H locs ls hvI hvR hsI hsR z0_18 z1_18 z2_18 z3_18 z4_18 z5_18 xl0_18 hP hD hS hl
    have hv_I_18 := hvI
    have w_I_18_1 := rg (hvI 1 (by decide)) (0) (1800) rfl rfl
    have v_I_18_1 : (I_18 1).toInt = (I0 1).toInt := congrArg Int32.toInt (hsI 1 rfl)
    have w_I_18_2 := rg (hvI 2 (by decide)) (0) (3) rfl rfl
    have w_I_18_3 := rg (hvI 3 (by decide)) (0) (1800) rfl rfl
    have w_I_18_4 := rg (hvI 4 (by decide)) (0) (1800) rfl rfl
    have w_I_18_5 := rg (hvI 5 (by decide)) (0) (9999) rfl rfl
    have w_I_18_6 := rg (hvI 6 (by decide)) (0) (5) rfl rfl
    have w_I_18_11 := rg (hvI 11 (by decide)) (0) (1800) rfl rfl
    have v_I_18_11 : (I_18 11).toInt = (I0 11).toInt := congrArg Int32.toInt (hsI 11 rfl)
    have w_I_18_12 := rg (hvI 12 (by decide)) (0) (1) rfl rfl
    have v_I_18_12 : (I_18 12).toInt = (I0 12).toInt := congrArg Int32.toInt (hsI 12 rfl)
    have w_I_18_13 := rg (hvI 13 (by decide)) (0) (9) rfl rfl
    have w_I_18_14 := rg (hvI 14 (by decide)) (0) (8) rfl rfl
    have w_I_18_15 := rg (hvI 15 (by decide)) (0) (499) rfl rfl
    have v_I_18_15 : (I_18 15).toInt = (I0 15).toInt := congrArg Int32.toInt (hsI 15 rfl)
    have w_I_18_16 := rg (hvI 16 (by decide)) (0) (1) rfl rfl
    have v_I_18_16 : (I_18 16).toInt = (I0 16).toInt := congrArg Int32.toInt (hsI 16 rfl)
    refine lv_aload_n hx hb dX12_opens_18 rfl (lv_at hl 0 rfl) ?_
    refine g_get F hK hP 0 (Wm_at0 G g q I_18 J_18 R_18 L_18) clX12 8 (by decide) flX12_36 rfl dX12_opens_19 ?_
    have w_I_18_6 := rg (hv_I_18 6 (by decide)) (0) (5) rfl rfl
    refine lv_if_le (tgt := 26) hx hb dX12_opens_22 (by decide) (fun c1 => ?_) (fun c1 => ?_)
    · have gc1 : (I_18 6).toInt ≤ 0 := (tle _ _).mp c1
      obtain ⟨qI, qJ, qR⟩ := xl0_18 (by omega)
      subst qI
      subst qJ
      subst qR
      obtain ⟨d, n, hX, hTL, hWB, hBY⟩ := hRS (by omega)
      have hX2 := hX
      obtain ⟨hd, ho, hn, hRB⟩ := hX2
      have hBY2 := hBY
      obtain ⟨hb1, hb2, hb3⟩ := hBY2
      refine lv_aload_n hx hb dX12_opens_26 rfl (lv_at hl 0 rfl) ?_
      refine lv_dup hx hb dX12_opens_27 rfl ?_
      refine g_get F hK hP 0 (Wm_at0 G g q I0 J0 R0 L_18) clX12 51 (by decide) flX12_167 rfl dX12_opens_28 ?_
      have w_I0_14 := rg (hvI0 14 (by decide)) (0) (8) rfl rfl
      refine lv_iconst (v := 1) hx hb dX12_opens_31 (by decide) ?_
      refine lv_iadd hx hb dX12_opens_32 ?_
      refine lv_topi (fun x2 ex2 => ?_)
      have fx2 : x2.toInt = (I0 14).toInt + 1 := by rw [ex2]; exact t_add (by show (-2147483648 : Int) ≤ (I0 14).toInt + 1; omega) (by show (I0 14).toInt + 1 ≤ 2147483647; omega)
      refine p_fld (W1 := fun y => Wm G g q y J0 R0 L_18) (n := 14) (v := x2) F hK hP hD hS 0 (Wm_at0 G g q I0 J0 R0 L_18) clX12 51 (by decide) flX12_167 rfl rfl rfl (Nat.le_of_ble_eq_true rfl) dX12_opens_33 (Wm_setI14 G g q I0 J0 R0 L_18 _) (fun I3 H locs eI3 hP hD hS => ?_)
      have hvI : InvI Wm_lo Wm_hi I3 := inv_upI hvI 14 eI3 (show ((0 : Int) ≤ x2.toInt ∧ x2.toInt ≤ (8 : Int)) from by omega)
      have hsI := smF_up hsI eI3 (by decide)
      have hv_I3 := hvI
      have u_I3_1 : (I3 1).toInt = (I0 1).toInt := by rw [eI3]; rfl
      have u_I3_2 : (I3 2).toInt = (I0 2).toInt := by rw [eI3]; rfl
      have u_I3_3 : (I3 3).toInt = (I0 3).toInt := by rw [eI3]; rfl
      have u_I3_4 : (I3 4).toInt = (I0 4).toInt := by rw [eI3]; rfl
      have u_I3_5 : (I3 5).toInt = (I0 5).toInt := by rw [eI3]; rfl
      have u_I3_6 : (I3 6).toInt = (I0 6).toInt := by rw [eI3]; rfl
      have u_I3_11 : (I3 11).toInt = (I0 11).toInt := by rw [eI3]; rfl
      have u_I3_12 : (I3 12).toInt = (I0 12).toInt := by rw [eI3]; rfl
      have u_I3_13 : (I3 13).toInt = (I0 13).toInt := by rw [eI3]; rfl
      have u_I3_14 : (I3 14).toInt = x2.toInt := by rw [eI3]; rfl
      have u_I3_15 : (I3 15).toInt = (I0 15).toInt := by rw [eI3]; rfl
      have u_I3_16 : (I3 16).toInt = (I0 16).toInt := by rw [eI3]; rfl
      refine lv_aload_n hx hb dX12_opens_36 rfl (lv_at hl 0 rfl) ?_
      refine wvv (As := []) (rest := []) (b := (g 45)) (d := 2) F hK hP hD hS hA (s_X12_ahead2 l G g q I3 J0 R0 L_18 hvI hvR   (by omega) (by omega) (by omega)) kmV_X12_ahead mlX12_247 clX12 rfl 0 (Wm_at0 G g q I3 J0 R0 L_18) ⟨(Nat.le_of_ble_eq_true rfl), (Nat.le_of_ble_eq_true rfl)⟩ hl.1 rfl (Nat.le_of_ble_eq_true rfl) dX12_opens_37 (fun u5 H locs hwr4 hP hD hS => ?_)
      obtain ⟨I6, J7, R8, L9⟩ := u5
      replace hP : va_P G.1 vwCl (Wm G g q I6 J7 R8 L9) H := hP
      replace hD : va_D A (Wm G g q I6 J7 R8 L9) := hD
      obtain ⟨hvI, hvR, tIr4, tRr4, F0r4, F1r4, F2r4, F3r4, F4r4, F5r4, F6r4, F7r4, F8r4⟩ := hwr4
      replace F0r4 : ((I3 4).toInt ≤ (I6 3).toInt) := F0r4
      replace F1r4 : ((I6 3).toInt ≤ (I6 4).toInt) := F1r4
      replace F2r4 : ((I6 4).toInt ≤ (I3 1).toInt) := F2r4
      replace F3r4 : ((¬ (I6 2).toInt = 0) → (I6 3).toInt < (I6 4).toInt) := F3r4
      replace F4r4 : ((¬ (I3 6).toInt = 0) → (¬ (I6 6).toInt = 0)) := F4r4
      replace F5r4 : ((I3 3).toInt ≤ (I6 3).toInt) := F5r4
      replace F6r4 : (TL I6 (R0 0)) := F6r4
      replace F7r4 : (WB I6 (J7 0)) := F7r4
      replace F8r4 : (TL I3 (R0 0) → (I3 2).toInt = 1 → (I6 6).toInt = 0 → ((I6 2).toInt = 1 ∨ (I6 2).toInt = 2) → (I3 4).toInt + 1 ≤ (I6 3).toInt) := F8r4
      replace hvI : InvI Wm_lo Wm_hi I6 := hvI
      replace hvR : InvR Wm_rl R8 := hvR
      replace tIr4 : SmF ([2, 3, 4, 5, 6, 7] : List Nat) I3 I6 := tIr4
      replace tRr4 : SmF ([] : List Nat) R0 R8 := tRr4
      have hv_I6 := hvI
      have hsI := smF_tr hsI tIr4 (by decide)
      have hsR := smF_tr hsR tRr4 (by decide)
      have u_I6_1 : (I6 1).toInt = (I3 1).toInt := congrArg Int32.toInt (tIr4 1 rfl)
      have w_I6_2 := rg (hvI 2 (by decide)) (0) (3) rfl rfl
      have w_I6_3 := rg (hvI 3 (by decide)) (0) (1800) rfl rfl
      have w_I6_4 := rg (hvI 4 (by decide)) (0) (1800) rfl rfl
      have w_I6_5 := rg (hvI 5 (by decide)) (0) (9999) rfl rfl
      have w_I6_6 := rg (hvI 6 (by decide)) (0) (5) rfl rfl
      have u_I6_11 : (I6 11).toInt = (I3 11).toInt := congrArg Int32.toInt (tIr4 11 rfl)
      have u_I6_12 : (I6 12).toInt = (I3 12).toInt := congrArg Int32.toInt (tIr4 12 rfl)
      have u_I6_13 : (I6 13).toInt = (I3 13).toInt := congrArg Int32.toInt (tIr4 13 rfl)
      have u_I6_14 : (I6 14).toInt = (I3 14).toInt := congrArg Int32.toInt (tIr4 14 rfl)
      have u_I6_15 : (I6 15).toInt = (I3 15).toInt := congrArg Int32.toInt (tIr4 15 rfl)
      have u_I6_16 : (I6 16).toInt = (I3 16).toInt := congrArg Int32.toInt (tIr4 16 rfl)
      have nr4_0 : ((I6 3).toInt ≤ (I6 4).toInt) := by omega
      have nr4_1 : ((I6 4).toInt ≤ (I0 1).toInt) := by omega
      have nr4_2 : ((¬ (I6 2).toInt = 0) → (I6 3).toInt < (I6 4).toInt) := by omega
      have nr4_3 : ((¬ (I0 6).toInt = 0) → (¬ (I6 6).toInt = 0)) := by omega
      have nr4_4 : ((I0 3).toInt ≤ (I6 3).toInt) := by omega
      clear z1_18 z2_18 z3_18 z4_18 z5_18 F1r4 F2r4 F3r4 F4r4 F5r4
      refine lv_aload_n hx hb dX12_opens_40 rfl (lv_at hl 0 rfl) ?_
      refine lv_iload_n hx hb dX12_opens_41 rfl (lv_at hl 1 rfl) ?_
      refine wvv (As := [.int p1]) (rest := []) (b := (g 45)) (d := 1) F hK hP hD hS hA (s_X12_pushes l G g q I6 J7 R8 L9 hvI hvR  p1 (show ((0 : Int) ≤ p1.toInt ∧ p1.toInt ≤ (5 : Int)) from by omega) (by omega)) kmV_X12_pushes mlX12_326 clX12 rfl 0 (Wm_at0 G g q I6 J7 R8 L9) ⟨(Nat.le_of_ble_eq_true rfl), (Nat.le_of_ble_eq_true rfl)⟩ hl.1 rfl (Nat.le_of_ble_eq_true rfl) dX12_opens_42 (fun u11 H locs hwr10 hP hD hS => ?_)
      obtain ⟨I12, J13, R14, L15⟩ := u11
      replace hP : va_P G.1 vwCl (Wm G g q I12 J13 R14 L15) H := hP
      replace hD : va_D A (Wm G g q I12 J13 R14 L15) := hD
      obtain ⟨hvI, hvR, tIr10, tRr10, F0r10, F1r10, F2r10, F3r10, F4r10, F5r10⟩ := hwr10
      replace F0r10 : ((I12 13).toInt = (I6 13).toInt + 1) := F0r10
      replace F1r10 : (R14 28 = upd (R8 28) (Int32.toNatClampNeg (I6 13)) p1) := F1r10
      replace F2r10 : (R14 29 = upd (R8 29) (Int32.toNatClampNeg (I6 13)) 0) := F2r10
      replace F3r10 : (R14 30 = upd (R8 30) (Int32.toNatClampNeg (I6 13)) 1) := F3r10
      replace F4r10 : (R14 32 = upd (R8 32) (Int32.toNatClampNeg (I6 13)) (I6 15)) := F4r10
      replace F5r10 : (J13 0 = J7 0) := F5r10
      replace hvI : InvI Wm_lo Wm_hi I12 := hvI
      replace hvR : InvR Wm_rl R14 := hvR
      replace tIr10 : SmF ([13] : List Nat) I6 I12 := tIr10
      replace tRr10 : SmF ([28, 29, 30, 32] : List Nat) R8 R14 := tRr10
      have hv_I12 := hvI
      have hsI := smF_tr hsI tIr10 (by decide)
      have hsR := smF_tr hsR tRr10 (by decide)
      have u_I12_1 : (I12 1).toInt = (I6 1).toInt := congrArg Int32.toInt (tIr10 1 rfl)
      have u_I12_2 : (I12 2).toInt = (I6 2).toInt := congrArg Int32.toInt (tIr10 2 rfl)
      have u_I12_3 : (I12 3).toInt = (I6 3).toInt := congrArg Int32.toInt (tIr10 3 rfl)
      have u_I12_4 : (I12 4).toInt = (I6 4).toInt := congrArg Int32.toInt (tIr10 4 rfl)
      have u_I12_5 : (I12 5).toInt = (I6 5).toInt := congrArg Int32.toInt (tIr10 5 rfl)
      have u_I12_6 : (I12 6).toInt = (I6 6).toInt := congrArg Int32.toInt (tIr10 6 rfl)
      have u_I12_11 : (I12 11).toInt = (I6 11).toInt := congrArg Int32.toInt (tIr10 11 rfl)
      have u_I12_12 : (I12 12).toInt = (I6 12).toInt := congrArg Int32.toInt (tIr10 12 rfl)
      have w_I12_13 := rg (hvI 13 (by decide)) (0) (9) rfl rfl
      have u_I12_14 : (I12 14).toInt = (I6 14).toInt := congrArg Int32.toInt (tIr10 14 rfl)
      have u_I12_15 : (I12 15).toInt = (I6 15).toInt := congrArg Int32.toInt (tIr10 15 rfl)
      have u_I12_16 : (I12 16).toInt = (I6 16).toInt := congrArg Int32.toInt (tIr10 16 rfl)
      have nr10_0 : ((I12 3).toInt ≤ (I12 4).toInt) := by omega
      have nr10_1 : ((I12 4).toInt ≤ (I0 1).toInt) := by omega
      have nr10_2 : ((¬ (I12 2).toInt = 0) → (I12 3).toInt < (I12 4).toInt) := by omega
      have nr10_3 : ((¬ (I0 6).toInt = 0) → (¬ (I12 6).toInt = 0)) := by omega
      have nr10_4 : ((I0 3).toInt ≤ (I12 3).toInt) := by omega
      clear nr4_0 nr4_1 nr4_2 nr4_3 nr4_4
      rw [hQ]
      exact q_v F hr hlk (I12, J13, R14, L15) hP hD hS ⟨hvI, hvR, hsI, hsR, (show ((I12 6).toInt = 0 → (I0 3).toInt < (I12 3).toInt) from by omega), (show ((I12 6).toInt = 0 → 1 ≤ (I12 13).toInt) from by omega), (show ((I12 3).toInt ≤ (I12 4).toInt) from by omega), (show ((I12 4).toInt ≤ (I0 1).toInt) from by omega), (show ((¬ (I12 2).toInt = 0) → (I12 3).toInt < (I12 4).toInt) from by omega), (show ((¬ (I0 6).toInt = 0) → (¬ (I12 6).toInt = 0)) from by omega), (show ((I0 3).toInt ≤ (I12 3).toInt) from by omega), (show (¬ p1.toInt = 3 → RS a 0 I12 (J13 0) R14) from fun h3 => rs_open (R1 := R14) hX hBY (hbg d (by omega)) (by omega) (by omega) (by omega) (by omega) (by omega) (by omega) (by omega) (by omega) (by omega) tIr4 tRr4 F0r4 F6r4 (by rw [F5r10]; exact F7r4) tIr10 tRr10 F0r10 F1r10 F2r10 F3r10 F4r10 (Or.inl ⟨rfl, h3⟩)), (show (∀ v : Int32, 10 ≤ v.toInt → v.toInt ≤ 21 → RS a 0 I12 (J13 0) (va_up R14 31 (upd (R14 31) (((I12 13).toInt - 1).toNat) v))) from fun v v1 v2 => rs_open (R1 := _) hX hBY (hbg d (by omega)) (by omega) (by omega) (by omega) (by omega) (by omega) (by omega) (by omega) (by omega) (by omega) tIr4 tRr4 F0r4 F6r4 (by rw [F5r10]; exact F7r4) tIr10 tRr10 F0r10 F1r10 F2r10 F3r10 F4r10 (Or.inr ⟨v, v1, v2, by rw [show ((I12 13).toInt - 1).toNat = d + 1 from by omega]⟩))⟩ dX12_opens_45 (Nat.le_of_ble_eq_true rfl) (Nat.le_of_ble_eq_true rfl)
    · have gc1 : ¬ ((I_18 6).toInt ≤ 0) := fun q0 => c1 ((tle _ _).mpr q0)
      rw [hQ]
      exact q_v F hr hlk (I_18, J_18, R_18, L_18) hP hD hS ⟨hvI, hvR, hsI, hsR, (show ((I_18 6).toInt = 0 → (I0 3).toInt < (I_18 3).toInt) from by omega), (show ((I_18 6).toInt = 0 → 1 ≤ (I_18 13).toInt) from by omega), (show ((I_18 3).toInt ≤ (I_18 4).toInt) from by omega), (show ((I_18 4).toInt ≤ (I0 1).toInt) from by omega), (show ((¬ (I_18 2).toInt = 0) → (I_18 3).toInt < (I_18 4).toInt) from by omega), (show ((¬ (I0 6).toInt = 0) → (¬ (I_18 6).toInt = 0)) from by omega), (show ((I0 3).toInt ≤ (I_18 3).toInt) from by omega), (show (¬ p1.toInt = 3 → RS a 0 I_18 (J_18 0) R_18) from fun _ h => absurd h (by omega)), (show (∀ v : Int32, 10 ≤ v.toInt → v.toInt ≤ 21 → RS a 0 I_18 (J_18 0) (va_up R_18 31 (upd (R_18 31) (((I_18 13).toInt - 1).toNat) v))) from fun _ _ _ h => absurd h (by omega))⟩ dX12_opens_25 (Nat.le_of_ble_eq_true rfl) (Nat.le_of_ble_eq_true rfl)
  have w_I0_1 := rg (hvI 1 (by decide)) (0) (1800) rfl rfl
  have w_I0_2 := rg (hvI 2 (by decide)) (0) (3) rfl rfl
  have w_I0_3 := rg (hvI 3 (by decide)) (0) (1800) rfl rfl
  have w_I0_4 := rg (hvI 4 (by decide)) (0) (1800) rfl rfl
  have w_I0_5 := rg (hvI 5 (by decide)) (0) (9999) rfl rfl
  have w_I0_6 := rg (hvI 6 (by decide)) (0) (5) rfl rfl
  have w_I0_11 := rg (hvI 11 (by decide)) (0) (1800) rfl rfl
  have w_I0_12 := rg (hvI 12 (by decide)) (0) (1) rfl rfl
  have w_I0_13 := rg (hvI 13 (by decide)) (0) (9) rfl rfl
  have w_I0_14 := rg (hvI 14 (by decide)) (0) (8) rfl rfl
  have w_I0_15 := rg (hvI 15 (by decide)) (0) (499) rfl rfl
  have w_I0_16 := rg (hvI 16 (by decide)) (0) (1) rfl rfl
  refine lv_aload_n hx hb dX12_opens_0 rfl (lv_at hl 0 rfl) ?_
  refine g_get F hK hP 0 (Wm_at0 G g q I0 J0 R0 L0) clX12 51 (by decide) flX12_167 rfl dX12_opens_1 ?_
  have w_I0_14 := rg (hvI0 14 (by decide)) (0) (8) rfl rfl
  refine lv_bipush (v := 8) hx hb dX12_opens_4 (by decide) ?_
  refine lv_icmp_ne (tgt := 18) hx hb dX12_opens_6 (by decide) (fun c16 => ?_) (fun c16 => ?_)
  · have gc16 : ¬ ((I0 14).toInt = 8) := fun q0 => c16 (Int32.toInt_inj.mp q0)
    exact lab_18  I0 J0 R0 L0 _ _ _ hvI hvR hsI hsR (show ((I0 6).toInt = 0 → (I0 14).toInt ≤ 7) from by omega) (show ((I0 3).toInt ≤ (I0 4).toInt) from by omega) (show ((I0 4).toInt ≤ (I0 1).toInt) from by omega) (show ((¬ (I0 2).toInt = 0) → (I0 3).toInt < (I0 4).toInt) from by omega) (show ((¬ (I0 6).toInt = 0) → (¬ (I0 6).toInt = 0)) from by omega) (show ((I0 3).toInt ≤ (I0 3).toInt) from by omega) (show ((I0 6).toInt = 0 → (I0 = I0 ∧ J0 = J0 ∧ R0 = R0)) from fun _ => ⟨rfl, rfl, rfl⟩) hP hD hS (lv_sub hl [0, 1] rfl)
  · have gc16 : (I0 14).toInt = 8 := congrArg Int32.toInt c16
    refine lv_aload_n hx hb dX12_opens_9 rfl (lv_at hl 0 rfl) ?_
    refine lv_iconst (v := 5) hx hb dX12_opens_10 (by decide) ?_
    refine lv_aload_n hx hb dX12_opens_11 rfl (lv_at hl 0 rfl) ?_
    refine g_get F hK hP 0 (Wm_at0 G g q I0 J0 R0 L0) clX12 4 (by decide) flX12_23 rfl dX12_opens_12 ?_
    have w_I0_3 := rg (hvI0 3 (by decide)) (0) (1800) rfl rfl
    refine wvv (As := [.int 5, .int (I0 3)]) (rest := []) (b := (g 45)) (d := 1) F hK hP hD hS hA (s_X12_blame l G g q I0 J0 R0 L0 hvI hvR  5 ((I0 3)) (by decide) (show ((0 : Int) ≤ (I0 3).toInt ∧ (I0 3).toInt ≤ (1800 : Int)) from by omega)) kmV_X12_blame mlX12_240 clX12 rfl 0 (Wm_at0 G g q I0 J0 R0 L0) ⟨(Nat.le_of_ble_eq_true rfl), (Nat.le_of_ble_eq_true rfl)⟩ hl.1 rfl (Nat.le_of_ble_eq_true rfl) dX12_opens_15 (fun u18 H locs hwr17 hP hD hS => ?_)
    obtain ⟨I19, J20, R21, L22⟩ := u18
    replace hP : va_P G.1 vwCl (Wm G g q I19 J20 R21 L22) H := hP
    replace hD : va_D A (Wm G g q I19 J20 R21 L22) := hD
    obtain ⟨hvI, hvR, tIr17, tRr17, F0r17⟩ := hwr17
    replace F0r17 : (¬ (I19 6).toInt = 0) := F0r17
    replace hvI : InvI Wm_lo Wm_hi I19 := hvI
    replace hvR : InvR Wm_rl R21 := hvR
    replace tIr17 : SmF ([6, 7] : List Nat) I0 I19 := tIr17
    replace tRr17 : SmF ([] : List Nat) R0 R21 := tRr17
    have hv_I19 := hvI
    have hsI := smF_tr hsI tIr17 (by decide)
    have hsR := smF_tr hsR tRr17 (by decide)
    have u_I19_1 : (I19 1).toInt = (I0 1).toInt := congrArg Int32.toInt (tIr17 1 rfl)
    have u_I19_2 : (I19 2).toInt = (I0 2).toInt := congrArg Int32.toInt (tIr17 2 rfl)
    have u_I19_3 : (I19 3).toInt = (I0 3).toInt := congrArg Int32.toInt (tIr17 3 rfl)
    have u_I19_4 : (I19 4).toInt = (I0 4).toInt := congrArg Int32.toInt (tIr17 4 rfl)
    have u_I19_5 : (I19 5).toInt = (I0 5).toInt := congrArg Int32.toInt (tIr17 5 rfl)
    have w_I19_6 := rg (hvI 6 (by decide)) (0) (5) rfl rfl
    have u_I19_11 : (I19 11).toInt = (I0 11).toInt := congrArg Int32.toInt (tIr17 11 rfl)
    have u_I19_12 : (I19 12).toInt = (I0 12).toInt := congrArg Int32.toInt (tIr17 12 rfl)
    have u_I19_13 : (I19 13).toInt = (I0 13).toInt := congrArg Int32.toInt (tIr17 13 rfl)
    have u_I19_14 : (I19 14).toInt = (I0 14).toInt := congrArg Int32.toInt (tIr17 14 rfl)
    have u_I19_15 : (I19 15).toInt = (I0 15).toInt := congrArg Int32.toInt (tIr17 15 rfl)
    have u_I19_16 : (I19 16).toInt = (I0 16).toInt := congrArg Int32.toInt (tIr17 16 rfl)
    have nr17_0 : ((I19 3).toInt ≤ (I19 4).toInt) := by omega
    have nr17_1 : ((I19 4).toInt ≤ (I0 1).toInt) := by omega
    have nr17_2 : ((¬ (I19 2).toInt = 0) → (I19 3).toInt < (I19 4).toInt) := by omega
    have nr17_3 : ((¬ (I0 6).toInt = 0) → (¬ (I19 6).toInt = 0)) := by omega
    have nr17_4 : ((I0 3).toInt ≤ (I19 3).toInt) := by omega
    exact lab_18  I19 J20 R21 L22 _ _ _ hvI hvR hsI hsR (show ((I19 6).toInt = 0 → (I19 14).toInt ≤ 7) from by omega) (show ((I19 3).toInt ≤ (I19 4).toInt) from by omega) (show ((I19 4).toInt ≤ (I0 1).toInt) from by omega) (show ((¬ (I19 2).toInt = 0) → (I19 3).toInt < (I19 4).toInt) from by omega) (show ((¬ (I0 6).toInt = 0) → (¬ (I19 6).toInt = 0)) from by omega) (show ((I0 3).toInt ≤ (I19 3).toInt) from by omega) (show ((I19 6).toInt = 0 → (I0 = I19 ∧ J0 = J20 ∧ R0 = R21)) from fun h => absurd h (by omega)) hP hD hS (lv_sub hl [0, 1] rfl)
set_option maxHeartbeats 4000000 in
set_option maxRecDepth 100000 in
theorem s_X12_operand (l : Launch) (G : Gx) (g q : Nat → Nat) (I0 : Nat → Int32) (J0 : Nat → Int64) (R0 : Nat → Nat → Int32) (L0 : Nat → Nat → Int64) (hvI : InvI Wm_lo Wm_hi I0) (hvR : InvR Wm_rl R0)   (hpre0 : ((I0 3).toInt ≤ (I0 4).toInt)) (hpre1 : ((I0 4).toInt ≤ (I0 1).toInt)) (hpre2 : ((¬ (I0 2).toInt = 0) → (I0 3).toInt < (I0 4).toInt)) (hpre3 : ((I0 6).toInt = 0)) (a : Nat) (hRS : RS a 0 I0 (J0 0) R0) : CtI (S := St) l yX12_operand cX12_operand 4 (some .boolean) (rmD 4 0 0) G [.ref (g 45)] (Wm G g q I0 J0 R0 L0) (fun r u => InvI Wm_lo Wm_hi u.1 ∧ InvR Wm_rl u.2.2.1 ∧ SmF ([2, 3, 4, 5, 6, 7, 11, 13, 14, 15] : List Nat) I0 u.1 ∧ SmF ([26, 27, 28, 29, 30, 31, 32, 33] : List Nat) R0 u.2.2.1 ∧ ((0 : Int) ≤ r.toInt ∧ r.toInt ≤ (1 : Int)) ∧ ((u.1 6).toInt = 0 → (I0 3).toInt < (u.1 3).toInt) ∧ ((u.1 3).toInt ≤ (u.1 4).toInt) ∧ ((u.1 4).toInt ≤ (I0 1).toInt) ∧ ((¬ (u.1 2).toInt = 0) → (u.1 3).toInt < (u.1 4).toInt) ∧ ((¬ (I0 6).toInt = 0) → (¬ (u.1 6).toInt = 0)) ∧ ((I0 3).toInt ≤ (u.1 3).toInt) ∧ (RS a (r.toInt : Int).toNat u.1 (u.2.1 0) u.2.2.1) ∧ (KE I0 (R0 26) u.1 (u.2.2.1 26))) (fun u => Wm G g q u.1 u.2.1 u.2.2.1 u.2.2.2) := by
  refine ctI_of (own := RX12) (by decide +kernel) rfl (Nat.le_of_ble_eq_true rfl) ?_
  intro p e s m below meth c A ls F hr hlk hnm hK hP hD hA hS hl
  have hx := F.1
  have hb := F.2.1
  have hown := F.2.2.2.1
  have hl : lv_has ls 4 [(0, .ref (g 45))] := hl
  obtain ⟨Q, hQ⟩ : ∃ Q : State → Prop, Q = MQ below (va_Qi (S := St) (fun r u => InvI Wm_lo Wm_hi u.1 ∧ InvR Wm_rl u.2.2.1 ∧ SmF ([2, 3, 4, 5, 6, 7, 11, 13, 14, 15] : List Nat) I0 u.1 ∧ SmF ([26, 27, 28, 29, 30, 31, 32, 33] : List Nat) R0 u.2.2.1 ∧ ((0 : Int) ≤ r.toInt ∧ r.toInt ≤ (1 : Int)) ∧ ((u.1 6).toInt = 0 → (I0 3).toInt < (u.1 3).toInt) ∧ ((u.1 3).toInt ≤ (u.1 4).toInt) ∧ ((u.1 4).toInt ≤ (I0 1).toInt) ∧ ((¬ (u.1 2).toInt = 0) → (u.1 3).toInt < (u.1 4).toInt) ∧ ((¬ (I0 6).toInt = 0) → (¬ (u.1 6).toInt = 0)) ∧ ((I0 3).toInt ≤ (u.1 3).toInt) ∧ (RS a (r.toInt : Int).toNat u.1 (u.2.1 0) u.2.2.1) ∧ (KE I0 (R0 26) u.1 (u.2.2.1 26))) (BX G A (fun u => Wm G g q u.1 u.2.1 u.2.2.1 u.2.2.2)) A) [.ref (g 45)].toArray s 0 0 A := ⟨_, rfl⟩
  rw [show (MQ below (va_Qi (S := St) (fun r u => InvI Wm_lo Wm_hi u.1 ∧ InvR Wm_rl u.2.2.1 ∧ SmF ([2, 3, 4, 5, 6, 7, 11, 13, 14, 15] : List Nat) I0 u.1 ∧ SmF ([26, 27, 28, 29, 30, 31, 32, 33] : List Nat) R0 u.2.2.1 ∧ ((0 : Int) ≤ r.toInt ∧ r.toInt ≤ (1 : Int)) ∧ ((u.1 6).toInt = 0 → (I0 3).toInt < (u.1 3).toInt) ∧ ((u.1 3).toInt ≤ (u.1 4).toInt) ∧ ((u.1 4).toInt ≤ (I0 1).toInt) ∧ ((¬ (u.1 2).toInt = 0) → (u.1 3).toInt < (u.1 4).toInt) ∧ ((¬ (I0 6).toInt = 0) → (¬ (u.1 6).toInt = 0)) ∧ ((I0 3).toInt ≤ (u.1 3).toInt) ∧ (RS a (r.toInt : Int).toNat u.1 (u.2.1 0) u.2.2.1) ∧ (KE I0 (R0 26) u.1 (u.2.2.1 26))) (BX G A (fun u => Wm G g q u.1 u.2.1 u.2.2.1 u.2.2.2)) A) [.ref (g 45)].toArray s (rmD 4 0 0).cells (rmD 4 0 0).slots A) = Q from hQ.symm]
  have hsI := smF_rf ([2, 3, 4, 5, 6, 7, 11, 13, 14, 15] : List Nat) I0
  have hsR := smF_rf ([26, 27, 28, 29, 30, 31, 32, 33] : List Nat) R0
  have hvI0 := hvI
  have w_I0_1 := rg (hvI 1 (by decide)) (0) (1800) rfl rfl
  have w_I0_2 := rg (hvI 2 (by decide)) (0) (3) rfl rfl
  have w_I0_3 := rg (hvI 3 (by decide)) (0) (1800) rfl rfl
  have w_I0_4 := rg (hvI 4 (by decide)) (0) (1800) rfl rfl
  have w_I0_5 := rg (hvI 5 (by decide)) (0) (9999) rfl rfl
  have w_I0_6 := rg (hvI 6 (by decide)) (0) (5) rfl rfl
  have w_I0_11 := rg (hvI 11 (by decide)) (0) (1800) rfl rfl
  have w_I0_12 := rg (hvI 12 (by decide)) (0) (1) rfl rfl
  have w_I0_13 := rg (hvI 13 (by decide)) (0) (9) rfl rfl
  have w_I0_14 := rg (hvI 14 (by decide)) (0) (8) rfl rfl
  have w_I0_15 := rg (hvI 15 (by decide)) (0) (499) rfl rfl
  have w_I0_16 := rg (hvI 16 (by decide)) (0) (1) rfl rfl
  obtain ⟨d, n, hX, hTL, hWB, hBY⟩ := hRS hpre3
  have hX2 := hX
  obtain ⟨hd, ho, hn, hRB⟩ := hX2
  have hBY2 := hBY
  obtain ⟨hb1, hb2, hb3⟩ := hBY2
  have hom := rx_many hX (by omega) (by omega) (by omega)
  obtain ⟨Rb, eRb⟩ : ∃ y, y = va_up R0 30 (upd (R0 30) d 0) := ⟨_, rfl⟩
  have hXb := rx_beg hX eRb
  have hbb : (Rb 30 d).toInt = 0 := by rw [eRb, va_up_self, up_at]; rfl
  have hBb : BY I0 Rb := by_sm hBY rfl rfl rfl rfl rfl (up_ne eRb (by decide))
  have hTb : TL I0 (Rb 0) := by rw [up_ne eRb (show 0 ≠ 30 by decide)]; exact hTL
  have keb : KE I0 (R0 26) I0 (Rb 26) := ke_sm (ke_rf I0 (R0 26)) rfl rfl (up_ne eRb (by decide))
  have lab_197 : ∀ (a3_197 : Int32) (I_197 : Nat → Int32) (J_197 : Nat → Int64) (R_197 : Nat → Nat → Int32) (L_197 : Nat → Nat → Int64) (H : Heap) (locs : List Loc) (ls : Array Slot), InvI Wm_lo Wm_hi I_197 → InvR Wm_rl R_197 → SmF ([2, 3, 4, 5, 6, 7, 11, 13, 14, 15] : List Nat) I0 I_197 → SmF ([26, 27, 28, 29, 30, 31, 32, 33] : List Nat) R0 R_197 → ((15 : Int) ≤ a3_197.toInt ∧ a3_197.toInt ≤ (16 : Int)) → ((I_197 6).toInt = 0 → (I_197 2).toInt = 3) → ((I_197 13).toInt = (I0 13).toInt) → ((I0 3).toInt < (I_197 3).toInt) → ((I_197 3).toInt ≤ (I_197 4).toInt) → ((I_197 4).toInt ≤ (I0 1).toInt) → ((¬ (I_197 2).toInt = 0) → (I_197 3).toInt < (I_197 4).toInt) → ((¬ (I0 6).toInt = 0) → (¬ (I_197 6).toInt = 0)) → ((I0 3).toInt ≤ (I_197 3).toInt) → (RS a 0 I_197 (J_197 0) R_197) → ((R_197 30 d).toInt = 0) → (KE I0 (R0 26) I_197 (R_197 26)) → va_P G.1 vwCl (Wm G g q I_197 J_197 R_197 L_197) H → va_D A (Wm G g q I_197 J_197 R_197 L_197) → va_S A s.heap H locs → lv_has ls 4 [(0, .ref (g 45)), (3, .int a3_197)] → W p l e (rmD 4 0 0) s m [.ref (g 45)].toArray below meth c H locs 0 0 Q (F0 m 197 ls []) := by
    intro a3_197 I_197 J_197 R_197 L_197 H locs ls hvI hvR hsI hsR y0_197 z0_197 z1_197 z2_197 z3_197 z4_197 z5_197 z6_197 z7_197 xl0_197 xl1_197 xl2_197 hP hD hS hl
    have hv_I_197 := hvI
    have w_I_197_1 := rg (hvI 1 (by decide)) (0) (1800) rfl rfl
    have v_I_197_1 : (I_197 1).toInt = (I0 1).toInt := congrArg Int32.toInt (hsI 1 rfl)
    have w_I_197_2 := rg (hvI 2 (by decide)) (0) (3) rfl rfl
    have w_I_197_3 := rg (hvI 3 (by decide)) (0) (1800) rfl rfl
    have w_I_197_4 := rg (hvI 4 (by decide)) (0) (1800) rfl rfl
    have w_I_197_5 := rg (hvI 5 (by decide)) (0) (9999) rfl rfl
    have w_I_197_6 := rg (hvI 6 (by decide)) (0) (5) rfl rfl
    have w_I_197_11 := rg (hvI 11 (by decide)) (0) (1800) rfl rfl
    have w_I_197_12 := rg (hvI 12 (by decide)) (0) (1) rfl rfl
    have v_I_197_12 : (I_197 12).toInt = (I0 12).toInt := congrArg Int32.toInt (hsI 12 rfl)
    have w_I_197_13 := rg (hvI 13 (by decide)) (0) (9) rfl rfl
    have w_I_197_14 := rg (hvI 14 (by decide)) (0) (8) rfl rfl
    have w_I_197_15 := rg (hvI 15 (by decide)) (0) (499) rfl rfl
    have w_I_197_16 := rg (hvI 16 (by decide)) (0) (1) rfl rfl
    have v_I_197_16 : (I_197 16).toInt = (I0 16).toInt := congrArg Int32.toInt (hsI 16 rfl)
    refine lv_aload_n hx hb dX12_operand_197 rfl (lv_at hl 0 rfl) ?_
    refine lv_iconst (v := 3) hx hb dX12_operand_198 (by decide) ?_
    refine wvv (As := [.int 3]) (rest := []) (b := (g 45)) (d := 3) F hK hP hD hS hA (s_X12_opens l G g q I_197 J_197 R_197 L_197 hvI hvR  3 (by decide) (by first | decide | omega) (by first | decide | omega) (by first | decide | omega) (by first | decide | omega) (by first | decide | omega) (by first | decide | omega) a (xl0_197) (fun k hk => by rw [show k = d from by omega]; exact xl1_197)) kmV_X12_opens mlX12_339 clX12 rfl 0 (Wm_at0 G g q I_197 J_197 R_197 L_197) ⟨(Nat.le_of_ble_eq_true rfl), (Nat.le_of_ble_eq_true rfl)⟩ hl.1 rfl (Nat.le_of_ble_eq_true rfl) dX12_operand_199 (fun u2 H locs hwr1 hP hD hS => ?_)
    obtain ⟨I3, J4, R5, L6⟩ := u2
    replace hP : va_P G.1 vwCl (Wm G g q I3 J4 R5 L6) H := hP
    replace hD : va_D A (Wm G g q I3 J4 R5 L6) := hD
    obtain ⟨hvI, hvR, tIr1, tRr1, F0r1, F1r1, F2r1, F3r1, F4r1, F5r1, F6r1, F7r1, F8r1⟩ := hwr1
    replace F0r1 : ((I3 6).toInt = 0 → (I_197 3).toInt < (I3 3).toInt) := F0r1
    replace F1r1 : ((I3 6).toInt = 0 → 1 ≤ (I3 13).toInt) := F1r1
    replace F2r1 : ((I3 3).toInt ≤ (I3 4).toInt) := F2r1
    replace F3r1 : ((I3 4).toInt ≤ (I_197 1).toInt) := F3r1
    replace F4r1 : ((¬ (I3 2).toInt = 0) → (I3 3).toInt < (I3 4).toInt) := F4r1
    replace F5r1 : ((¬ (I_197 6).toInt = 0) → (¬ (I3 6).toInt = 0)) := F5r1
    replace F6r1 : ((I_197 3).toInt ≤ (I3 3).toInt) := F6r1
    replace F7r1 : (¬ (3 : Int) = 3 → RS a 0 I3 (J4 0) R5) := F7r1
    replace F8r1 : (∀ v : Int32, 10 ≤ v.toInt → v.toInt ≤ 21 → RS a 0 I3 (J4 0) (va_up R5 31 (upd (R5 31) (((I3 13).toInt - 1).toNat) v))) := F8r1
    replace hvI : InvI Wm_lo Wm_hi I3 := hvI
    replace hvR : InvR Wm_rl R5 := hvR
    replace tIr1 : SmF ([2, 3, 4, 5, 6, 7, 13, 14] : List Nat) I_197 I3 := tIr1
    replace tRr1 : SmF ([28, 29, 30, 32] : List Nat) R_197 R5 := tRr1
    have hv_I3 := hvI
    have hsI := smF_tr hsI tIr1 (by decide)
    have hsR := smF_tr hsR tRr1 (by decide)
    have u_I3_1 : (I3 1).toInt = (I_197 1).toInt := congrArg Int32.toInt (tIr1 1 rfl)
    have w_I3_2 := rg (hvI 2 (by decide)) (0) (3) rfl rfl
    have w_I3_3 := rg (hvI 3 (by decide)) (0) (1800) rfl rfl
    have w_I3_4 := rg (hvI 4 (by decide)) (0) (1800) rfl rfl
    have w_I3_5 := rg (hvI 5 (by decide)) (0) (9999) rfl rfl
    have w_I3_6 := rg (hvI 6 (by decide)) (0) (5) rfl rfl
    have u_I3_11 : (I3 11).toInt = (I_197 11).toInt := congrArg Int32.toInt (tIr1 11 rfl)
    have u_I3_12 : (I3 12).toInt = (I_197 12).toInt := congrArg Int32.toInt (tIr1 12 rfl)
    have w_I3_13 := rg (hvI 13 (by decide)) (0) (9) rfl rfl
    have w_I3_14 := rg (hvI 14 (by decide)) (0) (8) rfl rfl
    have u_I3_15 : (I3 15).toInt = (I_197 15).toInt := congrArg Int32.toInt (tIr1 15 rfl)
    have u_I3_16 : (I3 16).toInt = (I_197 16).toInt := congrArg Int32.toInt (tIr1 16 rfl)
    have nr1_0 : ((I3 3).toInt ≤ (I3 4).toInt) := by omega
    have nr1_1 : ((I3 4).toInt ≤ (I0 1).toInt) := by omega
    have nr1_2 : ((¬ (I3 2).toInt = 0) → (I3 3).toInt < (I3 4).toInt) := by omega
    have nr1_3 : ((¬ (I0 6).toInt = 0) → (¬ (I3 6).toInt = 0)) := by omega
    have nr1_4 : ((I0 3).toInt ≤ (I3 3).toInt) := by omega
    clear z3_197 z4_197 z5_197 z6_197 z7_197 F2r1 F3r1 F4r1 F5r1 F6r1
    have ker1 := ke_sm xl2_197 (congrArg Int32.toInt (tIr1 12 rfl)) (congrArg Int32.toInt (tIr1 11 rfl)) (tRr1 26 rfl)
    refine lv_aload_n hx hb dX12_operand_202 rfl (lv_at hl 0 rfl) ?_
    refine g_get F hK hP 0 (Wm_at0 G g q I3 J4 R5 L6) clX12 8 (by decide) flX12_36 rfl dX12_operand_203 ?_
    have w_I3_6 := rg (hv_I3 6 (by decide)) (0) (5) rfl rfl
    refine lv_if_ne (tgt := 221) hx hb dX12_operand_206 (by decide) (fun c7 => ?_) (fun c7 => ?_)
    · have gc7 : ¬ ((I3 6).toInt = 0) := fun q0 => c7 (Int32.toInt_inj.mp q0)
      refine lv_iconst (v := 0) hx hb dX12_operand_221 (by decide) ?_
      rw [hQ]
      exact q_z F hr hlk (I3, J4, R5, L6) hP hD hS ⟨hvI, hvR, hsI, hsR, (show ((0 : Int) ≤ 0 ∧ 0 ≤ (1 : Int)) from by omega), (show ((I3 6).toInt = 0 → (I0 3).toInt < (I3 3).toInt) from by omega), (show ((I3 3).toInt ≤ (I3 4).toInt) from by omega), (show ((I3 4).toInt ≤ (I0 1).toInt) from by omega), (show ((¬ (I3 2).toInt = 0) → (I3 3).toInt < (I3 4).toInt) from by omega), (show ((¬ (I0 6).toInt = 0) → (¬ (I3 6).toInt = 0)) from by omega), (show ((I0 3).toInt ≤ (I3 3).toInt) from by omega), (show (RS a (0 : Int).toNat I3 (J4 0) R5) from (fun h => absurd h (by omega))), (show (KE I0 (R0 26) I3 (R5 26)) from ker1)⟩ dX12_operand_222 (Nat.le_of_ble_eq_true rfl) (Nat.le_of_ble_eq_true rfl) (nar01 (by decide))
    · have gc7 : (I3 6).toInt = 0 := congrArg Int32.toInt c7
      refine lv_aload_n hx hb dX12_operand_209 rfl (lv_at hl 0 rfl) ?_
      refine g_get F hK hP 0 (Wm_at0 G g q I3 J4 R5 L6) clX12 48 (by decide) flX12_158 rfl dX12_operand_210 ?_
      refine lv_aload_n hx hb dX12_operand_213 rfl (lv_at hl 0 rfl) ?_
      refine g_get F hK hP 0 (Wm_at0 G g q I3 J4 R5 L6) clX12 50 (by decide) flX12_164 rfl dX12_operand_214 ?_
      have w_I3_13 := rg (hv_I3 13 (by decide)) (0) (9) rfl rfl
      refine lv_iconst (v := 1) hx hb dX12_operand_217 (by decide) ?_
      refine lv_isub hx hb dX12_operand_218 ?_
      refine lv_topi (fun x8 ex8 => ?_)
      have fx8 : x8.toInt = (I3 13).toInt - 1 := by rw [ex8]; exact t_sub (by show (-2147483648 : Int) ≤ (I3 13).toInt - 1; omega) (by show (I3 13).toInt - 1 ≤ 2147483647; omega)
      refine lv_iload_n hx hb dX12_operand_219 rfl (lv_at hl 1 rfl) ?_
      refine p_row (W1 := fun y => Wm G g q I3 J4 y L6) (n := 31) F hK hP hD hS 35 (Wm_at35 G g q I3 J4 R5 L6) (in_of (by omega)) dX12_operand_220 (Wm_rowR31 G g q I3 J4 R5 L6) (fun R9 H locs eR9 hP hD hS => ?_)
      have hvR : InvR Wm_rl R9 := inv_upR hvR 31 eR9 (upd_in (hvR 31 (by decide)) (show ((0 : Int) ≤ a3_197.toInt ∧ a3_197.toInt ≤ (22 : Int)) from by omega))
      have hsR := smF_up hsR eR9 (by decide)
      have keR9 := ke_sm ker1 rfl rfl (up_ne eR9 (by decide))
      have rsR9 : RS a 0 I3 (J4 0) R9 := by rw [eR9, show Int32.toNatClampNeg x8 = ((I3 13).toInt - 1).toNat from by have := clamp_nn (x := x8) (by omega); omega]; exact F8r1 a3_197 (by omega) (by omega)
      refine lv_iconst (v := 0) hx hb dX12_operand_221 (by decide) ?_
      rw [hQ]
      exact q_z F hr hlk (I3, J4, R9, L6) hP hD hS ⟨hvI, hvR, hsI, hsR, (show ((0 : Int) ≤ 0 ∧ 0 ≤ (1 : Int)) from by omega), (show ((I3 6).toInt = 0 → (I0 3).toInt < (I3 3).toInt) from by omega), (show ((I3 3).toInt ≤ (I3 4).toInt) from by omega), (show ((I3 4).toInt ≤ (I0 1).toInt) from by omega), (show ((¬ (I3 2).toInt = 0) → (I3 3).toInt < (I3 4).toInt) from by omega), (show ((¬ (I0 6).toInt = 0) → (¬ (I3 6).toInt = 0)) from by omega), (show ((I0 3).toInt ≤ (I3 3).toInt) from by omega), (show (RS a (0 : Int).toNat I3 (J4 0) R9) from rsR9), (show (KE I0 (R0 26) I3 (R9 26)) from keR9)⟩ dX12_operand_222 (Nat.le_of_ble_eq_true rfl) (Nat.le_of_ble_eq_true rfl) (nar01 (by decide))
  have lab_174 : ∀ (b0_174 : Int32) (I_174 : Nat → Int32) (J_174 : Nat → Int64) (R_174 : Nat → Nat → Int32) (L_174 : Nat → Nat → Int64) (H : Heap) (locs : List Loc) (ls : Array Slot), InvI Wm_lo Wm_hi I_174 → InvR Wm_rl R_174 → SmF ([2, 3, 4, 5, 6, 7, 11, 13, 14, 15] : List Nat) I0 I_174 → SmF ([26, 27, 28, 29, 30, 31, 32, 33] : List Nat) R0 R_174 → ((15 : Int) ≤ b0_174.toInt ∧ b0_174.toInt ≤ (16 : Int)) → ((I_174 2).toInt = 1) → ((I_174 3).toInt ≤ (I_174 4).toInt) → ((I_174 4).toInt ≤ (I0 1).toInt) → ((¬ (I_174 2).toInt = 0) → (I_174 3).toInt < (I_174 4).toInt) → ((¬ (I0 6).toInt = 0) → (¬ (I_174 6).toInt = 0)) → ((I0 3).toInt ≤ (I_174 3).toInt) → (I0 = I_174 ∧ J0 = J_174 ∧ Rb = R_174) → va_P G.1 vwCl (Wm G g q I_174 J_174 R_174 L_174) H → va_D A (Wm G g q I_174 J_174 R_174 L_174) → va_S A s.heap H locs → lv_has ls 4 [(0, .ref (g 45))] → W p l e (rmD 4 0 0) s m [.ref (g 45)].toArray below meth c H locs 0 0 Q (F0 m 174 ls [.int b0_174]) := by
    intro b0_174 I_174 J_174 R_174 L_174 H locs ls hvI hvR hsI hsR y0_174 z0_174 z1_174 z2_174 z3_174 z4_174 z5_174 xl0_174 hP hD hS hl
    have hv_I_174 := hvI
    have w_I_174_1 := rg (hvI 1 (by decide)) (0) (1800) rfl rfl
    have v_I_174_1 : (I_174 1).toInt = (I0 1).toInt := congrArg Int32.toInt (hsI 1 rfl)
    have w_I_174_2 := rg (hvI 2 (by decide)) (0) (3) rfl rfl
    have w_I_174_3 := rg (hvI 3 (by decide)) (0) (1800) rfl rfl
    have w_I_174_4 := rg (hvI 4 (by decide)) (0) (1800) rfl rfl
    have w_I_174_5 := rg (hvI 5 (by decide)) (0) (9999) rfl rfl
    have w_I_174_6 := rg (hvI 6 (by decide)) (0) (5) rfl rfl
    have w_I_174_11 := rg (hvI 11 (by decide)) (0) (1800) rfl rfl
    have w_I_174_12 := rg (hvI 12 (by decide)) (0) (1) rfl rfl
    have v_I_174_12 : (I_174 12).toInt = (I0 12).toInt := congrArg Int32.toInt (hsI 12 rfl)
    have w_I_174_13 := rg (hvI 13 (by decide)) (0) (9) rfl rfl
    have w_I_174_14 := rg (hvI 14 (by decide)) (0) (8) rfl rfl
    have w_I_174_15 := rg (hvI 15 (by decide)) (0) (499) rfl rfl
    have w_I_174_16 := rg (hvI 16 (by decide)) (0) (1) rfl rfl
    have v_I_174_16 : (I_174 16).toInt = (I0 16).toInt := congrArg Int32.toInt (hsI 16 rfl)
    obtain ⟨qI, qJ, qR⟩ := xl0_174
    subst qI
    subst qJ
    subst qR
    refine lv_istore_n (lv' := [(3, .int b0_174), (0, .ref (g 45))]) hx hb dX12_operand_174 rfl hl (by decide) rfl (fun ls hl => ?_)
    refine lv_aload_n hx hb dX12_operand_175 rfl (lv_at hl 1 rfl) ?_
    refine wvv (As := []) (rest := []) (b := (g 45)) (d := 2) F hK hP hD hS hA (s_X12_ahead2 l G g q I0 J0 Rb L_174 hvI hvR   (by omega) (by omega) (by omega)) kmV_X12_ahead mlX12_247 clX12 rfl 0 (Wm_at0 G g q I0 J0 Rb L_174) ⟨(Nat.le_of_ble_eq_true rfl), (Nat.le_of_ble_eq_true rfl)⟩ hl.1 rfl (Nat.le_of_ble_eq_true rfl) dX12_operand_176 (fun u11 H locs hwr10 hP hD hS => ?_)
    obtain ⟨I12, J13, R14, L15⟩ := u11
    replace hP : va_P G.1 vwCl (Wm G g q I12 J13 R14 L15) H := hP
    replace hD : va_D A (Wm G g q I12 J13 R14 L15) := hD
    obtain ⟨hvI, hvR, tIr10, tRr10, F0r10, F1r10, F2r10, F3r10, F4r10, F5r10, F6r10, F7r10, F8r10⟩ := hwr10
    replace F0r10 : ((I0 4).toInt ≤ (I12 3).toInt) := F0r10
    replace F1r10 : ((I12 3).toInt ≤ (I12 4).toInt) := F1r10
    replace F2r10 : ((I12 4).toInt ≤ (I0 1).toInt) := F2r10
    replace F3r10 : ((¬ (I12 2).toInt = 0) → (I12 3).toInt < (I12 4).toInt) := F3r10
    replace F4r10 : ((¬ (I0 6).toInt = 0) → (¬ (I12 6).toInt = 0)) := F4r10
    replace F5r10 : ((I0 3).toInt ≤ (I12 3).toInt) := F5r10
    replace F6r10 : (TL I12 (Rb 0)) := F6r10
    replace F7r10 : (WB I12 (J13 0)) := F7r10
    replace F8r10 : (TL I0 (Rb 0) → (I0 2).toInt = 1 → (I12 6).toInt = 0 → ((I12 2).toInt = 1 ∨ (I12 2).toInt = 2) → (I0 4).toInt + 1 ≤ (I12 3).toInt) := F8r10
    replace hvI : InvI Wm_lo Wm_hi I12 := hvI
    replace hvR : InvR Wm_rl R14 := hvR
    replace tIr10 : SmF ([2, 3, 4, 5, 6, 7] : List Nat) I0 I12 := tIr10
    replace tRr10 : SmF ([] : List Nat) Rb R14 := tRr10
    have hv_I12 := hvI
    have hsI := smF_tr hsI tIr10 (by decide)
    have hsR := smF_tr hsR tRr10 (by decide)
    have u_I12_1 : (I12 1).toInt = (I0 1).toInt := congrArg Int32.toInt (tIr10 1 rfl)
    have w_I12_2 := rg (hvI 2 (by decide)) (0) (3) rfl rfl
    have w_I12_3 := rg (hvI 3 (by decide)) (0) (1800) rfl rfl
    have w_I12_4 := rg (hvI 4 (by decide)) (0) (1800) rfl rfl
    have w_I12_5 := rg (hvI 5 (by decide)) (0) (9999) rfl rfl
    have w_I12_6 := rg (hvI 6 (by decide)) (0) (5) rfl rfl
    have u_I12_11 : (I12 11).toInt = (I0 11).toInt := congrArg Int32.toInt (tIr10 11 rfl)
    have u_I12_12 : (I12 12).toInt = (I0 12).toInt := congrArg Int32.toInt (tIr10 12 rfl)
    have u_I12_13 : (I12 13).toInt = (I0 13).toInt := congrArg Int32.toInt (tIr10 13 rfl)
    have u_I12_14 : (I12 14).toInt = (I0 14).toInt := congrArg Int32.toInt (tIr10 14 rfl)
    have u_I12_15 : (I12 15).toInt = (I0 15).toInt := congrArg Int32.toInt (tIr10 15 rfl)
    have u_I12_16 : (I12 16).toInt = (I0 16).toInt := congrArg Int32.toInt (tIr10 16 rfl)
    have nr10_0 : ((I12 3).toInt ≤ (I12 4).toInt) := by omega
    have nr10_1 : ((I12 4).toInt ≤ (I0 1).toInt) := by omega
    have nr10_2 : ((¬ (I12 2).toInt = 0) → (I12 3).toInt < (I12 4).toInt) := by omega
    have nr10_3 : ((¬ (I0 6).toInt = 0) → (¬ (I12 6).toInt = 0)) := by omega
    have nr10_4 : ((I0 3).toInt ≤ (I12 3).toInt) := by omega
    clear z1_174 z2_174 z3_174 z4_174 z5_174 F1r10 F2r10 F3r10 F4r10 F5r10
    have ker10 := ke_sm keb (congrArg Int32.toInt (tIr10 12 rfl)) (congrArg Int32.toInt (tIr10 11 rfl)) (tRr10 26 rfl)
    have rsr10 := rs_ahead (rm_id hXb hBb (by omega) (by omega)) tIr10 tRr10 F0r10 F6r10 F7r10 F8r10
    refine lv_aload_n hx hb dX12_operand_179 rfl (lv_at hl 1 rfl) ?_
    refine lv_bipush (v := 40) hx hb dX12_operand_180 (by decide) ?_
    refine wvi (As := [.int 40]) (rest := []) (b := (g 45)) (d := 1) F hK hP hD hS hA (s_X12_isSign2 l G g q I12 J13 R14 L15 hvI hvR  40 (by decide)) kmV_X12_isSign mlX12_244 clX12 rfl 0 (Wm_at0 G g q I12 J13 R14 L15) ⟨(Nat.le_of_ble_eq_true rfl), (Nat.le_of_ble_eq_true rfl)⟩ hl.1 rfl (Nat.le_of_ble_eq_true rfl) dX12_operand_182 (fun r16 u17 H locs hwr16 hP hD hS => ?_)
    obtain ⟨F0r16, F1r16⟩ := hwr16
    replace F0r16 : ((0 : Int) ≤ r16.toInt ∧ r16.toInt ≤ (1 : Int)) := F0r16
    replace F1r16 : ((r16.toInt = 1 ∧ (I12 2).toInt = 3 ∧ (I12 5).toInt = (40 : Int)) ∨ (r16.toInt = 0 ∧ (¬ (I12 2).toInt = 3 ∨ ¬ (I12 5).toInt = (40 : Int)))) := F1r16
    refine lv_if_ne (tgt := 197) hx hb dX12_operand_185 (by decide) (fun c18 => ?_) (fun c18 => ?_)
    · have gc18 : ¬ (r16.toInt = 0) := fun q0 => c18 (Int32.toInt_inj.mp q0)
      exact lab_197 b0_174 I12 J13 R14 L15 _ _ _ hvI hvR hsI hsR (show ((15 : Int) ≤ b0_174.toInt ∧ b0_174.toInt ≤ (16 : Int)) from by omega) (show ((I12 6).toInt = 0 → (I12 2).toInt = 3) from by omega) (show ((I12 13).toInt = (I0 13).toInt) from by omega) (show ((I0 3).toInt < (I12 3).toInt) from by omega) (show ((I12 3).toInt ≤ (I12 4).toInt) from by omega) (show ((I12 4).toInt ≤ (I0 1).toInt) from by omega) (show ((¬ (I12 2).toInt = 0) → (I12 3).toInt < (I12 4).toInt) from by omega) (show ((¬ (I0 6).toInt = 0) → (¬ (I12 6).toInt = 0)) from by omega) (show ((I0 3).toInt ≤ (I12 3).toInt) from by omega) (show (RS a 0 I12 (J13 0) R14) from rsr10) (show ((R14 30 d).toInt = 0) from (congrArg Int32.toInt (congrFun (tRr10 30 rfl) d)).trans hbb) (show (KE I0 (R0 26) I12 (R14 26)) from ker10) hP hD hS (lv_sub hl [1, 0] rfl)
    · have gc18 : r16.toInt = 0 := congrArg Int32.toInt c18
      refine lv_aload_n hx hb dX12_operand_188 rfl (lv_at hl 1 rfl) ?_
      refine lv_iconst (v := 1) hx hb dX12_operand_189 (by decide) ?_
      refine lv_aload_n hx hb dX12_operand_190 rfl (lv_at hl 1 rfl) ?_
      refine g_get F hK hP 0 (Wm_at0 G g q I12 J13 R14 L15) clX12 4 (by decide) flX12_23 rfl dX12_operand_191 ?_
      have w_I12_3 := rg (hv_I12 3 (by decide)) (0) (1800) rfl rfl
      refine wvv (As := [.int 1, .int (I12 3)]) (rest := []) (b := (g 45)) (d := 1) F hK hP hD hS hA (s_X12_blame l G g q I12 J13 R14 L15 hvI hvR  1 ((I12 3)) (by decide) (show ((0 : Int) ≤ (I12 3).toInt ∧ (I12 3).toInt ≤ (1800 : Int)) from by omega)) kmV_X12_blame mlX12_240 clX12 rfl 0 (Wm_at0 G g q I12 J13 R14 L15) ⟨(Nat.le_of_ble_eq_true rfl), (Nat.le_of_ble_eq_true rfl)⟩ hl.1 rfl (Nat.le_of_ble_eq_true rfl) dX12_operand_194 (fun u20 H locs hwr19 hP hD hS => ?_)
      obtain ⟨I21, J22, R23, L24⟩ := u20
      replace hP : va_P G.1 vwCl (Wm G g q I21 J22 R23 L24) H := hP
      replace hD : va_D A (Wm G g q I21 J22 R23 L24) := hD
      obtain ⟨hvI, hvR, tIr19, tRr19, F0r19⟩ := hwr19
      replace F0r19 : (¬ (I21 6).toInt = 0) := F0r19
      replace hvI : InvI Wm_lo Wm_hi I21 := hvI
      replace hvR : InvR Wm_rl R23 := hvR
      replace tIr19 : SmF ([6, 7] : List Nat) I12 I21 := tIr19
      replace tRr19 : SmF ([] : List Nat) R14 R23 := tRr19
      have hv_I21 := hvI
      have hsI := smF_tr hsI tIr19 (by decide)
      have hsR := smF_tr hsR tRr19 (by decide)
      have u_I21_1 : (I21 1).toInt = (I12 1).toInt := congrArg Int32.toInt (tIr19 1 rfl)
      have u_I21_2 : (I21 2).toInt = (I12 2).toInt := congrArg Int32.toInt (tIr19 2 rfl)
      have u_I21_3 : (I21 3).toInt = (I12 3).toInt := congrArg Int32.toInt (tIr19 3 rfl)
      have u_I21_4 : (I21 4).toInt = (I12 4).toInt := congrArg Int32.toInt (tIr19 4 rfl)
      have u_I21_5 : (I21 5).toInt = (I12 5).toInt := congrArg Int32.toInt (tIr19 5 rfl)
      have w_I21_6 := rg (hvI 6 (by decide)) (0) (5) rfl rfl
      have u_I21_11 : (I21 11).toInt = (I12 11).toInt := congrArg Int32.toInt (tIr19 11 rfl)
      have u_I21_12 : (I21 12).toInt = (I12 12).toInt := congrArg Int32.toInt (tIr19 12 rfl)
      have u_I21_13 : (I21 13).toInt = (I12 13).toInt := congrArg Int32.toInt (tIr19 13 rfl)
      have u_I21_14 : (I21 14).toInt = (I12 14).toInt := congrArg Int32.toInt (tIr19 14 rfl)
      have u_I21_15 : (I21 15).toInt = (I12 15).toInt := congrArg Int32.toInt (tIr19 15 rfl)
      have u_I21_16 : (I21 16).toInt = (I12 16).toInt := congrArg Int32.toInt (tIr19 16 rfl)
      have nr19_0 : ((I21 3).toInt ≤ (I21 4).toInt) := by omega
      have nr19_1 : ((I21 4).toInt ≤ (I0 1).toInt) := by omega
      have nr19_2 : ((¬ (I21 2).toInt = 0) → (I21 3).toInt < (I21 4).toInt) := by omega
      have nr19_3 : ((¬ (I0 6).toInt = 0) → (¬ (I21 6).toInt = 0)) := by omega
      have nr19_4 : ((I0 3).toInt ≤ (I21 3).toInt) := by omega
      clear nr10_0 nr10_1 nr10_2 nr10_3 nr10_4
      have ker19 := ke_sm ker10 (congrArg Int32.toInt (tIr19 12 rfl)) (congrArg Int32.toInt (tIr19 11 rfl)) (tRr19 26 rfl)
      exact lab_197 b0_174 I21 J22 R23 L24 _ _ _ hvI hvR hsI hsR (show ((15 : Int) ≤ b0_174.toInt ∧ b0_174.toInt ≤ (16 : Int)) from by omega) (show ((I21 6).toInt = 0 → (I21 2).toInt = 3) from by omega) (show ((I21 13).toInt = (I0 13).toInt) from by omega) (show ((I0 3).toInt < (I21 3).toInt) from by omega) (show ((I21 3).toInt ≤ (I21 4).toInt) from by omega) (show ((I21 4).toInt ≤ (I0 1).toInt) from by omega) (show ((¬ (I21 2).toInt = 0) → (I21 3).toInt < (I21 4).toInt) from by omega) (show ((¬ (I0 6).toInt = 0) → (¬ (I21 6).toInt = 0)) from by omega) (show ((I0 3).toInt ≤ (I21 3).toInt) from by omega) (show (RS a 0 I21 (J22 0) R23) from (fun h => absurd h (by omega))) (show ((R23 30 d).toInt = 0) from (congrArg Int32.toInt (congrFun ((tRr19 30 rfl).trans (tRr10 30 rfl)) d)).trans hbb) (show (KE I0 (R0 26) I21 (R23 26)) from ker19) hP hD hS (lv_sub hl [1, 0] rfl)
  have lab_157 : ∀  (I_157 : Nat → Int32) (J_157 : Nat → Int64) (R_157 : Nat → Nat → Int32) (L_157 : Nat → Nat → Int64) (H : Heap) (locs : List Loc) (ls : Array Slot), InvI Wm_lo Wm_hi I_157 → InvR Wm_rl R_157 → SmF ([2, 3, 4, 5, 6, 7, 11, 13, 14, 15] : List Nat) I0 I_157 → SmF ([26, 27, 28, 29, 30, 31, 32, 33] : List Nat) R0 R_157 → ((I_157 2).toInt = 1) → ((I_157 3).toInt ≤ (I_157 4).toInt) → ((I_157 4).toInt ≤ (I0 1).toInt) → ((¬ (I_157 2).toInt = 0) → (I_157 3).toInt < (I_157 4).toInt) → ((¬ (I0 6).toInt = 0) → (¬ (I_157 6).toInt = 0)) → ((I0 3).toInt ≤ (I_157 3).toInt) → (I0 = I_157 ∧ J0 = J_157 ∧ Rb = R_157) → va_P G.1 vwCl (Wm G g q I_157 J_157 R_157 L_157) H → va_D A (Wm G g q I_157 J_157 R_157 L_157) → va_S A s.heap H locs → lv_has ls 4 [(0, .ref (g 45))] → W p l e (rmD 4 0 0) s m [.ref (g 45)].toArray below meth c H locs 0 0 Q (F0 m 157 ls []) := by
    intro I_157 J_157 R_157 L_157 H locs ls hvI hvR hsI hsR z0_157 z1_157 z2_157 z3_157 z4_157 z5_157 xl0_157 hP hD hS hl
    have hv_I_157 := hvI
    have w_I_157_1 := rg (hvI 1 (by decide)) (0) (1800) rfl rfl
    have v_I_157_1 : (I_157 1).toInt = (I0 1).toInt := congrArg Int32.toInt (hsI 1 rfl)
    have w_I_157_2 := rg (hvI 2 (by decide)) (0) (3) rfl rfl
    have w_I_157_3 := rg (hvI 3 (by decide)) (0) (1800) rfl rfl
    have w_I_157_4 := rg (hvI 4 (by decide)) (0) (1800) rfl rfl
    have w_I_157_5 := rg (hvI 5 (by decide)) (0) (9999) rfl rfl
    have w_I_157_6 := rg (hvI 6 (by decide)) (0) (5) rfl rfl
    have w_I_157_11 := rg (hvI 11 (by decide)) (0) (1800) rfl rfl
    have w_I_157_12 := rg (hvI 12 (by decide)) (0) (1) rfl rfl
    have v_I_157_12 : (I_157 12).toInt = (I0 12).toInt := congrArg Int32.toInt (hsI 12 rfl)
    have w_I_157_13 := rg (hvI 13 (by decide)) (0) (9) rfl rfl
    have w_I_157_14 := rg (hvI 14 (by decide)) (0) (8) rfl rfl
    have w_I_157_15 := rg (hvI 15 (by decide)) (0) (499) rfl rfl
    have w_I_157_16 := rg (hvI 16 (by decide)) (0) (1) rfl rfl
    have v_I_157_16 : (I_157 16).toInt = (I0 16).toInt := congrArg Int32.toInt (hsI 16 rfl)
    obtain ⟨qI, qJ, qR⟩ := xl0_157
    subst qI
    subst qJ
    subst qR
    refine lv_aload_n hx hb dX12_operand_157 rfl (lv_at hl 0 rfl) ?_
    refine lv_ldc2 hx hb hown (F.2.2.2.2 _ clX12_312) dX12_operand_158 ?_
    refine wvi (As := [.long 7170414]) (rest := []) (b := (g 45)) (d := 1) F hK hP hD hS hA (s_X12_isWord2 l G g q I0 J0 Rb L_157 hvI hvR  7170414 ) kmV_X12_isWord mlX12_332 clX12 rfl 0 (Wm_at0 G g q I0 J0 Rb L_157) ⟨(Nat.le_of_ble_eq_true rfl), (Nat.le_of_ble_eq_true rfl)⟩ hl.1 rfl (Nat.le_of_ble_eq_true rfl) dX12_operand_161 (fun r25 u26 H locs hwr25 hP hD hS => ?_)
    obtain ⟨F0r25, F1r25, F2r25⟩ := hwr25
    replace F0r25 : ((0 : Int) ≤ r25.toInt ∧ r25.toInt ≤ (1 : Int)) := F0r25
    replace F1r25 : (r25.toInt = 1 → (I0 2).toInt = 1) := F1r25
    replace F2r25 : (r25.toInt = 1 → J0 0 = 7170414) := F2r25
    refine lv_if_eq (tgt := 172) hx hb dX12_operand_164 (by decide) (fun c27 => ?_) (fun c27 => ?_)
    · have gc27 : r25.toInt = 0 := congrArg Int32.toInt c27
      refine lv_bipush (v := 16) hx hb dX12_operand_172 (by decide) ?_
      exact lab_174 16 I0 J0 Rb L_157 _ _ _ hvI hvR hsI hsR (by decide) (show ((I0 2).toInt = 1) from by omega) (show ((I0 3).toInt ≤ (I0 4).toInt) from by omega) (show ((I0 4).toInt ≤ (I0 1).toInt) from by omega) (show ((¬ (I0 2).toInt = 0) → (I0 3).toInt < (I0 4).toInt) from by omega) (show ((¬ (I0 6).toInt = 0) → (¬ (I0 6).toInt = 0)) from by omega) (show ((I0 3).toInt ≤ (I0 3).toInt) from by omega) (show (I0 = I0 ∧ J0 = J0 ∧ Rb = Rb) from ⟨rfl, rfl, rfl⟩) hP hD hS (lv_sub hl [0] rfl)
    · have gc27 : ¬ (r25.toInt = 0) := fun q0 => c27 (Int32.toInt_inj.mp q0)
      refine lv_bipush (v := 15) hx hb dX12_operand_167 (by decide) ?_
      refine lv_goto (tgt := 174) hx hb dX12_operand_169 (by decide) ?_
      exact lab_174 15 I0 J0 Rb L_157 _ _ _ hvI hvR hsI hsR (by decide) (show ((I0 2).toInt = 1) from by omega) (show ((I0 3).toInt ≤ (I0 4).toInt) from by omega) (show ((I0 4).toInt ≤ (I0 1).toInt) from by omega) (show ((¬ (I0 2).toInt = 0) → (I0 3).toInt < (I0 4).toInt) from by omega) (show ((¬ (I0 6).toInt = 0) → (¬ (I0 6).toInt = 0)) from by omega) (show ((I0 3).toInt ≤ (I0 3).toInt) from by omega) (show (I0 = I0 ∧ J0 = J0 ∧ Rb = Rb) from ⟨rfl, rfl, rfl⟩) hP hD hS (lv_sub hl [0] rfl)
  have lab_321 : ∀ (a3_321 : Int32) (I_321 : Nat → Int32) (J_321 : Nat → Int64) (R_321 : Nat → Nat → Int32) (L_321 : Nat → Nat → Int64) (H : Heap) (locs : List Loc) (ls : Array Slot), InvI Wm_lo Wm_hi I_321 → InvR Wm_rl R_321 → SmF ([2, 3, 4, 5, 6, 7, 11, 13, 14, 15] : List Nat) I0 I_321 → SmF ([26, 27, 28, 29, 30, 31, 32, 33] : List Nat) R0 R_321 → ((-1 : Int) ≤ a3_321.toInt ∧ a3_321.toInt ≤ (5 : Int)) → ((¬ (I_321 6).toInt = 0) ∨ (((I0 2).toInt = 1 ∨ (I0 2).toInt = 2) ∧ 0 ≤ a3_321.toInt)) → ((I_321 3).toInt ≤ (I_321 4).toInt) → ((I_321 4).toInt ≤ (I0 1).toInt) → ((¬ (I_321 2).toInt = 0) → (I_321 3).toInt < (I_321 4).toInt) → ((¬ (I0 6).toInt = 0) → (¬ (I_321 6).toInt = 0)) → ((I0 3).toInt ≤ (I_321 3).toInt) → ((I_321 6).toInt = 0 → (I0 = I_321 ∧ J0 = J_321 ∧ Rb = R_321)) → (KE I0 (R0 26) I_321 (R_321 26)) → va_P G.1 vwCl (Wm G g q I_321 J_321 R_321 L_321) H → va_D A (Wm G g q I_321 J_321 R_321 L_321) → va_S A s.heap H locs → lv_has ls 4 [(0, .ref (g 45)), (3, .int a3_321)] → W p l e (rmD 4 0 0) s m [.ref (g 45)].toArray below meth c H locs 0 0 Q (F0 m 321 ls []) := by
    intro a3_321 I_321 J_321 R_321 L_321 H locs ls hvI hvR hsI hsR y0_321 z0_321 z1_321 z2_321 z3_321 z4_321 z5_321 xl0_321 xl1_321 hP hD hS hl
    have hv_I_321 := hvI
    have w_I_321_1 := rg (hvI 1 (by decide)) (0) (1800) rfl rfl
    have v_I_321_1 : (I_321 1).toInt = (I0 1).toInt := congrArg Int32.toInt (hsI 1 rfl)
    have w_I_321_2 := rg (hvI 2 (by decide)) (0) (3) rfl rfl
    have w_I_321_3 := rg (hvI 3 (by decide)) (0) (1800) rfl rfl
    have w_I_321_4 := rg (hvI 4 (by decide)) (0) (1800) rfl rfl
    have w_I_321_5 := rg (hvI 5 (by decide)) (0) (9999) rfl rfl
    have w_I_321_6 := rg (hvI 6 (by decide)) (0) (5) rfl rfl
    have w_I_321_11 := rg (hvI 11 (by decide)) (0) (1800) rfl rfl
    have w_I_321_12 := rg (hvI 12 (by decide)) (0) (1) rfl rfl
    have v_I_321_12 : (I_321 12).toInt = (I0 12).toInt := congrArg Int32.toInt (hsI 12 rfl)
    have w_I_321_13 := rg (hvI 13 (by decide)) (0) (9) rfl rfl
    have w_I_321_14 := rg (hvI 14 (by decide)) (0) (8) rfl rfl
    have w_I_321_15 := rg (hvI 15 (by decide)) (0) (499) rfl rfl
    have w_I_321_16 := rg (hvI 16 (by decide)) (0) (1) rfl rfl
    have v_I_321_16 : (I_321 16).toInt = (I0 16).toInt := congrArg Int32.toInt (hsI 16 rfl)
    refine lv_aload_n hx hb dX12_operand_321 rfl (lv_at hl 0 rfl) ?_
    refine g_get F hK hP 0 (Wm_at0 G g q I_321 J_321 R_321 L_321) clX12 8 (by decide) flX12_36 rfl dX12_operand_322 ?_
    have w_I_321_6 := rg (hv_I_321 6 (by decide)) (0) (5) rfl rfl
    refine lv_if_le (tgt := 330) hx hb dX12_operand_325 (by decide) (fun c28 => ?_) (fun c28 => ?_)
    · have gc28 : (I_321 6).toInt ≤ 0 := (tle _ _).mp c28
      obtain ⟨qI, qJ, qR⟩ := xl0_321 (by omega)
      subst qI
      subst qJ
      subst qR
      refine lv_aload_n hx hb dX12_operand_330 rfl (lv_at hl 0 rfl) ?_
      refine lv_iload_n hx hb dX12_operand_331 rfl (lv_at hl 1 rfl) ?_
      refine lv_aload_n hx hb dX12_operand_332 rfl (lv_at hl 0 rfl) ?_
      refine g_get F hK hP 0 (Wm_at0 G g q I0 J0 Rb L_321) clX12 6 (by decide) flX12_29 rfl dX12_operand_333 ?_
      have w_I0_5 := rg (hvI0 5 (by decide)) (0) (9999) rfl rfl
      refine wvv (As := [.int a3_321, .int (I0 5)]) (rest := []) (b := (g 45)) (d := 1) F hK hP hD hS hA (s_X12_add l G g q I0 J0 Rb L_321 hvI hvR  a3_321 ((I0 5)) (show ((0 : Int) ≤ a3_321.toInt ∧ a3_321.toInt ≤ (22 : Int)) from by omega) (show ((0 : Int) ≤ (I0 5).toInt ∧ (I0 5).toInt ≤ (9999 : Int)) from by omega) (by omega)) kmV_X12_add mlX12_323 clX12 rfl 0 (Wm_at0 G g q I0 J0 Rb L_321) ⟨(Nat.le_of_ble_eq_true rfl), (Nat.le_of_ble_eq_true rfl)⟩ hl.1 rfl (Nat.le_of_ble_eq_true rfl) dX12_operand_336 (fun u30 H locs hwr29 hP hD hS => ?_)
      obtain ⟨I31, J32, R33, L34⟩ := u30
      replace hP : va_P G.1 vwCl (Wm G g q I31 J32 R33 L34) H := hP
      replace hD : va_D A (Wm G g q I31 J32 R33 L34) := hD
      obtain ⟨hvI, hvR, tIr29, tRr29, F0r29, F1r29⟩ := hwr29
      replace F0r29 : ((I31 11).toInt = (I0 11).toInt + 1) := F0r29
      replace F1r29 : (R33 26 = upd (Rb 26) ((1800 * (I0 12).toInt + (I0 11).toInt).toNat) a3_321) := F1r29
      replace hvI : InvI Wm_lo Wm_hi I31 := hvI
      replace hvR : InvR Wm_rl R33 := hvR
      replace tIr29 : SmF ([11] : List Nat) I0 I31 := tIr29
      replace tRr29 : SmF ([26, 27] : List Nat) Rb R33 := tRr29
      have hv_I31 := hvI
      have hsI := smF_tr hsI tIr29 (by decide)
      have hsR := smF_tr hsR tRr29 (by decide)
      have u_I31_1 : (I31 1).toInt = (I0 1).toInt := congrArg Int32.toInt (tIr29 1 rfl)
      have u_I31_2 : (I31 2).toInt = (I0 2).toInt := congrArg Int32.toInt (tIr29 2 rfl)
      have u_I31_3 : (I31 3).toInt = (I0 3).toInt := congrArg Int32.toInt (tIr29 3 rfl)
      have u_I31_4 : (I31 4).toInt = (I0 4).toInt := congrArg Int32.toInt (tIr29 4 rfl)
      have u_I31_5 : (I31 5).toInt = (I0 5).toInt := congrArg Int32.toInt (tIr29 5 rfl)
      have u_I31_6 : (I31 6).toInt = (I0 6).toInt := congrArg Int32.toInt (tIr29 6 rfl)
      have w_I31_11 := rg (hvI 11 (by decide)) (0) (1800) rfl rfl
      have u_I31_12 : (I31 12).toInt = (I0 12).toInt := congrArg Int32.toInt (tIr29 12 rfl)
      have u_I31_13 : (I31 13).toInt = (I0 13).toInt := congrArg Int32.toInt (tIr29 13 rfl)
      have u_I31_14 : (I31 14).toInt = (I0 14).toInt := congrArg Int32.toInt (tIr29 14 rfl)
      have u_I31_15 : (I31 15).toInt = (I0 15).toInt := congrArg Int32.toInt (tIr29 15 rfl)
      have u_I31_16 : (I31 16).toInt = (I0 16).toInt := congrArg Int32.toInt (tIr29 16 rfl)
      have nr29_0 : ((I31 3).toInt ≤ (I31 4).toInt) := by omega
      have nr29_1 : ((I31 4).toInt ≤ (I0 1).toInt) := by omega
      have nr29_2 : ((¬ (I31 2).toInt = 0) → (I31 3).toInt < (I31 4).toInt) := by omega
      have nr29_3 : ((¬ (I0 6).toInt = 0) → (¬ (I31 6).toInt = 0)) := by omega
      have nr29_4 : ((I0 3).toInt ≤ (I31 3).toInt) := by omega
      clear z1_321 z2_321 z3_321 z4_321 z5_321
      have ker29 := ke_add keb (congrArg Int32.toInt (tIr29 12 rfl)) F0r29 F1r29 (by omega)
      have rmr29 := rm_val (v := a3_321) (R1 := R33) hXb hBb hbb (by omega) (by omega) tIr29 tRr29 F0r29 F1r29 (by omega) (Or.inl rfl)
      refine lv_aload_n hx hb dX12_operand_339 rfl (lv_at hl 0 rfl) ?_
      refine wvv (As := []) (rest := []) (b := (g 45)) (d := 2) F hK hP hD hS hA (s_X12_ahead2 l G g q I31 J32 R33 L34 hvI hvR   (by omega) (by omega) (by omega)) kmV_X12_ahead mlX12_247 clX12 rfl 0 (Wm_at0 G g q I31 J32 R33 L34) ⟨(Nat.le_of_ble_eq_true rfl), (Nat.le_of_ble_eq_true rfl)⟩ hl.1 rfl (Nat.le_of_ble_eq_true rfl) dX12_operand_340 (fun u36 H locs hwr35 hP hD hS => ?_)
      obtain ⟨I37, J38, R39, L40⟩ := u36
      replace hP : va_P G.1 vwCl (Wm G g q I37 J38 R39 L40) H := hP
      replace hD : va_D A (Wm G g q I37 J38 R39 L40) := hD
      obtain ⟨hvI, hvR, tIr35, tRr35, F0r35, F1r35, F2r35, F3r35, F4r35, F5r35, F6r35, F7r35, F8r35⟩ := hwr35
      replace F0r35 : ((I31 4).toInt ≤ (I37 3).toInt) := F0r35
      replace F1r35 : ((I37 3).toInt ≤ (I37 4).toInt) := F1r35
      replace F2r35 : ((I37 4).toInt ≤ (I31 1).toInt) := F2r35
      replace F3r35 : ((¬ (I37 2).toInt = 0) → (I37 3).toInt < (I37 4).toInt) := F3r35
      replace F4r35 : ((¬ (I31 6).toInt = 0) → (¬ (I37 6).toInt = 0)) := F4r35
      replace F5r35 : ((I31 3).toInt ≤ (I37 3).toInt) := F5r35
      replace F6r35 : (TL I37 (R33 0)) := F6r35
      replace F7r35 : (WB I37 (J38 0)) := F7r35
      replace F8r35 : (TL I31 (R33 0) → (I31 2).toInt = 1 → (I37 6).toInt = 0 → ((I37 2).toInt = 1 ∨ (I37 2).toInt = 2) → (I31 4).toInt + 1 ≤ (I37 3).toInt) := F8r35
      replace hvI : InvI Wm_lo Wm_hi I37 := hvI
      replace hvR : InvR Wm_rl R39 := hvR
      replace tIr35 : SmF ([2, 3, 4, 5, 6, 7] : List Nat) I31 I37 := tIr35
      replace tRr35 : SmF ([] : List Nat) R33 R39 := tRr35
      have hv_I37 := hvI
      have hsI := smF_tr hsI tIr35 (by decide)
      have hsR := smF_tr hsR tRr35 (by decide)
      have u_I37_1 : (I37 1).toInt = (I31 1).toInt := congrArg Int32.toInt (tIr35 1 rfl)
      have w_I37_2 := rg (hvI 2 (by decide)) (0) (3) rfl rfl
      have w_I37_3 := rg (hvI 3 (by decide)) (0) (1800) rfl rfl
      have w_I37_4 := rg (hvI 4 (by decide)) (0) (1800) rfl rfl
      have w_I37_5 := rg (hvI 5 (by decide)) (0) (9999) rfl rfl
      have w_I37_6 := rg (hvI 6 (by decide)) (0) (5) rfl rfl
      have u_I37_11 : (I37 11).toInt = (I31 11).toInt := congrArg Int32.toInt (tIr35 11 rfl)
      have u_I37_12 : (I37 12).toInt = (I31 12).toInt := congrArg Int32.toInt (tIr35 12 rfl)
      have u_I37_13 : (I37 13).toInt = (I31 13).toInt := congrArg Int32.toInt (tIr35 13 rfl)
      have u_I37_14 : (I37 14).toInt = (I31 14).toInt := congrArg Int32.toInt (tIr35 14 rfl)
      have u_I37_15 : (I37 15).toInt = (I31 15).toInt := congrArg Int32.toInt (tIr35 15 rfl)
      have u_I37_16 : (I37 16).toInt = (I31 16).toInt := congrArg Int32.toInt (tIr35 16 rfl)
      have nr35_0 : ((I37 3).toInt ≤ (I37 4).toInt) := by omega
      have nr35_1 : ((I37 4).toInt ≤ (I0 1).toInt) := by omega
      have nr35_2 : ((¬ (I37 2).toInt = 0) → (I37 3).toInt < (I37 4).toInt) := by omega
      have nr35_3 : ((¬ (I0 6).toInt = 0) → (¬ (I37 6).toInt = 0)) := by omega
      have nr35_4 : ((I0 3).toInt ≤ (I37 3).toInt) := by omega
      clear nr29_0 nr29_1 nr29_2 nr29_3 nr29_4 F1r35 F2r35 F3r35 F4r35 F5r35
      have ker35 := ke_sm ker29 (congrArg Int32.toInt (tIr35 12 rfl)) (congrArg Int32.toInt (tIr35 11 rfl)) (tRr35 26 rfl)
      have rsr35 := rs_ahead rmr29 tIr35 tRr35 F0r35 F6r35 F7r35 F8r35
      refine lv_iconst (v := 1) hx hb dX12_operand_343 (by decide) ?_
      rw [hQ]
      exact q_z F hr hlk (I37, J38, R39, L40) hP hD hS ⟨hvI, hvR, hsI, hsR, (show ((0 : Int) ≤ 1 ∧ 1 ≤ (1 : Int)) from by omega), (show ((I37 6).toInt = 0 → (I0 3).toInt < (I37 3).toInt) from by omega), (show ((I37 3).toInt ≤ (I37 4).toInt) from by omega), (show ((I37 4).toInt ≤ (I0 1).toInt) from by omega), (show ((¬ (I37 2).toInt = 0) → (I37 3).toInt < (I37 4).toInt) from by omega), (show ((¬ (I0 6).toInt = 0) → (¬ (I37 6).toInt = 0)) from by omega), (show ((I0 3).toInt ≤ (I37 3).toInt) from by omega), (show (RS a (1 : Int).toNat I37 (J38 0) R39) from rsr35), (show (KE I0 (R0 26) I37 (R39 26)) from ker35)⟩ dX12_operand_344 (Nat.le_of_ble_eq_true rfl) (Nat.le_of_ble_eq_true rfl) (nar01 (by decide))
    · have gc28 : ¬ ((I_321 6).toInt ≤ 0) := fun q0 => c28 ((tle _ _).mpr q0)
      refine lv_iconst (v := 1) hx hb dX12_operand_328 (by decide) ?_
      rw [hQ]
      exact q_z F hr hlk (I_321, J_321, R_321, L_321) hP hD hS ⟨hvI, hvR, hsI, hsR, (show ((0 : Int) ≤ 1 ∧ 1 ≤ (1 : Int)) from by omega), (show ((I_321 6).toInt = 0 → (I0 3).toInt < (I_321 3).toInt) from by omega), (show ((I_321 3).toInt ≤ (I_321 4).toInt) from by omega), (show ((I_321 4).toInt ≤ (I0 1).toInt) from by omega), (show ((¬ (I_321 2).toInt = 0) → (I_321 3).toInt < (I_321 4).toInt) from by omega), (show ((¬ (I0 6).toInt = 0) → (¬ (I_321 6).toInt = 0)) from by omega), (show ((I0 3).toInt ≤ (I_321 3).toInt) from by omega), (show (RS a (1 : Int).toNat I_321 (J_321 0) R_321) from fun h => absurd h (by omega)), (show (KE I0 (R0 26) I_321 (R_321 26)) from xl1_321)⟩ dX12_operand_329 (Nat.le_of_ble_eq_true rfl) (Nat.le_of_ble_eq_true rfl) (nar01 (by decide))
  have lab_306 : ∀ (b0_306 : Int32) (I_306 : Nat → Int32) (J_306 : Nat → Int64) (R_306 : Nat → Nat → Int32) (L_306 : Nat → Nat → Int64) (H : Heap) (locs : List Loc) (ls : Array Slot), InvI Wm_lo Wm_hi I_306 → InvR Wm_rl R_306 → SmF ([2, 3, 4, 5, 6, 7, 11, 13, 14, 15] : List Nat) I0 I_306 → SmF ([26, 27, 28, 29, 30, 31, 32, 33] : List Nat) R0 R_306 → ((-1 : Int) ≤ b0_306.toInt ∧ b0_306.toInt ≤ (5 : Int)) → (b0_306.toInt = -1 ∨ (I_306 2).toInt = 1 ∨ (I_306 2).toInt = 2) → ((I_306 3).toInt ≤ (I_306 4).toInt) → ((I_306 4).toInt ≤ (I0 1).toInt) → ((¬ (I_306 2).toInt = 0) → (I_306 3).toInt < (I_306 4).toInt) → ((¬ (I0 6).toInt = 0) → (¬ (I_306 6).toInt = 0)) → ((I0 3).toInt ≤ (I_306 3).toInt) → (I0 = I_306 ∧ J0 = J_306 ∧ Rb = R_306) → va_P G.1 vwCl (Wm G g q I_306 J_306 R_306 L_306) H → va_D A (Wm G g q I_306 J_306 R_306 L_306) → va_S A s.heap H locs → lv_has ls 4 [(0, .ref (g 45))] → W p l e (rmD 4 0 0) s m [.ref (g 45)].toArray below meth c H locs 0 0 Q (F0 m 306 ls [.int b0_306]) := by
    intro b0_306 I_306 J_306 R_306 L_306 H locs ls hvI hvR hsI hsR y0_306 z0_306 z1_306 z2_306 z3_306 z4_306 z5_306 xl0_306 hP hD hS hl
    have hv_I_306 := hvI
    have w_I_306_1 := rg (hvI 1 (by decide)) (0) (1800) rfl rfl
    have v_I_306_1 : (I_306 1).toInt = (I0 1).toInt := congrArg Int32.toInt (hsI 1 rfl)
    have w_I_306_2 := rg (hvI 2 (by decide)) (0) (3) rfl rfl
    have w_I_306_3 := rg (hvI 3 (by decide)) (0) (1800) rfl rfl
    have w_I_306_4 := rg (hvI 4 (by decide)) (0) (1800) rfl rfl
    have w_I_306_5 := rg (hvI 5 (by decide)) (0) (9999) rfl rfl
    have w_I_306_6 := rg (hvI 6 (by decide)) (0) (5) rfl rfl
    have w_I_306_11 := rg (hvI 11 (by decide)) (0) (1800) rfl rfl
    have w_I_306_12 := rg (hvI 12 (by decide)) (0) (1) rfl rfl
    have v_I_306_12 : (I_306 12).toInt = (I0 12).toInt := congrArg Int32.toInt (hsI 12 rfl)
    have w_I_306_13 := rg (hvI 13 (by decide)) (0) (9) rfl rfl
    have w_I_306_14 := rg (hvI 14 (by decide)) (0) (8) rfl rfl
    have w_I_306_15 := rg (hvI 15 (by decide)) (0) (499) rfl rfl
    have w_I_306_16 := rg (hvI 16 (by decide)) (0) (1) rfl rfl
    have v_I_306_16 : (I_306 16).toInt = (I0 16).toInt := congrArg Int32.toInt (hsI 16 rfl)
    obtain ⟨qI, qJ, qR⟩ := xl0_306
    subst qI
    subst qJ
    subst qR
    refine lv_istore_n (lv' := [(3, .int b0_306), (0, .ref (g 45))]) hx hb dX12_operand_306 rfl hl (by decide) rfl (fun ls hl => ?_)
    refine lv_iload_n hx hb dX12_operand_307 rfl (lv_at hl 0 rfl) ?_
    refine lv_iconst (v := (-1)) hx hb dX12_operand_308 (by decide) ?_
    refine lv_icmp_ne (tgt := 321) hx hb dX12_operand_309 (by decide) (fun c41 => ?_) (fun c41 => ?_)
    · have gc41 : ¬ (b0_306.toInt = (-1)) := fun q0 => c41 (Int32.toInt_inj.mp q0)
      exact lab_321 b0_306 I0 J0 Rb L_306 _ _ _ hvI hvR hsI hsR (show ((-1 : Int) ≤ b0_306.toInt ∧ b0_306.toInt ≤ (5 : Int)) from by omega) (show ((¬ (I0 6).toInt = 0) ∨ (((I0 2).toInt = 1 ∨ (I0 2).toInt = 2) ∧ 0 ≤ b0_306.toInt)) from by omega) (show ((I0 3).toInt ≤ (I0 4).toInt) from by omega) (show ((I0 4).toInt ≤ (I0 1).toInt) from by omega) (show ((¬ (I0 2).toInt = 0) → (I0 3).toInt < (I0 4).toInt) from by omega) (show ((¬ (I0 6).toInt = 0) → (¬ (I0 6).toInt = 0)) from by omega) (show ((I0 3).toInt ≤ (I0 3).toInt) from by omega) (show ((I0 6).toInt = 0 → (I0 = I0 ∧ J0 = J0 ∧ Rb = Rb)) from fun _ => ⟨rfl, rfl, rfl⟩) (show (KE I0 (R0 26) I0 (Rb 26)) from keb) hP hD hS (lv_sub hl [1, 0] rfl)
    · have gc41 : b0_306.toInt = (-1) := congrArg Int32.toInt c41
      refine lv_aload_n hx hb dX12_operand_312 rfl (lv_at hl 1 rfl) ?_
      refine lv_iconst (v := 1) hx hb dX12_operand_313 (by decide) ?_
      refine lv_aload_n hx hb dX12_operand_314 rfl (lv_at hl 1 rfl) ?_
      refine g_get F hK hP 0 (Wm_at0 G g q I0 J0 Rb L_306) clX12 4 (by decide) flX12_23 rfl dX12_operand_315 ?_
      have w_I0_3 := rg (hvI0 3 (by decide)) (0) (1800) rfl rfl
      refine wvv (As := [.int 1, .int (I0 3)]) (rest := []) (b := (g 45)) (d := 1) F hK hP hD hS hA (s_X12_blame l G g q I0 J0 Rb L_306 hvI hvR  1 ((I0 3)) (by decide) (show ((0 : Int) ≤ (I0 3).toInt ∧ (I0 3).toInt ≤ (1800 : Int)) from by omega)) kmV_X12_blame mlX12_240 clX12 rfl 0 (Wm_at0 G g q I0 J0 Rb L_306) ⟨(Nat.le_of_ble_eq_true rfl), (Nat.le_of_ble_eq_true rfl)⟩ hl.1 rfl (Nat.le_of_ble_eq_true rfl) dX12_operand_318 (fun u43 H locs hwr42 hP hD hS => ?_)
      obtain ⟨I44, J45, R46, L47⟩ := u43
      replace hP : va_P G.1 vwCl (Wm G g q I44 J45 R46 L47) H := hP
      replace hD : va_D A (Wm G g q I44 J45 R46 L47) := hD
      obtain ⟨hvI, hvR, tIr42, tRr42, F0r42⟩ := hwr42
      replace F0r42 : (¬ (I44 6).toInt = 0) := F0r42
      replace hvI : InvI Wm_lo Wm_hi I44 := hvI
      replace hvR : InvR Wm_rl R46 := hvR
      replace tIr42 : SmF ([6, 7] : List Nat) I0 I44 := tIr42
      replace tRr42 : SmF ([] : List Nat) Rb R46 := tRr42
      have hv_I44 := hvI
      have hsI := smF_tr hsI tIr42 (by decide)
      have hsR := smF_tr hsR tRr42 (by decide)
      have u_I44_1 : (I44 1).toInt = (I0 1).toInt := congrArg Int32.toInt (tIr42 1 rfl)
      have u_I44_2 : (I44 2).toInt = (I0 2).toInt := congrArg Int32.toInt (tIr42 2 rfl)
      have u_I44_3 : (I44 3).toInt = (I0 3).toInt := congrArg Int32.toInt (tIr42 3 rfl)
      have u_I44_4 : (I44 4).toInt = (I0 4).toInt := congrArg Int32.toInt (tIr42 4 rfl)
      have u_I44_5 : (I44 5).toInt = (I0 5).toInt := congrArg Int32.toInt (tIr42 5 rfl)
      have w_I44_6 := rg (hvI 6 (by decide)) (0) (5) rfl rfl
      have u_I44_11 : (I44 11).toInt = (I0 11).toInt := congrArg Int32.toInt (tIr42 11 rfl)
      have u_I44_12 : (I44 12).toInt = (I0 12).toInt := congrArg Int32.toInt (tIr42 12 rfl)
      have u_I44_13 : (I44 13).toInt = (I0 13).toInt := congrArg Int32.toInt (tIr42 13 rfl)
      have u_I44_14 : (I44 14).toInt = (I0 14).toInt := congrArg Int32.toInt (tIr42 14 rfl)
      have u_I44_15 : (I44 15).toInt = (I0 15).toInt := congrArg Int32.toInt (tIr42 15 rfl)
      have u_I44_16 : (I44 16).toInt = (I0 16).toInt := congrArg Int32.toInt (tIr42 16 rfl)
      have nr42_0 : ((I44 3).toInt ≤ (I44 4).toInt) := by omega
      have nr42_1 : ((I44 4).toInt ≤ (I0 1).toInt) := by omega
      have nr42_2 : ((¬ (I44 2).toInt = 0) → (I44 3).toInt < (I44 4).toInt) := by omega
      have nr42_3 : ((¬ (I0 6).toInt = 0) → (¬ (I44 6).toInt = 0)) := by omega
      have nr42_4 : ((I0 3).toInt ≤ (I44 3).toInt) := by omega
      clear z1_306 z2_306 z3_306 z4_306 z5_306
      have ker42 := ke_sm keb (congrArg Int32.toInt (tIr42 12 rfl)) (congrArg Int32.toInt (tIr42 11 rfl)) (tRr42 26 rfl)
      exact lab_321 b0_306 I44 J45 R46 L47 _ _ _ hvI hvR hsI hsR (show ((-1 : Int) ≤ b0_306.toInt ∧ b0_306.toInt ≤ (5 : Int)) from by omega) (show ((¬ (I44 6).toInt = 0) ∨ (((I0 2).toInt = 1 ∨ (I0 2).toInt = 2) ∧ 0 ≤ b0_306.toInt)) from by omega) (show ((I44 3).toInt ≤ (I44 4).toInt) from by omega) (show ((I44 4).toInt ≤ (I0 1).toInt) from by omega) (show ((¬ (I44 2).toInt = 0) → (I44 3).toInt < (I44 4).toInt) from by omega) (show ((¬ (I0 6).toInt = 0) → (¬ (I44 6).toInt = 0)) from by omega) (show ((I0 3).toInt ≤ (I44 3).toInt) from by omega) (show ((I44 6).toInt = 0 → (I0 = I44 ∧ J0 = J45 ∧ Rb = R46)) from fun h => absurd h (by omega)) (show (KE I0 (R0 26) I44 (R46 26)) from ker42) hP hD hS (lv_sub hl [1, 0] rfl)
  have lab_121 : ∀  (I_121 : Nat → Int32) (J_121 : Nat → Int64) (R_121 : Nat → Nat → Int32) (L_121 : Nat → Nat → Int64) (H : Heap) (locs : List Loc) (ls : Array Slot), InvI Wm_lo Wm_hi I_121 → InvR Wm_rl R_121 → SmF ([2, 3, 4, 5, 6, 7, 11, 13, 14, 15] : List Nat) I0 I_121 → SmF ([26, 27, 28, 29, 30, 31, 32, 33] : List Nat) R0 R_121 → ((I_121 3).toInt ≤ (I_121 4).toInt) → ((I_121 4).toInt ≤ (I0 1).toInt) → ((¬ (I_121 2).toInt = 0) → (I_121 3).toInt < (I_121 4).toInt) → ((¬ (I0 6).toInt = 0) → (¬ (I_121 6).toInt = 0)) → ((I0 3).toInt ≤ (I_121 3).toInt) → (I0 = I_121 ∧ J0 = J_121 ∧ Rb = R_121) → va_P G.1 vwCl (Wm G g q I_121 J_121 R_121 L_121) H → va_D A (Wm G g q I_121 J_121 R_121 L_121) → va_S A s.heap H locs → lv_has ls 4 [(0, .ref (g 45))] → W p l e (rmD 4 0 0) s m [.ref (g 45)].toArray below meth c H locs 0 0 Q (F0 m 121 ls []) := by
    intro I_121 J_121 R_121 L_121 H locs ls hvI hvR hsI hsR z0_121 z1_121 z2_121 z3_121 z4_121 xl0_121 hP hD hS hl
    have hv_I_121 := hvI
    have w_I_121_1 := rg (hvI 1 (by decide)) (0) (1800) rfl rfl
    have v_I_121_1 : (I_121 1).toInt = (I0 1).toInt := congrArg Int32.toInt (hsI 1 rfl)
    have w_I_121_2 := rg (hvI 2 (by decide)) (0) (3) rfl rfl
    have w_I_121_3 := rg (hvI 3 (by decide)) (0) (1800) rfl rfl
    have w_I_121_4 := rg (hvI 4 (by decide)) (0) (1800) rfl rfl
    have w_I_121_5 := rg (hvI 5 (by decide)) (0) (9999) rfl rfl
    have w_I_121_6 := rg (hvI 6 (by decide)) (0) (5) rfl rfl
    have w_I_121_11 := rg (hvI 11 (by decide)) (0) (1800) rfl rfl
    have w_I_121_12 := rg (hvI 12 (by decide)) (0) (1) rfl rfl
    have v_I_121_12 : (I_121 12).toInt = (I0 12).toInt := congrArg Int32.toInt (hsI 12 rfl)
    have w_I_121_13 := rg (hvI 13 (by decide)) (0) (9) rfl rfl
    have w_I_121_14 := rg (hvI 14 (by decide)) (0) (8) rfl rfl
    have w_I_121_15 := rg (hvI 15 (by decide)) (0) (499) rfl rfl
    have w_I_121_16 := rg (hvI 16 (by decide)) (0) (1) rfl rfl
    have v_I_121_16 : (I_121 16).toInt = (I0 16).toInt := congrArg Int32.toInt (hsI 16 rfl)
    obtain ⟨qI, qJ, qR⟩ := xl0_121
    subst qI
    subst qJ
    subst qR
    refine lv_aload_n hx hb dX12_operand_121 rfl (lv_at hl 0 rfl) ?_
    refine lv_bipush (v := 40) hx hb dX12_operand_122 (by decide) ?_
    refine wvi (As := [.int 40]) (rest := []) (b := (g 45)) (d := 1) F hK hP hD hS hA (s_X12_isSign2 l G g q I0 J0 Rb L_121 hvI hvR  40 (by decide)) kmV_X12_isSign mlX12_244 clX12 rfl 0 (Wm_at0 G g q I0 J0 Rb L_121) ⟨(Nat.le_of_ble_eq_true rfl), (Nat.le_of_ble_eq_true rfl)⟩ hl.1 rfl (Nat.le_of_ble_eq_true rfl) dX12_operand_124 (fun r48 u49 H locs hwr48 hP hD hS => ?_)
    obtain ⟨F0r48, F1r48⟩ := hwr48
    replace F0r48 : ((0 : Int) ≤ r48.toInt ∧ r48.toInt ≤ (1 : Int)) := F0r48
    replace F1r48 : ((r48.toInt = 1 ∧ (I0 2).toInt = 3 ∧ (I0 5).toInt = (40 : Int)) ∨ (r48.toInt = 0 ∧ (¬ (I0 2).toInt = 3 ∨ ¬ (I0 5).toInt = (40 : Int)))) := F1r48
    refine lv_if_eq (tgt := 137) hx hb dX12_operand_127 (by decide) (fun c50 => ?_) (fun c50 => ?_)
    · have gc50 : r48.toInt = 0 := congrArg Int32.toInt c50
      refine lv_aload_n hx hb dX12_operand_137 rfl (lv_at hl 0 rfl) ?_
      refine lv_ldc2 hx hb hown (F.2.2.2.2 _ clX12_312) dX12_operand_138 ?_
      refine wvi (As := [.long 7170414]) (rest := []) (b := (g 45)) (d := 1) F hK hP hD hS hA (s_X12_isWord2 l G g q I0 J0 Rb L_121 hvI hvR  7170414 ) kmV_X12_isWord mlX12_332 clX12 rfl 0 (Wm_at0 G g q I0 J0 Rb L_121) ⟨(Nat.le_of_ble_eq_true rfl), (Nat.le_of_ble_eq_true rfl)⟩ hl.1 rfl (Nat.le_of_ble_eq_true rfl) dX12_operand_141 (fun r51 u52 H locs hwr51 hP hD hS => ?_)
      obtain ⟨F0r51, F1r51, F2r51⟩ := hwr51
      replace F0r51 : ((0 : Int) ≤ r51.toInt ∧ r51.toInt ≤ (1 : Int)) := F0r51
      replace F1r51 : (r51.toInt = 1 → (I0 2).toInt = 1) := F1r51
      replace F2r51 : (r51.toInt = 1 → J0 0 = 7170414) := F2r51
      refine lv_if_ne (tgt := 157) hx hb dX12_operand_144 (by decide) (fun c53 => ?_) (fun c53 => ?_)
      · have gc53 : ¬ (r51.toInt = 0) := fun q0 => c53 (Int32.toInt_inj.mp q0)
        exact lab_157  I0 J0 Rb L_121 _ _ _ hvI hvR hsI hsR (show ((I0 2).toInt = 1) from by omega) (show ((I0 3).toInt ≤ (I0 4).toInt) from by omega) (show ((I0 4).toInt ≤ (I0 1).toInt) from by omega) (show ((¬ (I0 2).toInt = 0) → (I0 3).toInt < (I0 4).toInt) from by omega) (show ((¬ (I0 6).toInt = 0) → (¬ (I0 6).toInt = 0)) from by omega) (show ((I0 3).toInt ≤ (I0 3).toInt) from by omega) (show (I0 = I0 ∧ J0 = J0 ∧ Rb = Rb) from ⟨rfl, rfl, rfl⟩) hP hD hS (lv_sub hl [0] rfl)
      · have gc53 : r51.toInt = 0 := congrArg Int32.toInt c53
        refine lv_aload_n hx hb dX12_operand_147 rfl (lv_at hl 0 rfl) ?_
        refine lv_ldc2 hx hb hown (F.2.2.2.2 _ clX12_314) dX12_operand_148 ?_
        refine wvi (As := [.long 7168376]) (rest := []) (b := (g 45)) (d := 1) F hK hP hD hS hA (s_X12_isWord2 l G g q I0 J0 Rb L_121 hvI hvR  7168376 ) kmV_X12_isWord mlX12_332 clX12 rfl 0 (Wm_at0 G g q I0 J0 Rb L_121) ⟨(Nat.le_of_ble_eq_true rfl), (Nat.le_of_ble_eq_true rfl)⟩ hl.1 rfl (Nat.le_of_ble_eq_true rfl) dX12_operand_151 (fun r54 u55 H locs hwr54 hP hD hS => ?_)
        obtain ⟨F0r54, F1r54, F2r54⟩ := hwr54
        replace F0r54 : ((0 : Int) ≤ r54.toInt ∧ r54.toInt ≤ (1 : Int)) := F0r54
        replace F1r54 : (r54.toInt = 1 → (I0 2).toInt = 1) := F1r54
        replace F2r54 : (r54.toInt = 1 → J0 0 = 7168376) := F2r54
        refine lv_if_eq (tgt := 223) hx hb dX12_operand_154 (by decide) (fun c56 => ?_) (fun c56 => ?_)
        · have gc56 : r54.toInt = 0 := congrArg Int32.toInt c56
          refine lv_aload_n hx hb dX12_operand_223 rfl (lv_at hl 0 rfl) ?_
          refine g_get F hK hP 0 (Wm_at0 G g q I0 J0 Rb L_121) clX12 3 (by decide) flX12_20 rfl dX12_operand_224 ?_
          have w_I0_2 := rg (hvI0 2 (by decide)) (0) (3) rfl rfl
          refine lv_iconst (v := 2) hx hb dX12_operand_227 (by decide) ?_
          refine lv_icmp_ne (tgt := 235) hx hb dX12_operand_228 (by decide) (fun c57 => ?_) (fun c57 => ?_)
          · have gc57 : ¬ ((I0 2).toInt = 2) := fun q0 => c57 (Int32.toInt_inj.mp q0)
            refine lv_aload_n hx hb dX12_operand_235 rfl (lv_at hl 0 rfl) ?_
            refine lv_ldc2 hx hb hown (F.2.2.2.2 _ clX12_304) dX12_operand_236 ?_
            refine wvi (As := [.long 6578553]) (rest := []) (b := (g 45)) (d := 1) F hK hP hD hS hA (s_X12_isWord2 l G g q I0 J0 Rb L_121 hvI hvR  6578553 ) kmV_X12_isWord mlX12_332 clX12 rfl 0 (Wm_at0 G g q I0 J0 Rb L_121) ⟨(Nat.le_of_ble_eq_true rfl), (Nat.le_of_ble_eq_true rfl)⟩ hl.1 rfl (Nat.le_of_ble_eq_true rfl) dX12_operand_239 (fun r58 u59 H locs hwr58 hP hD hS => ?_)
            obtain ⟨F0r58, F1r58, F2r58⟩ := hwr58
            replace F0r58 : ((0 : Int) ≤ r58.toInt ∧ r58.toInt ≤ (1 : Int)) := F0r58
            replace F1r58 : (r58.toInt = 1 → (I0 2).toInt = 1) := F1r58
            replace F2r58 : (r58.toInt = 1 → J0 0 = 6578553) := F2r58
            refine lv_if_eq (tgt := 249) hx hb dX12_operand_242 (by decide) (fun c60 => ?_) (fun c60 => ?_)
            · have gc60 : r58.toInt = 0 := congrArg Int32.toInt c60
              refine lv_aload_n hx hb dX12_operand_249 rfl (lv_at hl 0 rfl) ?_
              refine lv_ldc2 hx hb hown (F.2.2.2.2 _ clX12_260) dX12_operand_250 ?_
              refine wvi (As := [.long 123581014175598]) (rest := []) (b := (g 45)) (d := 1) F hK hP hD hS hA (s_X12_isWord2 l G g q I0 J0 Rb L_121 hvI hvR  123581014175598 ) kmV_X12_isWord mlX12_332 clX12 rfl 0 (Wm_at0 G g q I0 J0 Rb L_121) ⟨(Nat.le_of_ble_eq_true rfl), (Nat.le_of_ble_eq_true rfl)⟩ hl.1 rfl (Nat.le_of_ble_eq_true rfl) dX12_operand_253 (fun r61 u62 H locs hwr61 hP hD hS => ?_)
              obtain ⟨F0r61, F1r61, F2r61⟩ := hwr61
              replace F0r61 : ((0 : Int) ≤ r61.toInt ∧ r61.toInt ≤ (1 : Int)) := F0r61
              replace F1r61 : (r61.toInt = 1 → (I0 2).toInt = 1) := F1r61
              replace F2r61 : (r61.toInt = 1 → J0 0 = 123581014175598) := F2r61
              refine lv_if_eq (tgt := 263) hx hb dX12_operand_256 (by decide) (fun c63 => ?_) (fun c63 => ?_)
              · have gc63 : r61.toInt = 0 := congrArg Int32.toInt c63
                refine lv_aload_n hx hb dX12_operand_263 rfl (lv_at hl 0 rfl) ?_
                refine lv_ldc2 hx hb hown (F.2.2.2.2 _ clX12_306) dX12_operand_264 ?_
                refine wvi (As := [.long 1668441463]) (rest := []) (b := (g 45)) (d := 1) F hK hP hD hS hA (s_X12_isWord2 l G g q I0 J0 Rb L_121 hvI hvR  1668441463 ) kmV_X12_isWord mlX12_332 clX12 rfl 0 (Wm_at0 G g q I0 J0 Rb L_121) ⟨(Nat.le_of_ble_eq_true rfl), (Nat.le_of_ble_eq_true rfl)⟩ hl.1 rfl (Nat.le_of_ble_eq_true rfl) dX12_operand_267 (fun r64 u65 H locs hwr64 hP hD hS => ?_)
                obtain ⟨F0r64, F1r64, F2r64⟩ := hwr64
                replace F0r64 : ((0 : Int) ≤ r64.toInt ∧ r64.toInt ≤ (1 : Int)) := F0r64
                replace F1r64 : (r64.toInt = 1 → (I0 2).toInt = 1) := F1r64
                replace F2r64 : (r64.toInt = 1 → J0 0 = 1668441463) := F2r64
                refine lv_if_eq (tgt := 277) hx hb dX12_operand_270 (by decide) (fun c66 => ?_) (fun c66 => ?_)
                · have gc66 : r64.toInt = 0 := congrArg Int32.toInt c66
                  refine lv_aload_n hx hb dX12_operand_277 rfl (lv_at hl 0 rfl) ?_
                  refine lv_ldc2 hx hb hown (F.2.2.2.2 _ clX12_308) dX12_operand_278 ?_
                  refine wvi (As := [.long 1835101817]) (rest := []) (b := (g 45)) (d := 1) F hK hP hD hS hA (s_X12_isWord2 l G g q I0 J0 Rb L_121 hvI hvR  1835101817 ) kmV_X12_isWord mlX12_332 clX12 rfl 0 (Wm_at0 G g q I0 J0 Rb L_121) ⟨(Nat.le_of_ble_eq_true rfl), (Nat.le_of_ble_eq_true rfl)⟩ hl.1 rfl (Nat.le_of_ble_eq_true rfl) dX12_operand_281 (fun r67 u68 H locs hwr67 hP hD hS => ?_)
                  obtain ⟨F0r67, F1r67, F2r67⟩ := hwr67
                  replace F0r67 : ((0 : Int) ≤ r67.toInt ∧ r67.toInt ≤ (1 : Int)) := F0r67
                  replace F1r67 : (r67.toInt = 1 → (I0 2).toInt = 1) := F1r67
                  replace F2r67 : (r67.toInt = 1 → J0 0 = 1835101817) := F2r67
                  refine lv_if_eq (tgt := 291) hx hb dX12_operand_284 (by decide) (fun c69 => ?_) (fun c69 => ?_)
                  · have gc69 : r67.toInt = 0 := congrArg Int32.toInt c69
                    refine lv_aload_n hx hb dX12_operand_291 rfl (lv_at hl 0 rfl) ?_
                    refine lv_ldc2 hx hb hown (F.2.2.2.2 _ clX12_310) dX12_operand_292 ?_
                    refine wvi (As := [.long 1919905645]) (rest := []) (b := (g 45)) (d := 1) F hK hP hD hS hA (s_X12_isWord2 l G g q I0 J0 Rb L_121 hvI hvR  1919905645 ) kmV_X12_isWord mlX12_332 clX12 rfl 0 (Wm_at0 G g q I0 J0 Rb L_121) ⟨(Nat.le_of_ble_eq_true rfl), (Nat.le_of_ble_eq_true rfl)⟩ hl.1 rfl (Nat.le_of_ble_eq_true rfl) dX12_operand_295 (fun r70 u71 H locs hwr70 hP hD hS => ?_)
                    obtain ⟨F0r70, F1r70, F2r70⟩ := hwr70
                    replace F0r70 : ((0 : Int) ≤ r70.toInt ∧ r70.toInt ≤ (1 : Int)) := F0r70
                    replace F1r70 : (r70.toInt = 1 → (I0 2).toInt = 1) := F1r70
                    replace F2r70 : (r70.toInt = 1 → J0 0 = 1919905645) := F2r70
                    refine lv_if_eq (tgt := 305) hx hb dX12_operand_298 (by decide) (fun c72 => ?_) (fun c72 => ?_)
                    · have gc72 : r70.toInt = 0 := congrArg Int32.toInt c72
                      refine lv_iconst (v := (-1)) hx hb dX12_operand_305 (by decide) ?_
                      exact lab_306 ((-1)) I0 J0 Rb L_121 _ _ _ hvI hvR hsI hsR (by decide) (show ((-1) = -1 ∨ (I0 2).toInt = 1 ∨ (I0 2).toInt = 2) from by omega) (show ((I0 3).toInt ≤ (I0 4).toInt) from by omega) (show ((I0 4).toInt ≤ (I0 1).toInt) from by omega) (show ((¬ (I0 2).toInt = 0) → (I0 3).toInt < (I0 4).toInt) from by omega) (show ((¬ (I0 6).toInt = 0) → (¬ (I0 6).toInt = 0)) from by omega) (show ((I0 3).toInt ≤ (I0 3).toInt) from by omega) (show (I0 = I0 ∧ J0 = J0 ∧ Rb = Rb) from ⟨rfl, rfl, rfl⟩) hP hD hS (lv_sub hl [0] rfl)
                    · have gc72 : ¬ (r70.toInt = 0) := fun q0 => c72 (Int32.toInt_inj.mp q0)
                      refine lv_iconst (v := 5) hx hb dX12_operand_301 (by decide) ?_
                      refine lv_goto (tgt := 306) hx hb dX12_operand_302 (by decide) ?_
                      exact lab_306 5 I0 J0 Rb L_121 _ _ _ hvI hvR hsI hsR (by decide) (show (5 = -1 ∨ (I0 2).toInt = 1 ∨ (I0 2).toInt = 2) from by omega) (show ((I0 3).toInt ≤ (I0 4).toInt) from by omega) (show ((I0 4).toInt ≤ (I0 1).toInt) from by omega) (show ((¬ (I0 2).toInt = 0) → (I0 3).toInt < (I0 4).toInt) from by omega) (show ((¬ (I0 6).toInt = 0) → (¬ (I0 6).toInt = 0)) from by omega) (show ((I0 3).toInt ≤ (I0 3).toInt) from by omega) (show (I0 = I0 ∧ J0 = J0 ∧ Rb = Rb) from ⟨rfl, rfl, rfl⟩) hP hD hS (lv_sub hl [0] rfl)
                  · have gc69 : ¬ (r67.toInt = 0) := fun q0 => c69 (Int32.toInt_inj.mp q0)
                    refine lv_iconst (v := 4) hx hb dX12_operand_287 (by decide) ?_
                    refine lv_goto (tgt := 306) hx hb dX12_operand_288 (by decide) ?_
                    exact lab_306 4 I0 J0 Rb L_121 _ _ _ hvI hvR hsI hsR (by decide) (show (4 = -1 ∨ (I0 2).toInt = 1 ∨ (I0 2).toInt = 2) from by omega) (show ((I0 3).toInt ≤ (I0 4).toInt) from by omega) (show ((I0 4).toInt ≤ (I0 1).toInt) from by omega) (show ((¬ (I0 2).toInt = 0) → (I0 3).toInt < (I0 4).toInt) from by omega) (show ((¬ (I0 6).toInt = 0) → (¬ (I0 6).toInt = 0)) from by omega) (show ((I0 3).toInt ≤ (I0 3).toInt) from by omega) (show (I0 = I0 ∧ J0 = J0 ∧ Rb = Rb) from ⟨rfl, rfl, rfl⟩) hP hD hS (lv_sub hl [0] rfl)
                · have gc66 : ¬ (r64.toInt = 0) := fun q0 => c66 (Int32.toInt_inj.mp q0)
                  refine lv_iconst (v := 3) hx hb dX12_operand_273 (by decide) ?_
                  refine lv_goto (tgt := 306) hx hb dX12_operand_274 (by decide) ?_
                  exact lab_306 3 I0 J0 Rb L_121 _ _ _ hvI hvR hsI hsR (by decide) (show (3 = -1 ∨ (I0 2).toInt = 1 ∨ (I0 2).toInt = 2) from by omega) (show ((I0 3).toInt ≤ (I0 4).toInt) from by omega) (show ((I0 4).toInt ≤ (I0 1).toInt) from by omega) (show ((¬ (I0 2).toInt = 0) → (I0 3).toInt < (I0 4).toInt) from by omega) (show ((¬ (I0 6).toInt = 0) → (¬ (I0 6).toInt = 0)) from by omega) (show ((I0 3).toInt ≤ (I0 3).toInt) from by omega) (show (I0 = I0 ∧ J0 = J0 ∧ Rb = Rb) from ⟨rfl, rfl, rfl⟩) hP hD hS (lv_sub hl [0] rfl)
              · have gc63 : ¬ (r61.toInt = 0) := fun q0 => c63 (Int32.toInt_inj.mp q0)
                refine lv_iconst (v := 2) hx hb dX12_operand_259 (by decide) ?_
                refine lv_goto (tgt := 306) hx hb dX12_operand_260 (by decide) ?_
                exact lab_306 2 I0 J0 Rb L_121 _ _ _ hvI hvR hsI hsR (by decide) (show (2 = -1 ∨ (I0 2).toInt = 1 ∨ (I0 2).toInt = 2) from by omega) (show ((I0 3).toInt ≤ (I0 4).toInt) from by omega) (show ((I0 4).toInt ≤ (I0 1).toInt) from by omega) (show ((¬ (I0 2).toInt = 0) → (I0 3).toInt < (I0 4).toInt) from by omega) (show ((¬ (I0 6).toInt = 0) → (¬ (I0 6).toInt = 0)) from by omega) (show ((I0 3).toInt ≤ (I0 3).toInt) from by omega) (show (I0 = I0 ∧ J0 = J0 ∧ Rb = Rb) from ⟨rfl, rfl, rfl⟩) hP hD hS (lv_sub hl [0] rfl)
            · have gc60 : ¬ (r58.toInt = 0) := fun q0 => c60 (Int32.toInt_inj.mp q0)
              refine lv_iconst (v := 1) hx hb dX12_operand_245 (by decide) ?_
              refine lv_goto (tgt := 306) hx hb dX12_operand_246 (by decide) ?_
              exact lab_306 1 I0 J0 Rb L_121 _ _ _ hvI hvR hsI hsR (by decide) (show (1 = -1 ∨ (I0 2).toInt = 1 ∨ (I0 2).toInt = 2) from by omega) (show ((I0 3).toInt ≤ (I0 4).toInt) from by omega) (show ((I0 4).toInt ≤ (I0 1).toInt) from by omega) (show ((¬ (I0 2).toInt = 0) → (I0 3).toInt < (I0 4).toInt) from by omega) (show ((¬ (I0 6).toInt = 0) → (¬ (I0 6).toInt = 0)) from by omega) (show ((I0 3).toInt ≤ (I0 3).toInt) from by omega) (show (I0 = I0 ∧ J0 = J0 ∧ Rb = Rb) from ⟨rfl, rfl, rfl⟩) hP hD hS (lv_sub hl [0] rfl)
          · have gc57 : (I0 2).toInt = 2 := congrArg Int32.toInt c57
            refine lv_iconst (v := 0) hx hb dX12_operand_231 (by decide) ?_
            refine lv_goto (tgt := 306) hx hb dX12_operand_232 (by decide) ?_
            exact lab_306 0 I0 J0 Rb L_121 _ _ _ hvI hvR hsI hsR (by decide) (show (0 = -1 ∨ (I0 2).toInt = 1 ∨ (I0 2).toInt = 2) from by omega) (show ((I0 3).toInt ≤ (I0 4).toInt) from by omega) (show ((I0 4).toInt ≤ (I0 1).toInt) from by omega) (show ((¬ (I0 2).toInt = 0) → (I0 3).toInt < (I0 4).toInt) from by omega) (show ((¬ (I0 6).toInt = 0) → (¬ (I0 6).toInt = 0)) from by omega) (show ((I0 3).toInt ≤ (I0 3).toInt) from by omega) (show (I0 = I0 ∧ J0 = J0 ∧ Rb = Rb) from ⟨rfl, rfl, rfl⟩) hP hD hS (lv_sub hl [0] rfl)
        · have gc56 : ¬ (r54.toInt = 0) := fun q0 => c56 (Int32.toInt_inj.mp q0)
          exact lab_157  I0 J0 Rb L_121 _ _ _ hvI hvR hsI hsR (show ((I0 2).toInt = 1) from by omega) (show ((I0 3).toInt ≤ (I0 4).toInt) from by omega) (show ((I0 4).toInt ≤ (I0 1).toInt) from by omega) (show ((¬ (I0 2).toInt = 0) → (I0 3).toInt < (I0 4).toInt) from by omega) (show ((¬ (I0 6).toInt = 0) → (¬ (I0 6).toInt = 0)) from by omega) (show ((I0 3).toInt ≤ (I0 3).toInt) from by omega) (show (I0 = I0 ∧ J0 = J0 ∧ Rb = Rb) from ⟨rfl, rfl, rfl⟩) hP hD hS (lv_sub hl [0] rfl)
    · have gc50 : ¬ (r48.toInt = 0) := fun q0 => c50 (Int32.toInt_inj.mp q0)
      refine lv_aload_n hx hb dX12_operand_130 rfl (lv_at hl 0 rfl) ?_
      refine lv_iconst (v := 2) hx hb dX12_operand_131 (by decide) ?_
      refine wvv (As := [.int 2]) (rest := []) (b := (g 45)) (d := 3) F hK hP hD hS hA (s_X12_opens l G g q I0 J0 Rb L_121 hvI hvR  2 (by decide) (by first | decide | omega) (by first | decide | omega) (by first | decide | omega) (by first | decide | omega) (by first | decide | omega) (by first | decide | omega) a (fun _ => ⟨d, n, hXb, hTb, hWB, hBb⟩) (fun k hk => by rw [show k = d from by omega]; exact hbb)) kmV_X12_opens mlX12_339 clX12 rfl 0 (Wm_at0 G g q I0 J0 Rb L_121) ⟨(Nat.le_of_ble_eq_true rfl), (Nat.le_of_ble_eq_true rfl)⟩ hl.1 rfl (Nat.le_of_ble_eq_true rfl) dX12_operand_132 (fun u74 H locs hwr73 hP hD hS => ?_)
      obtain ⟨I75, J76, R77, L78⟩ := u74
      replace hP : va_P G.1 vwCl (Wm G g q I75 J76 R77 L78) H := hP
      replace hD : va_D A (Wm G g q I75 J76 R77 L78) := hD
      obtain ⟨hvI, hvR, tIr73, tRr73, F0r73, F1r73, F2r73, F3r73, F4r73, F5r73, F6r73, F7r73, F8r73⟩ := hwr73
      replace F0r73 : ((I75 6).toInt = 0 → (I0 3).toInt < (I75 3).toInt) := F0r73
      replace F1r73 : ((I75 6).toInt = 0 → 1 ≤ (I75 13).toInt) := F1r73
      replace F2r73 : ((I75 3).toInt ≤ (I75 4).toInt) := F2r73
      replace F3r73 : ((I75 4).toInt ≤ (I0 1).toInt) := F3r73
      replace F4r73 : ((¬ (I75 2).toInt = 0) → (I75 3).toInt < (I75 4).toInt) := F4r73
      replace F5r73 : ((¬ (I0 6).toInt = 0) → (¬ (I75 6).toInt = 0)) := F5r73
      replace F6r73 : ((I0 3).toInt ≤ (I75 3).toInt) := F6r73
      replace F7r73 : (¬ (2 : Int) = 3 → RS a 0 I75 (J76 0) R77) := F7r73
      replace F8r73 : (∀ v : Int32, 10 ≤ v.toInt → v.toInt ≤ 21 → RS a 0 I75 (J76 0) (va_up R77 31 (upd (R77 31) (((I75 13).toInt - 1).toNat) v))) := F8r73
      replace hvI : InvI Wm_lo Wm_hi I75 := hvI
      replace hvR : InvR Wm_rl R77 := hvR
      replace tIr73 : SmF ([2, 3, 4, 5, 6, 7, 13, 14] : List Nat) I0 I75 := tIr73
      replace tRr73 : SmF ([28, 29, 30, 32] : List Nat) Rb R77 := tRr73
      have hv_I75 := hvI
      have hsI := smF_tr hsI tIr73 (by decide)
      have hsR := smF_tr hsR tRr73 (by decide)
      have u_I75_1 : (I75 1).toInt = (I0 1).toInt := congrArg Int32.toInt (tIr73 1 rfl)
      have w_I75_2 := rg (hvI 2 (by decide)) (0) (3) rfl rfl
      have w_I75_3 := rg (hvI 3 (by decide)) (0) (1800) rfl rfl
      have w_I75_4 := rg (hvI 4 (by decide)) (0) (1800) rfl rfl
      have w_I75_5 := rg (hvI 5 (by decide)) (0) (9999) rfl rfl
      have w_I75_6 := rg (hvI 6 (by decide)) (0) (5) rfl rfl
      have u_I75_11 : (I75 11).toInt = (I0 11).toInt := congrArg Int32.toInt (tIr73 11 rfl)
      have u_I75_12 : (I75 12).toInt = (I0 12).toInt := congrArg Int32.toInt (tIr73 12 rfl)
      have w_I75_13 := rg (hvI 13 (by decide)) (0) (9) rfl rfl
      have w_I75_14 := rg (hvI 14 (by decide)) (0) (8) rfl rfl
      have u_I75_15 : (I75 15).toInt = (I0 15).toInt := congrArg Int32.toInt (tIr73 15 rfl)
      have u_I75_16 : (I75 16).toInt = (I0 16).toInt := congrArg Int32.toInt (tIr73 16 rfl)
      have nr73_0 : ((I75 3).toInt ≤ (I75 4).toInt) := by omega
      have nr73_1 : ((I75 4).toInt ≤ (I0 1).toInt) := by omega
      have nr73_2 : ((¬ (I75 2).toInt = 0) → (I75 3).toInt < (I75 4).toInt) := by omega
      have nr73_3 : ((¬ (I0 6).toInt = 0) → (¬ (I75 6).toInt = 0)) := by omega
      have nr73_4 : ((I0 3).toInt ≤ (I75 3).toInt) := by omega
      clear z0_121 z1_121 z2_121 z3_121 z4_121 F2r73 F3r73 F4r73 F5r73 F6r73
      have ker73 := ke_sm keb (congrArg Int32.toInt (tIr73 12 rfl)) (congrArg Int32.toInt (tIr73 11 rfl)) (tRr73 26 rfl)
      refine lv_iconst (v := 0) hx hb dX12_operand_135 (by decide) ?_
      rw [hQ]
      exact q_z F hr hlk (I75, J76, R77, L78) hP hD hS ⟨hvI, hvR, hsI, hsR, (show ((0 : Int) ≤ 0 ∧ 0 ≤ (1 : Int)) from by omega), (show ((I75 6).toInt = 0 → (I0 3).toInt < (I75 3).toInt) from by omega), (show ((I75 3).toInt ≤ (I75 4).toInt) from by omega), (show ((I75 4).toInt ≤ (I0 1).toInt) from by omega), (show ((¬ (I75 2).toInt = 0) → (I75 3).toInt < (I75 4).toInt) from by omega), (show ((¬ (I0 6).toInt = 0) → (¬ (I75 6).toInt = 0)) from by omega), (show ((I0 3).toInt ≤ (I75 3).toInt) from by omega), (show (RS a (0 : Int).toNat I75 (J76 0) R77) from (F7r73 (by decide))), (show (KE I0 (R0 26) I75 (R77 26)) from ker73)⟩ dX12_operand_136 (Nat.le_of_ble_eq_true rfl) (Nat.le_of_ble_eq_true rfl) (nar01 (by decide))
  have lab_87 : ∀ (a1_87 : Int32) (a2_87 : Int32) (I_87 : Nat → Int32) (J_87 : Nat → Int64) (R_87 : Nat → Nat → Int32) (L_87 : Nat → Nat → Int64) (H : Heap) (locs : List Loc) (ls : Array Slot), InvI Wm_lo Wm_hi I_87 → InvR Wm_rl R_87 → SmF ([2, 3, 4, 5, 6, 7, 11, 13, 14, 15] : List Nat) I0 I_87 → SmF ([26, 27, 28, 29, 30, 31, 32, 33] : List Nat) R0 R_87 → ((0 : Int) ≤ a1_87.toInt ∧ a1_87.toInt ≤ (8 : Int)) → ((0 : Int) ≤ a2_87.toInt ∧ a2_87.toInt ≤ (1 : Int)) → (a1_87.toInt = (I0 13).toInt - 1) → ((I_87 3).toInt ≤ (I_87 4).toInt) → ((I_87 4).toInt ≤ (I0 1).toInt) → ((¬ (I_87 2).toInt = 0) → (I_87 3).toInt < (I_87 4).toInt) → ((¬ (I0 6).toInt = 0) → (¬ (I_87 6).toInt = 0)) → ((I0 3).toInt ≤ (I_87 3).toInt) → (I0 = I_87 ∧ J0 = J_87 ∧ Rb = R_87) → va_P G.1 vwCl (Wm G g q I_87 J_87 R_87 L_87) H → va_D A (Wm G g q I_87 J_87 R_87 L_87) → va_S A s.heap H locs → lv_has ls 4 [(0, .ref (g 45)), (1, .int a1_87), (2, .int a2_87)] → W p l e (rmD 4 0 0) s m [.ref (g 45)].toArray below meth c H locs 0 0 Q (F0 m 87 ls []) := by
    intro a1_87 a2_87 I_87 J_87 R_87 L_87 H locs ls hvI hvR hsI hsR y0_87 y1_87 z0_87 z1_87 z2_87 z3_87 z4_87 z5_87 xl0_87 hP hD hS hl
    have hv_I_87 := hvI
    have w_I_87_1 := rg (hvI 1 (by decide)) (0) (1800) rfl rfl
    have v_I_87_1 : (I_87 1).toInt = (I0 1).toInt := congrArg Int32.toInt (hsI 1 rfl)
    have w_I_87_2 := rg (hvI 2 (by decide)) (0) (3) rfl rfl
    have w_I_87_3 := rg (hvI 3 (by decide)) (0) (1800) rfl rfl
    have w_I_87_4 := rg (hvI 4 (by decide)) (0) (1800) rfl rfl
    have w_I_87_5 := rg (hvI 5 (by decide)) (0) (9999) rfl rfl
    have w_I_87_6 := rg (hvI 6 (by decide)) (0) (5) rfl rfl
    have w_I_87_11 := rg (hvI 11 (by decide)) (0) (1800) rfl rfl
    have w_I_87_12 := rg (hvI 12 (by decide)) (0) (1) rfl rfl
    have v_I_87_12 : (I_87 12).toInt = (I0 12).toInt := congrArg Int32.toInt (hsI 12 rfl)
    have w_I_87_13 := rg (hvI 13 (by decide)) (0) (9) rfl rfl
    have w_I_87_14 := rg (hvI 14 (by decide)) (0) (8) rfl rfl
    have w_I_87_15 := rg (hvI 15 (by decide)) (0) (499) rfl rfl
    have w_I_87_16 := rg (hvI 16 (by decide)) (0) (1) rfl rfl
    have v_I_87_16 : (I_87 16).toInt = (I0 16).toInt := congrArg Int32.toInt (hsI 16 rfl)
    obtain ⟨qI, qJ, qR⟩ := xl0_87
    subst qI
    subst qJ
    subst qR
    refine lv_iload_n hx hb dX12_operand_87 rfl (lv_at hl 2 rfl) ?_
    refine lv_if_eq (tgt := 121) hx hb dX12_operand_88 (by decide) (fun c79 => ?_) (fun c79 => ?_)
    · have gc79 : a2_87.toInt = 0 := congrArg Int32.toInt c79
      exact lab_121  I0 J0 Rb L_87 _ _ _ hvI hvR hsI hsR (show ((I0 3).toInt ≤ (I0 4).toInt) from by omega) (show ((I0 4).toInt ≤ (I0 1).toInt) from by omega) (show ((¬ (I0 2).toInt = 0) → (I0 3).toInt < (I0 4).toInt) from by omega) (show ((¬ (I0 6).toInt = 0) → (¬ (I0 6).toInt = 0)) from by omega) (show ((I0 3).toInt ≤ (I0 3).toInt) from by omega) (show (I0 = I0 ∧ J0 = J0 ∧ Rb = Rb) from ⟨rfl, rfl, rfl⟩) hP hD hS (lv_sub hl [0] rfl)
    · have gc79 : ¬ (a2_87.toInt = 0) := fun q0 => c79 (Int32.toInt_inj.mp q0)
      refine lv_aload_n hx hb dX12_operand_91 rfl (lv_at hl 0 rfl) ?_
      refine lv_ldc2 hx hb hown (F.2.2.2.2 _ clX12_302) dX12_operand_92 ?_
      refine wvi (As := [.long 6384748]) (rest := []) (b := (g 45)) (d := 1) F hK hP hD hS hA (s_X12_isWord2 l G g q I0 J0 Rb L_87 hvI hvR  6384748 ) kmV_X12_isWord mlX12_332 clX12 rfl 0 (Wm_at0 G g q I0 J0 Rb L_87) ⟨(Nat.le_of_ble_eq_true rfl), (Nat.le_of_ble_eq_true rfl)⟩ hl.1 rfl (Nat.le_of_ble_eq_true rfl) dX12_operand_95 (fun r80 u81 H locs hwr80 hP hD hS => ?_)
      obtain ⟨F0r80, F1r80, F2r80⟩ := hwr80
      replace F0r80 : ((0 : Int) ≤ r80.toInt ∧ r80.toInt ≤ (1 : Int)) := F0r80
      replace F1r80 : (r80.toInt = 1 → (I0 2).toInt = 1) := F1r80
      replace F2r80 : (r80.toInt = 1 → J0 0 = 6384748) := F2r80
      refine lv_if_eq (tgt := 121) hx hb dX12_operand_98 (by decide) (fun c82 => ?_) (fun c82 => ?_)
      · have gc82 : r80.toInt = 0 := congrArg Int32.toInt c82
        exact lab_121  I0 J0 Rb L_87 _ _ _ hvI hvR hsI hsR (show ((I0 3).toInt ≤ (I0 4).toInt) from by omega) (show ((I0 4).toInt ≤ (I0 1).toInt) from by omega) (show ((¬ (I0 2).toInt = 0) → (I0 3).toInt < (I0 4).toInt) from by omega) (show ((¬ (I0 6).toInt = 0) → (¬ (I0 6).toInt = 0)) from by omega) (show ((I0 3).toInt ≤ (I0 3).toInt) from by omega) (show (I0 = I0 ∧ J0 = J0 ∧ Rb = Rb) from ⟨rfl, rfl, rfl⟩) hP hD hS (lv_sub hl [0] rfl)
      · have gc82 : ¬ (r80.toInt = 0) := fun q0 => c82 (Int32.toInt_inj.mp q0)
        refine lv_aload_n hx hb dX12_operand_101 rfl (lv_at hl 0 rfl) ?_
        refine lv_bipush (v := 9) hx hb dX12_operand_102 (by decide) ?_
        refine lv_iconst (v := 0) hx hb dX12_operand_104 (by decide) ?_
        refine wvv (As := [.int 9, .int 0]) (rest := []) (b := (g 45)) (d := 1) F hK hP hD hS hA (s_X12_add l G g q I0 J0 Rb L_87 hvI hvR  9 0 (by decide) (by decide) (by omega)) kmV_X12_add mlX12_323 clX12 rfl 0 (Wm_at0 G g q I0 J0 Rb L_87) ⟨(Nat.le_of_ble_eq_true rfl), (Nat.le_of_ble_eq_true rfl)⟩ hl.1 rfl (Nat.le_of_ble_eq_true rfl) dX12_operand_105 (fun u84 H locs hwr83 hP hD hS => ?_)
        obtain ⟨I85, J86, R87, L88⟩ := u84
        replace hP : va_P G.1 vwCl (Wm G g q I85 J86 R87 L88) H := hP
        replace hD : va_D A (Wm G g q I85 J86 R87 L88) := hD
        obtain ⟨hvI, hvR, tIr83, tRr83, F0r83, F1r83⟩ := hwr83
        replace F0r83 : ((I85 11).toInt = (I0 11).toInt + 1) := F0r83
        replace F1r83 : (R87 26 = upd (Rb 26) ((1800 * (I0 12).toInt + (I0 11).toInt).toNat) 9) := F1r83
        replace hvI : InvI Wm_lo Wm_hi I85 := hvI
        replace hvR : InvR Wm_rl R87 := hvR
        replace tIr83 : SmF ([11] : List Nat) I0 I85 := tIr83
        replace tRr83 : SmF ([26, 27] : List Nat) Rb R87 := tRr83
        have hv_I85 := hvI
        have hsI := smF_tr hsI tIr83 (by decide)
        have hsR := smF_tr hsR tRr83 (by decide)
        have u_I85_1 : (I85 1).toInt = (I0 1).toInt := congrArg Int32.toInt (tIr83 1 rfl)
        have u_I85_2 : (I85 2).toInt = (I0 2).toInt := congrArg Int32.toInt (tIr83 2 rfl)
        have u_I85_3 : (I85 3).toInt = (I0 3).toInt := congrArg Int32.toInt (tIr83 3 rfl)
        have u_I85_4 : (I85 4).toInt = (I0 4).toInt := congrArg Int32.toInt (tIr83 4 rfl)
        have u_I85_5 : (I85 5).toInt = (I0 5).toInt := congrArg Int32.toInt (tIr83 5 rfl)
        have u_I85_6 : (I85 6).toInt = (I0 6).toInt := congrArg Int32.toInt (tIr83 6 rfl)
        have w_I85_11 := rg (hvI 11 (by decide)) (0) (1800) rfl rfl
        have u_I85_12 : (I85 12).toInt = (I0 12).toInt := congrArg Int32.toInt (tIr83 12 rfl)
        have u_I85_13 : (I85 13).toInt = (I0 13).toInt := congrArg Int32.toInt (tIr83 13 rfl)
        have u_I85_14 : (I85 14).toInt = (I0 14).toInt := congrArg Int32.toInt (tIr83 14 rfl)
        have u_I85_15 : (I85 15).toInt = (I0 15).toInt := congrArg Int32.toInt (tIr83 15 rfl)
        have u_I85_16 : (I85 16).toInt = (I0 16).toInt := congrArg Int32.toInt (tIr83 16 rfl)
        have nr83_0 : ((I85 3).toInt ≤ (I85 4).toInt) := by omega
        have nr83_1 : ((I85 4).toInt ≤ (I0 1).toInt) := by omega
        have nr83_2 : ((¬ (I85 2).toInt = 0) → (I85 3).toInt < (I85 4).toInt) := by omega
        have nr83_3 : ((¬ (I0 6).toInt = 0) → (¬ (I85 6).toInt = 0)) := by omega
        have nr83_4 : ((I0 3).toInt ≤ (I85 3).toInt) := by omega
        clear z1_87 z2_87 z3_87 z4_87 z5_87
        have ker83 := ke_add keb (congrArg Int32.toInt (tIr83 12 rfl)) F0r83 F1r83 (by omega)
        refine lv_aload_n hx hb dX12_operand_108 rfl (lv_at hl 0 rfl) ?_
        refine g_get F hK hP 0 (Wm_at0 G g q I85 J86 R87 L88) clX12 46 (by decide) flX12_152 rfl dX12_operand_109 ?_
        refine lv_iload_n hx hb dX12_operand_112 rfl (lv_at hl 1 rfl) ?_
        refine lv_iconst (v := 2) hx hb dX12_operand_113 (by decide) ?_
        refine p_row (W1 := fun y => Wm G g q I85 J86 y L88) (n := 29) F hK hP hD hS 33 (Wm_at33 G g q I85 J86 R87 L88) (in_of (by omega)) dX12_operand_114 (Wm_rowR29 G g q I85 J86 R87 L88) (fun R89 H locs eR89 hP hD hS => ?_)
        have hvR : InvR Wm_rl R89 := inv_upR hvR 29 eR89 (upd_in (hvR 29 (by decide)) (by decide))
        have hsR := smF_up hsR eR89 (by decide)
        have keR89 := ke_sm ker83 rfl rfl (up_ne eR89 (by decide))
        have rmR89 := rm_val (v := 9) (R1 := R89) hXb hBb hbb (by omega) (by omega) tIr83 tRr83 F0r83 F1r83 (by decide) (Or.inr (by rw [eR89, show Int32.toNatClampNeg a1_87 = d from cl_n (by omega)]))
        refine lv_aload_n hx hb dX12_operand_115 rfl (lv_at hl 0 rfl) ?_
        refine wvv (As := []) (rest := []) (b := (g 45)) (d := 2) F hK hP hD hS hA (s_X12_ahead2 l G g q I85 J86 R89 L88 hvI hvR   (by omega) (by omega) (by omega)) kmV_X12_ahead mlX12_247 clX12 rfl 0 (Wm_at0 G g q I85 J86 R89 L88) ⟨(Nat.le_of_ble_eq_true rfl), (Nat.le_of_ble_eq_true rfl)⟩ hl.1 rfl (Nat.le_of_ble_eq_true rfl) dX12_operand_116 (fun u91 H locs hwr90 hP hD hS => ?_)
        obtain ⟨I92, J93, R94, L95⟩ := u91
        replace hP : va_P G.1 vwCl (Wm G g q I92 J93 R94 L95) H := hP
        replace hD : va_D A (Wm G g q I92 J93 R94 L95) := hD
        obtain ⟨hvI, hvR, tIr90, tRr90, F0r90, F1r90, F2r90, F3r90, F4r90, F5r90, F6r90, F7r90, F8r90⟩ := hwr90
        replace F0r90 : ((I85 4).toInt ≤ (I92 3).toInt) := F0r90
        replace F1r90 : ((I92 3).toInt ≤ (I92 4).toInt) := F1r90
        replace F2r90 : ((I92 4).toInt ≤ (I85 1).toInt) := F2r90
        replace F3r90 : ((¬ (I92 2).toInt = 0) → (I92 3).toInt < (I92 4).toInt) := F3r90
        replace F4r90 : ((¬ (I85 6).toInt = 0) → (¬ (I92 6).toInt = 0)) := F4r90
        replace F5r90 : ((I85 3).toInt ≤ (I92 3).toInt) := F5r90
        replace F6r90 : (TL I92 (R89 0)) := F6r90
        replace F7r90 : (WB I92 (J93 0)) := F7r90
        replace F8r90 : (TL I85 (R89 0) → (I85 2).toInt = 1 → (I92 6).toInt = 0 → ((I92 2).toInt = 1 ∨ (I92 2).toInt = 2) → (I85 4).toInt + 1 ≤ (I92 3).toInt) := F8r90
        replace hvI : InvI Wm_lo Wm_hi I92 := hvI
        replace hvR : InvR Wm_rl R94 := hvR
        replace tIr90 : SmF ([2, 3, 4, 5, 6, 7] : List Nat) I85 I92 := tIr90
        replace tRr90 : SmF ([] : List Nat) R89 R94 := tRr90
        have hv_I92 := hvI
        have hsI := smF_tr hsI tIr90 (by decide)
        have hsR := smF_tr hsR tRr90 (by decide)
        have u_I92_1 : (I92 1).toInt = (I85 1).toInt := congrArg Int32.toInt (tIr90 1 rfl)
        have w_I92_2 := rg (hvI 2 (by decide)) (0) (3) rfl rfl
        have w_I92_3 := rg (hvI 3 (by decide)) (0) (1800) rfl rfl
        have w_I92_4 := rg (hvI 4 (by decide)) (0) (1800) rfl rfl
        have w_I92_5 := rg (hvI 5 (by decide)) (0) (9999) rfl rfl
        have w_I92_6 := rg (hvI 6 (by decide)) (0) (5) rfl rfl
        have u_I92_11 : (I92 11).toInt = (I85 11).toInt := congrArg Int32.toInt (tIr90 11 rfl)
        have u_I92_12 : (I92 12).toInt = (I85 12).toInt := congrArg Int32.toInt (tIr90 12 rfl)
        have u_I92_13 : (I92 13).toInt = (I85 13).toInt := congrArg Int32.toInt (tIr90 13 rfl)
        have u_I92_14 : (I92 14).toInt = (I85 14).toInt := congrArg Int32.toInt (tIr90 14 rfl)
        have u_I92_15 : (I92 15).toInt = (I85 15).toInt := congrArg Int32.toInt (tIr90 15 rfl)
        have u_I92_16 : (I92 16).toInt = (I85 16).toInt := congrArg Int32.toInt (tIr90 16 rfl)
        have nr90_0 : ((I92 3).toInt ≤ (I92 4).toInt) := by omega
        have nr90_1 : ((I92 4).toInt ≤ (I0 1).toInt) := by omega
        have nr90_2 : ((¬ (I92 2).toInt = 0) → (I92 3).toInt < (I92 4).toInt) := by omega
        have nr90_3 : ((¬ (I0 6).toInt = 0) → (¬ (I92 6).toInt = 0)) := by omega
        have nr90_4 : ((I0 3).toInt ≤ (I92 3).toInt) := by omega
        clear nr83_0 nr83_1 nr83_2 nr83_3 nr83_4 F1r90 F2r90 F3r90 F4r90 F5r90
        have ker90 := ke_sm keR89 (congrArg Int32.toInt (tIr90 12 rfl)) (congrArg Int32.toInt (tIr90 11 rfl)) (tRr90 26 rfl)
        have rsr90 := rs_ahead rmR89 tIr90 tRr90 F0r90 F6r90 F7r90 F8r90
        refine lv_iconst (v := 1) hx hb dX12_operand_119 (by decide) ?_
        rw [hQ]
        exact q_z F hr hlk (I92, J93, R94, L95) hP hD hS ⟨hvI, hvR, hsI, hsR, (show ((0 : Int) ≤ 1 ∧ 1 ≤ (1 : Int)) from by omega), (show ((I92 6).toInt = 0 → (I0 3).toInt < (I92 3).toInt) from by omega), (show ((I92 3).toInt ≤ (I92 4).toInt) from by omega), (show ((I92 4).toInt ≤ (I0 1).toInt) from by omega), (show ((¬ (I92 2).toInt = 0) → (I92 3).toInt < (I92 4).toInt) from by omega), (show ((¬ (I0 6).toInt = 0) → (¬ (I92 6).toInt = 0)) from by omega), (show ((I0 3).toInt ≤ (I92 3).toInt) from by omega), (show (RS a (1 : Int).toNat I92 (J93 0) R94) from rsr90), (show (KE I0 (R0 26) I92 (R94 26)) from ker90)⟩ dX12_operand_120 (Nat.le_of_ble_eq_true rfl) (Nat.le_of_ble_eq_true rfl) (nar01 (by decide))
  have lab_60 : ∀ (a1_60 : Int32) (a2_60 : Int32) (I_60 : Nat → Int32) (J_60 : Nat → Int64) (R_60 : Nat → Nat → Int32) (L_60 : Nat → Nat → Int64) (H : Heap) (locs : List Loc) (ls : Array Slot), InvI Wm_lo Wm_hi I_60 → InvR Wm_rl R_60 → SmF ([2, 3, 4, 5, 6, 7, 11, 13, 14, 15] : List Nat) I0 I_60 → SmF ([26, 27, 28, 29, 30, 31, 32, 33] : List Nat) R0 R_60 → ((0 : Int) ≤ a1_60.toInt ∧ a1_60.toInt ≤ (8 : Int)) → ((0 : Int) ≤ a2_60.toInt ∧ a2_60.toInt ≤ (1 : Int)) → (a1_60.toInt = (I0 13).toInt - 1) → ((I_60 3).toInt ≤ (I_60 4).toInt) → ((I_60 4).toInt ≤ (I0 1).toInt) → ((¬ (I_60 2).toInt = 0) → (I_60 3).toInt < (I_60 4).toInt) → ((¬ (I0 6).toInt = 0) → (¬ (I_60 6).toInt = 0)) → ((I0 3).toInt ≤ (I_60 3).toInt) → (I0 = I_60 ∧ J0 = J_60 ∧ R0 = R_60) → va_P G.1 vwCl (Wm G g q I_60 J_60 R_60 L_60) H → va_D A (Wm G g q I_60 J_60 R_60 L_60) → va_S A s.heap H locs → lv_has ls 4 [(0, .ref (g 45)), (1, .int a1_60), (2, .int a2_60)] → W p l e (rmD 4 0 0) s m [.ref (g 45)].toArray below meth c H locs 0 0 Q (F0 m 60 ls []) := by
    intro a1_60 a2_60 I_60 J_60 R_60 L_60 H locs ls hvI hvR hsI hsR y0_60 y1_60 z0_60 z1_60 z2_60 z3_60 z4_60 z5_60 xl0_60 hP hD hS hl
    have hv_I_60 := hvI
    have w_I_60_1 := rg (hvI 1 (by decide)) (0) (1800) rfl rfl
    have v_I_60_1 : (I_60 1).toInt = (I0 1).toInt := congrArg Int32.toInt (hsI 1 rfl)
    have w_I_60_2 := rg (hvI 2 (by decide)) (0) (3) rfl rfl
    have w_I_60_3 := rg (hvI 3 (by decide)) (0) (1800) rfl rfl
    have w_I_60_4 := rg (hvI 4 (by decide)) (0) (1800) rfl rfl
    have w_I_60_5 := rg (hvI 5 (by decide)) (0) (9999) rfl rfl
    have w_I_60_6 := rg (hvI 6 (by decide)) (0) (5) rfl rfl
    have w_I_60_11 := rg (hvI 11 (by decide)) (0) (1800) rfl rfl
    have w_I_60_12 := rg (hvI 12 (by decide)) (0) (1) rfl rfl
    have v_I_60_12 : (I_60 12).toInt = (I0 12).toInt := congrArg Int32.toInt (hsI 12 rfl)
    have w_I_60_13 := rg (hvI 13 (by decide)) (0) (9) rfl rfl
    have w_I_60_14 := rg (hvI 14 (by decide)) (0) (8) rfl rfl
    have w_I_60_15 := rg (hvI 15 (by decide)) (0) (499) rfl rfl
    have w_I_60_16 := rg (hvI 16 (by decide)) (0) (1) rfl rfl
    have v_I_60_16 : (I_60 16).toInt = (I0 16).toInt := congrArg Int32.toInt (hsI 16 rfl)
    obtain ⟨qI, qJ, qR⟩ := xl0_60
    subst qI
    subst qJ
    subst qR
    refine lv_aload_n hx hb dX12_operand_60 rfl (lv_at hl 0 rfl) ?_
    refine g_get F hK hP 0 (Wm_at0 G g q I0 J0 R0 L_60) clX12 47 (by decide) flX12_155 rfl dX12_operand_61 ?_
    refine lv_iload_n hx hb dX12_operand_64 rfl (lv_at hl 1 rfl) ?_
    refine lv_iconst (v := 0) hx hb dX12_operand_65 (by decide) ?_
    refine p_zrow (W1 := fun y => Wm G g q I0 J0 y L_60) (n := 30) F hK hP hD hS 34 (Wm_at34 G g q I0 J0 R0 L_60) (narz (by decide)) (in_of (by omega)) dX12_operand_66 (Wm_rowR30 G g q I0 J0 R0 L_60) (fun R96 H locs eR96 hP hD hS => ?_)
    have hvR : InvR Wm_rl R96 := inv_upR hvR 30 eR96 (upd_in (hvR 30 (by decide)) (by decide))
    have hsR := smF_up hsR eR96 (by decide)
    have keR96 := ke_sm (ke_rf I0 (R0 26)) rfl rfl (up_ne eR96 (by decide))
    have qb : Rb = R96 := by rw [eRb, eR96, show Int32.toNatClampNeg a1_60 = d from cl_n (by omega)]
    subst qb
    refine lv_iload_n hx hb dX12_operand_67 rfl (lv_at hl 2 rfl) ?_
    refine lv_if_eq (tgt := 87) hx hb dX12_operand_68 (by decide) (fun c97 => ?_) (fun c97 => ?_)
    · have gc97 : a2_60.toInt = 0 := congrArg Int32.toInt c97
      exact lab_87 a1_60 a2_60 I0 J0 Rb L_60 _ _ _ hvI hvR hsI hsR (show ((0 : Int) ≤ a1_60.toInt ∧ a1_60.toInt ≤ (8 : Int)) from by omega) (show ((0 : Int) ≤ a2_60.toInt ∧ a2_60.toInt ≤ (1 : Int)) from by omega) (show (a1_60.toInt = (I0 13).toInt - 1) from by omega) (show ((I0 3).toInt ≤ (I0 4).toInt) from by omega) (show ((I0 4).toInt ≤ (I0 1).toInt) from by omega) (show ((¬ (I0 2).toInt = 0) → (I0 3).toInt < (I0 4).toInt) from by omega) (show ((¬ (I0 6).toInt = 0) → (¬ (I0 6).toInt = 0)) from by omega) (show ((I0 3).toInt ≤ (I0 3).toInt) from by omega) (show (I0 = I0 ∧ J0 = J0 ∧ Rb = Rb) from ⟨rfl, rfl, rfl⟩) hP hD hS (lv_sub hl [0, 1, 2] rfl)
    · have gc97 : ¬ (a2_60.toInt = 0) := fun q0 => c97 (Int32.toInt_inj.mp q0)
      refine lv_aload_n hx hb dX12_operand_71 rfl (lv_at hl 0 rfl) ?_
      refine lv_bipush (v := 91) hx hb dX12_operand_72 (by decide) ?_
      refine wvi (As := [.int 91]) (rest := []) (b := (g 45)) (d := 1) F hK hP hD hS hA (s_X12_isSign2 l G g q I0 J0 Rb L_60 hvI hvR  91 (by decide)) kmV_X12_isSign mlX12_244 clX12 rfl 0 (Wm_at0 G g q I0 J0 Rb L_60) ⟨(Nat.le_of_ble_eq_true rfl), (Nat.le_of_ble_eq_true rfl)⟩ hl.1 rfl (Nat.le_of_ble_eq_true rfl) dX12_operand_74 (fun r98 u99 H locs hwr98 hP hD hS => ?_)
      obtain ⟨F0r98, F1r98⟩ := hwr98
      replace F0r98 : ((0 : Int) ≤ r98.toInt ∧ r98.toInt ≤ (1 : Int)) := F0r98
      replace F1r98 : ((r98.toInt = 1 ∧ (I0 2).toInt = 3 ∧ (I0 5).toInt = (91 : Int)) ∨ (r98.toInt = 0 ∧ (¬ (I0 2).toInt = 3 ∨ ¬ (I0 5).toInt = (91 : Int)))) := F1r98
      refine lv_if_eq (tgt := 87) hx hb dX12_operand_77 (by decide) (fun c100 => ?_) (fun c100 => ?_)
      · have gc100 : r98.toInt = 0 := congrArg Int32.toInt c100
        exact lab_87 a1_60 a2_60 I0 J0 Rb L_60 _ _ _ hvI hvR hsI hsR (show ((0 : Int) ≤ a1_60.toInt ∧ a1_60.toInt ≤ (8 : Int)) from by omega) (show ((0 : Int) ≤ a2_60.toInt ∧ a2_60.toInt ≤ (1 : Int)) from by omega) (show (a1_60.toInt = (I0 13).toInt - 1) from by omega) (show ((I0 3).toInt ≤ (I0 4).toInt) from by omega) (show ((I0 4).toInt ≤ (I0 1).toInt) from by omega) (show ((¬ (I0 2).toInt = 0) → (I0 3).toInt < (I0 4).toInt) from by omega) (show ((¬ (I0 6).toInt = 0) → (¬ (I0 6).toInt = 0)) from by omega) (show ((I0 3).toInt ≤ (I0 3).toInt) from by omega) (show (I0 = I0 ∧ J0 = J0 ∧ Rb = Rb) from ⟨rfl, rfl, rfl⟩) hP hD hS (lv_sub hl [0, 1, 2] rfl)
      · have gc100 : ¬ (r98.toInt = 0) := fun q0 => c100 (Int32.toInt_inj.mp q0)
        refine lv_aload_n hx hb dX12_operand_80 rfl (lv_at hl 0 rfl) ?_
        refine lv_iconst (v := 5) hx hb dX12_operand_81 (by decide) ?_
        refine wvv (As := [.int 5]) (rest := []) (b := (g 45)) (d := 3) F hK hP hD hS hA (s_X12_opens l G g q I0 J0 Rb L_60 hvI hvR  5 (by decide) (by first | decide | omega) (by first | decide | omega) (by first | decide | omega) (by first | decide | omega) (by first | decide | omega) (by first | decide | omega) a (fun _ => ⟨d, n, hXb, hTb, hWB, hBb⟩) (fun k hk => by rw [show k = d from by omega]; exact hbb)) kmV_X12_opens mlX12_339 clX12 rfl 0 (Wm_at0 G g q I0 J0 Rb L_60) ⟨(Nat.le_of_ble_eq_true rfl), (Nat.le_of_ble_eq_true rfl)⟩ hl.1 rfl (Nat.le_of_ble_eq_true rfl) dX12_operand_82 (fun u102 H locs hwr101 hP hD hS => ?_)
        obtain ⟨I103, J104, R105, L106⟩ := u102
        replace hP : va_P G.1 vwCl (Wm G g q I103 J104 R105 L106) H := hP
        replace hD : va_D A (Wm G g q I103 J104 R105 L106) := hD
        obtain ⟨hvI, hvR, tIr101, tRr101, F0r101, F1r101, F2r101, F3r101, F4r101, F5r101, F6r101, F7r101, F8r101⟩ := hwr101
        replace F0r101 : ((I103 6).toInt = 0 → (I0 3).toInt < (I103 3).toInt) := F0r101
        replace F1r101 : ((I103 6).toInt = 0 → 1 ≤ (I103 13).toInt) := F1r101
        replace F2r101 : ((I103 3).toInt ≤ (I103 4).toInt) := F2r101
        replace F3r101 : ((I103 4).toInt ≤ (I0 1).toInt) := F3r101
        replace F4r101 : ((¬ (I103 2).toInt = 0) → (I103 3).toInt < (I103 4).toInt) := F4r101
        replace F5r101 : ((¬ (I0 6).toInt = 0) → (¬ (I103 6).toInt = 0)) := F5r101
        replace F6r101 : ((I0 3).toInt ≤ (I103 3).toInt) := F6r101
        replace F7r101 : (¬ (5 : Int) = 3 → RS a 0 I103 (J104 0) R105) := F7r101
        replace F8r101 : (∀ v : Int32, 10 ≤ v.toInt → v.toInt ≤ 21 → RS a 0 I103 (J104 0) (va_up R105 31 (upd (R105 31) (((I103 13).toInt - 1).toNat) v))) := F8r101
        replace hvI : InvI Wm_lo Wm_hi I103 := hvI
        replace hvR : InvR Wm_rl R105 := hvR
        replace tIr101 : SmF ([2, 3, 4, 5, 6, 7, 13, 14] : List Nat) I0 I103 := tIr101
        replace tRr101 : SmF ([28, 29, 30, 32] : List Nat) Rb R105 := tRr101
        have hv_I103 := hvI
        have hsI := smF_tr hsI tIr101 (by decide)
        have hsR := smF_tr hsR tRr101 (by decide)
        have u_I103_1 : (I103 1).toInt = (I0 1).toInt := congrArg Int32.toInt (tIr101 1 rfl)
        have w_I103_2 := rg (hvI 2 (by decide)) (0) (3) rfl rfl
        have w_I103_3 := rg (hvI 3 (by decide)) (0) (1800) rfl rfl
        have w_I103_4 := rg (hvI 4 (by decide)) (0) (1800) rfl rfl
        have w_I103_5 := rg (hvI 5 (by decide)) (0) (9999) rfl rfl
        have w_I103_6 := rg (hvI 6 (by decide)) (0) (5) rfl rfl
        have u_I103_11 : (I103 11).toInt = (I0 11).toInt := congrArg Int32.toInt (tIr101 11 rfl)
        have u_I103_12 : (I103 12).toInt = (I0 12).toInt := congrArg Int32.toInt (tIr101 12 rfl)
        have w_I103_13 := rg (hvI 13 (by decide)) (0) (9) rfl rfl
        have w_I103_14 := rg (hvI 14 (by decide)) (0) (8) rfl rfl
        have u_I103_15 : (I103 15).toInt = (I0 15).toInt := congrArg Int32.toInt (tIr101 15 rfl)
        have u_I103_16 : (I103 16).toInt = (I0 16).toInt := congrArg Int32.toInt (tIr101 16 rfl)
        have nr101_0 : ((I103 3).toInt ≤ (I103 4).toInt) := by omega
        have nr101_1 : ((I103 4).toInt ≤ (I0 1).toInt) := by omega
        have nr101_2 : ((¬ (I103 2).toInt = 0) → (I103 3).toInt < (I103 4).toInt) := by omega
        have nr101_3 : ((¬ (I0 6).toInt = 0) → (¬ (I103 6).toInt = 0)) := by omega
        have nr101_4 : ((I0 3).toInt ≤ (I103 3).toInt) := by omega
        clear z1_60 z2_60 z3_60 z4_60 z5_60 F2r101 F3r101 F4r101 F5r101 F6r101
        have ker101 := ke_sm keb (congrArg Int32.toInt (tIr101 12 rfl)) (congrArg Int32.toInt (tIr101 11 rfl)) (tRr101 26 rfl)
        refine lv_iconst (v := 0) hx hb dX12_operand_85 (by decide) ?_
        rw [hQ]
        exact q_z F hr hlk (I103, J104, R105, L106) hP hD hS ⟨hvI, hvR, hsI, hsR, (show ((0 : Int) ≤ 0 ∧ 0 ≤ (1 : Int)) from by omega), (show ((I103 6).toInt = 0 → (I0 3).toInt < (I103 3).toInt) from by omega), (show ((I103 3).toInt ≤ (I103 4).toInt) from by omega), (show ((I103 4).toInt ≤ (I0 1).toInt) from by omega), (show ((¬ (I103 2).toInt = 0) → (I103 3).toInt < (I103 4).toInt) from by omega), (show ((¬ (I0 6).toInt = 0) → (¬ (I103 6).toInt = 0)) from by omega), (show ((I0 3).toInt ≤ (I103 3).toInt) from by omega), (show (RS a (0 : Int).toNat I103 (J104 0) R105) from (F7r101 (by decide))), (show (KE I0 (R0 26) I103 (R105 26)) from ker101)⟩ dX12_operand_86 (Nat.le_of_ble_eq_true rfl) (Nat.le_of_ble_eq_true rfl) (nar01 (by decide))
  have lab_33 : ∀ (a1_33 : Int32) (b0_33 : Int32) (I_33 : Nat → Int32) (J_33 : Nat → Int64) (R_33 : Nat → Nat → Int32) (L_33 : Nat → Nat → Int64) (H : Heap) (locs : List Loc) (ls : Array Slot), InvI Wm_lo Wm_hi I_33 → InvR Wm_rl R_33 → SmF ([2, 3, 4, 5, 6, 7, 11, 13, 14, 15] : List Nat) I0 I_33 → SmF ([26, 27, 28, 29, 30, 31, 32, 33] : List Nat) R0 R_33 → ((0 : Int) ≤ a1_33.toInt ∧ a1_33.toInt ≤ (8 : Int)) → ((0 : Int) ≤ b0_33.toInt ∧ b0_33.toInt ≤ (1 : Int)) → (a1_33.toInt = (I0 13).toInt - 1) → ((I_33 3).toInt ≤ (I_33 4).toInt) → ((I_33 4).toInt ≤ (I0 1).toInt) → ((¬ (I_33 2).toInt = 0) → (I_33 3).toInt < (I_33 4).toInt) → ((¬ (I0 6).toInt = 0) → (¬ (I_33 6).toInt = 0)) → ((I0 3).toInt ≤ (I_33 3).toInt) → (I0 = I_33 ∧ J0 = J_33 ∧ R0 = R_33) → (b0_33.toInt = 1 → (R0 30 d).toInt = 1) → va_P G.1 vwCl (Wm G g q I_33 J_33 R_33 L_33) H → va_D A (Wm G g q I_33 J_33 R_33 L_33) → va_S A s.heap H locs → lv_has ls 4 [(0, .ref (g 45)), (1, .int a1_33)] → W p l e (rmD 4 0 0) s m [.ref (g 45)].toArray below meth c H locs 0 0 Q (F0 m 33 ls [.int b0_33]) := by
    intro a1_33 b0_33 I_33 J_33 R_33 L_33 H locs ls hvI hvR hsI hsR y0_33 y1_33 z0_33 z1_33 z2_33 z3_33 z4_33 z5_33 xl0_33 xl1_33 hP hD hS hl
    have hv_I_33 := hvI
    have w_I_33_1 := rg (hvI 1 (by decide)) (0) (1800) rfl rfl
    have v_I_33_1 : (I_33 1).toInt = (I0 1).toInt := congrArg Int32.toInt (hsI 1 rfl)
    have w_I_33_2 := rg (hvI 2 (by decide)) (0) (3) rfl rfl
    have w_I_33_3 := rg (hvI 3 (by decide)) (0) (1800) rfl rfl
    have w_I_33_4 := rg (hvI 4 (by decide)) (0) (1800) rfl rfl
    have w_I_33_5 := rg (hvI 5 (by decide)) (0) (9999) rfl rfl
    have w_I_33_6 := rg (hvI 6 (by decide)) (0) (5) rfl rfl
    have w_I_33_11 := rg (hvI 11 (by decide)) (0) (1800) rfl rfl
    have w_I_33_12 := rg (hvI 12 (by decide)) (0) (1) rfl rfl
    have v_I_33_12 : (I_33 12).toInt = (I0 12).toInt := congrArg Int32.toInt (hsI 12 rfl)
    have w_I_33_13 := rg (hvI 13 (by decide)) (0) (9) rfl rfl
    have w_I_33_14 := rg (hvI 14 (by decide)) (0) (8) rfl rfl
    have w_I_33_15 := rg (hvI 15 (by decide)) (0) (499) rfl rfl
    have w_I_33_16 := rg (hvI 16 (by decide)) (0) (1) rfl rfl
    have v_I_33_16 : (I_33 16).toInt = (I0 16).toInt := congrArg Int32.toInt (hsI 16 rfl)
    obtain ⟨qI, qJ, qR⟩ := xl0_33
    subst qI
    subst qJ
    subst qR
    refine lv_istore_n (lv' := [(2, .int b0_33), (0, .ref (g 45)), (1, .int a1_33)]) hx hb dX12_operand_33 rfl hl (by decide) rfl (fun ls hl => ?_)
    refine lv_iload_n hx hb dX12_operand_34 rfl (lv_at hl 0 rfl) ?_
    refine lv_if_eq (tgt := 60) hx hb dX12_operand_35 (by decide) (fun c107 => ?_) (fun c107 => ?_)
    · have gc107 : b0_33.toInt = 0 := congrArg Int32.toInt c107
      exact lab_60 a1_33 b0_33 I0 J0 R0 L_33 _ _ _ hvI hvR hsI hsR (show ((0 : Int) ≤ a1_33.toInt ∧ a1_33.toInt ≤ (8 : Int)) from by omega) (show ((0 : Int) ≤ b0_33.toInt ∧ b0_33.toInt ≤ (1 : Int)) from by omega) (show (a1_33.toInt = (I0 13).toInt - 1) from by omega) (show ((I0 3).toInt ≤ (I0 4).toInt) from by omega) (show ((I0 4).toInt ≤ (I0 1).toInt) from by omega) (show ((¬ (I0 2).toInt = 0) → (I0 3).toInt < (I0 4).toInt) from by omega) (show ((¬ (I0 6).toInt = 0) → (¬ (I0 6).toInt = 0)) from by omega) (show ((I0 3).toInt ≤ (I0 3).toInt) from by omega) (show (I0 = I0 ∧ J0 = J0 ∧ R0 = R0) from ⟨rfl, rfl, rfl⟩) hP hD hS (lv_sub hl [1, 2, 0] rfl)
    · have gc107 : ¬ (b0_33.toInt = 0) := fun q0 => c107 (Int32.toInt_inj.mp q0)
      refine lv_aload_n hx hb dX12_operand_38 rfl (lv_at hl 1 rfl) ?_
      refine lv_ldc2 hx hb hown (F.2.2.2.2 _ clX12_300) dX12_operand_39 ?_
      refine wvi (As := [.long 7237492]) (rest := []) (b := (g 45)) (d := 1) F hK hP hD hS hA (s_X12_isWord2 l G g q I0 J0 R0 L_33 hvI hvR  7237492 ) kmV_X12_isWord mlX12_332 clX12 rfl 0 (Wm_at0 G g q I0 J0 R0 L_33) ⟨(Nat.le_of_ble_eq_true rfl), (Nat.le_of_ble_eq_true rfl)⟩ hl.1 rfl (Nat.le_of_ble_eq_true rfl) dX12_operand_42 (fun r108 u109 H locs hwr108 hP hD hS => ?_)
      obtain ⟨F0r108, F1r108, F2r108⟩ := hwr108
      replace F0r108 : ((0 : Int) ≤ r108.toInt ∧ r108.toInt ≤ (1 : Int)) := F0r108
      replace F1r108 : (r108.toInt = 1 → (I0 2).toInt = 1) := F1r108
      replace F2r108 : (r108.toInt = 1 → J0 0 = 7237492) := F2r108
      refine lv_if_eq (tgt := 60) hx hb dX12_operand_45 (by decide) (fun c110 => ?_) (fun c110 => ?_)
      · have gc110 : r108.toInt = 0 := congrArg Int32.toInt c110
        exact lab_60 a1_33 b0_33 I0 J0 R0 L_33 _ _ _ hvI hvR hsI hsR (show ((0 : Int) ≤ a1_33.toInt ∧ a1_33.toInt ≤ (8 : Int)) from by omega) (show ((0 : Int) ≤ b0_33.toInt ∧ b0_33.toInt ≤ (1 : Int)) from by omega) (show (a1_33.toInt = (I0 13).toInt - 1) from by omega) (show ((I0 3).toInt ≤ (I0 4).toInt) from by omega) (show ((I0 4).toInt ≤ (I0 1).toInt) from by omega) (show ((¬ (I0 2).toInt = 0) → (I0 3).toInt < (I0 4).toInt) from by omega) (show ((¬ (I0 6).toInt = 0) → (¬ (I0 6).toInt = 0)) from by omega) (show ((I0 3).toInt ≤ (I0 3).toInt) from by omega) (show (I0 = I0 ∧ J0 = J0 ∧ R0 = R0) from ⟨rfl, rfl, rfl⟩) hP hD hS (lv_sub hl [1, 2, 0] rfl)
      · have gc110 : ¬ (r108.toInt = 0) := fun q0 => c110 (Int32.toInt_inj.mp q0)
        refine lv_aload_n hx hb dX12_operand_48 rfl (lv_at hl 1 rfl) ?_
        refine lv_bipush (v := 22) hx hb dX12_operand_49 (by decide) ?_
        refine wvv (As := [.int 22]) (rest := []) (b := (g 45)) (d := 1) F hK hP hD hS hA (s_X12_holdsBack l G g q I0 J0 R0 L_33 hvI hvR  22 (by decide) (by omega)) kmV_X12_holdsBack mlX12_336 clX12 rfl 0 (Wm_at0 G g q I0 J0 R0 L_33) ⟨(Nat.le_of_ble_eq_true rfl), (Nat.le_of_ble_eq_true rfl)⟩ hl.1 rfl (Nat.le_of_ble_eq_true rfl) dX12_operand_51 (fun u112 H locs hwr111 hP hD hS => ?_)
        obtain ⟨I113, J114, R115, L116⟩ := u112
        replace hP : va_P G.1 vwCl (Wm G g q I113 J114 R115 L116) H := hP
        replace hD : va_D A (Wm G g q I113 J114 R115 L116) := hD
        obtain ⟨hvI, hvR, tIr111, tRr111, F0r111, F1r111⟩ := hwr111
        replace F0r111 : ((I113 15).toInt = (I0 15).toInt + 1) := F0r111
        replace F1r111 : (R115 33 = upd (R0 33) (Int32.toNatClampNeg (I0 15)) 22) := F1r111
        replace hvI : InvI Wm_lo Wm_hi I113 := hvI
        replace hvR : InvR Wm_rl R115 := hvR
        replace tIr111 : SmF ([15] : List Nat) I0 I113 := tIr111
        replace tRr111 : SmF ([33] : List Nat) R0 R115 := tRr111
        have hv_I113 := hvI
        have hsI := smF_tr hsI tIr111 (by decide)
        have hsR := smF_tr hsR tRr111 (by decide)
        have u_I113_1 : (I113 1).toInt = (I0 1).toInt := congrArg Int32.toInt (tIr111 1 rfl)
        have u_I113_2 : (I113 2).toInt = (I0 2).toInt := congrArg Int32.toInt (tIr111 2 rfl)
        have u_I113_3 : (I113 3).toInt = (I0 3).toInt := congrArg Int32.toInt (tIr111 3 rfl)
        have u_I113_4 : (I113 4).toInt = (I0 4).toInt := congrArg Int32.toInt (tIr111 4 rfl)
        have u_I113_5 : (I113 5).toInt = (I0 5).toInt := congrArg Int32.toInt (tIr111 5 rfl)
        have u_I113_6 : (I113 6).toInt = (I0 6).toInt := congrArg Int32.toInt (tIr111 6 rfl)
        have u_I113_11 : (I113 11).toInt = (I0 11).toInt := congrArg Int32.toInt (tIr111 11 rfl)
        have u_I113_12 : (I113 12).toInt = (I0 12).toInt := congrArg Int32.toInt (tIr111 12 rfl)
        have u_I113_13 : (I113 13).toInt = (I0 13).toInt := congrArg Int32.toInt (tIr111 13 rfl)
        have u_I113_14 : (I113 14).toInt = (I0 14).toInt := congrArg Int32.toInt (tIr111 14 rfl)
        have w_I113_15 := rg (hvI 15 (by decide)) (0) (499) rfl rfl
        have u_I113_16 : (I113 16).toInt = (I0 16).toInt := congrArg Int32.toInt (tIr111 16 rfl)
        have nr111_0 : ((I113 3).toInt ≤ (I113 4).toInt) := by omega
        have nr111_1 : ((I113 4).toInt ≤ (I0 1).toInt) := by omega
        have nr111_2 : ((¬ (I113 2).toInt = 0) → (I113 3).toInt < (I113 4).toInt) := by omega
        have nr111_3 : ((¬ (I0 6).toInt = 0) → (¬ (I113 6).toInt = 0)) := by omega
        have nr111_4 : ((I0 3).toInt ≤ (I113 3).toInt) := by omega
        clear z1_33 z2_33 z3_33 z4_33 z5_33
        have ker111 := ke_sm (ke_rf I0 (R0 26)) (congrArg Int32.toInt (tIr111 12 rfl)) (congrArg Int32.toInt (tIr111 11 rfl)) (tRr111 26 rfl)
        have rmr111 := rm_not hX hTL hBY (by omega) (hWB (by omega) (F2r108 (by omega))) (xl1_33 (by omega)) (by omega) tIr111 tRr111 F0r111 F1r111
        refine lv_aload_n hx hb dX12_operand_54 rfl (lv_at hl 1 rfl) ?_
        refine wvv (As := []) (rest := []) (b := (g 45)) (d := 2) F hK hP hD hS hA (s_X12_ahead2 l G g q I113 J114 R115 L116 hvI hvR   (by omega) (by omega) (by omega)) kmV_X12_ahead mlX12_247 clX12 rfl 0 (Wm_at0 G g q I113 J114 R115 L116) ⟨(Nat.le_of_ble_eq_true rfl), (Nat.le_of_ble_eq_true rfl)⟩ hl.1 rfl (Nat.le_of_ble_eq_true rfl) dX12_operand_55 (fun u118 H locs hwr117 hP hD hS => ?_)
        obtain ⟨I119, J120, R121, L122⟩ := u118
        replace hP : va_P G.1 vwCl (Wm G g q I119 J120 R121 L122) H := hP
        replace hD : va_D A (Wm G g q I119 J120 R121 L122) := hD
        obtain ⟨hvI, hvR, tIr117, tRr117, F0r117, F1r117, F2r117, F3r117, F4r117, F5r117, F6r117, F7r117, F8r117⟩ := hwr117
        replace F0r117 : ((I113 4).toInt ≤ (I119 3).toInt) := F0r117
        replace F1r117 : ((I119 3).toInt ≤ (I119 4).toInt) := F1r117
        replace F2r117 : ((I119 4).toInt ≤ (I113 1).toInt) := F2r117
        replace F3r117 : ((¬ (I119 2).toInt = 0) → (I119 3).toInt < (I119 4).toInt) := F3r117
        replace F4r117 : ((¬ (I113 6).toInt = 0) → (¬ (I119 6).toInt = 0)) := F4r117
        replace F5r117 : ((I113 3).toInt ≤ (I119 3).toInt) := F5r117
        replace F6r117 : (TL I119 (R115 0)) := F6r117
        replace F7r117 : (WB I119 (J120 0)) := F7r117
        replace F8r117 : (TL I113 (R115 0) → (I113 2).toInt = 1 → (I119 6).toInt = 0 → ((I119 2).toInt = 1 ∨ (I119 2).toInt = 2) → (I113 4).toInt + 1 ≤ (I119 3).toInt) := F8r117
        replace hvI : InvI Wm_lo Wm_hi I119 := hvI
        replace hvR : InvR Wm_rl R121 := hvR
        replace tIr117 : SmF ([2, 3, 4, 5, 6, 7] : List Nat) I113 I119 := tIr117
        replace tRr117 : SmF ([] : List Nat) R115 R121 := tRr117
        have hv_I119 := hvI
        have hsI := smF_tr hsI tIr117 (by decide)
        have hsR := smF_tr hsR tRr117 (by decide)
        have u_I119_1 : (I119 1).toInt = (I113 1).toInt := congrArg Int32.toInt (tIr117 1 rfl)
        have w_I119_2 := rg (hvI 2 (by decide)) (0) (3) rfl rfl
        have w_I119_3 := rg (hvI 3 (by decide)) (0) (1800) rfl rfl
        have w_I119_4 := rg (hvI 4 (by decide)) (0) (1800) rfl rfl
        have w_I119_5 := rg (hvI 5 (by decide)) (0) (9999) rfl rfl
        have w_I119_6 := rg (hvI 6 (by decide)) (0) (5) rfl rfl
        have u_I119_11 : (I119 11).toInt = (I113 11).toInt := congrArg Int32.toInt (tIr117 11 rfl)
        have u_I119_12 : (I119 12).toInt = (I113 12).toInt := congrArg Int32.toInt (tIr117 12 rfl)
        have u_I119_13 : (I119 13).toInt = (I113 13).toInt := congrArg Int32.toInt (tIr117 13 rfl)
        have u_I119_14 : (I119 14).toInt = (I113 14).toInt := congrArg Int32.toInt (tIr117 14 rfl)
        have u_I119_15 : (I119 15).toInt = (I113 15).toInt := congrArg Int32.toInt (tIr117 15 rfl)
        have u_I119_16 : (I119 16).toInt = (I113 16).toInt := congrArg Int32.toInt (tIr117 16 rfl)
        have nr117_0 : ((I119 3).toInt ≤ (I119 4).toInt) := by omega
        have nr117_1 : ((I119 4).toInt ≤ (I0 1).toInt) := by omega
        have nr117_2 : ((¬ (I119 2).toInt = 0) → (I119 3).toInt < (I119 4).toInt) := by omega
        have nr117_3 : ((¬ (I0 6).toInt = 0) → (¬ (I119 6).toInt = 0)) := by omega
        have nr117_4 : ((I0 3).toInt ≤ (I119 3).toInt) := by omega
        clear nr111_0 nr111_1 nr111_2 nr111_3 nr111_4 F1r117 F2r117 F3r117 F4r117 F5r117
        have ker117 := ke_sm ker111 (congrArg Int32.toInt (tIr117 12 rfl)) (congrArg Int32.toInt (tIr117 11 rfl)) (tRr117 26 rfl)
        have rsr117 := rs_ahead rmr111 tIr117 tRr117 F0r117 F6r117 F7r117 F8r117
        refine lv_iconst (v := 0) hx hb dX12_operand_58 (by decide) ?_
        rw [hQ]
        exact q_z F hr hlk (I119, J120, R121, L122) hP hD hS ⟨hvI, hvR, hsI, hsR, (show ((0 : Int) ≤ 0 ∧ 0 ≤ (1 : Int)) from by omega), (show ((I119 6).toInt = 0 → (I0 3).toInt < (I119 3).toInt) from by omega), (show ((I119 3).toInt ≤ (I119 4).toInt) from by omega), (show ((I119 4).toInt ≤ (I0 1).toInt) from by omega), (show ((¬ (I119 2).toInt = 0) → (I119 3).toInt < (I119 4).toInt) from by omega), (show ((¬ (I0 6).toInt = 0) → (¬ (I119 6).toInt = 0)) from by omega), (show ((I0 3).toInt ≤ (I119 3).toInt) from by omega), (show (RS a (0 : Int).toNat I119 (J120 0) R121) from rsr117), (show (KE I0 (R0 26) I119 (R121 26)) from ker117)⟩ dX12_operand_59 (Nat.le_of_ble_eq_true rfl) (Nat.le_of_ble_eq_true rfl) (nar01 (by decide))
  have lab_32 : ∀ (a1_32 : Int32) (I_32 : Nat → Int32) (J_32 : Nat → Int64) (R_32 : Nat → Nat → Int32) (L_32 : Nat → Nat → Int64) (H : Heap) (locs : List Loc) (ls : Array Slot), InvI Wm_lo Wm_hi I_32 → InvR Wm_rl R_32 → SmF ([2, 3, 4, 5, 6, 7, 11, 13, 14, 15] : List Nat) I0 I_32 → SmF ([26, 27, 28, 29, 30, 31, 32, 33] : List Nat) R0 R_32 → ((0 : Int) ≤ a1_32.toInt ∧ a1_32.toInt ≤ (8 : Int)) → (a1_32.toInt = (I0 13).toInt - 1) → ((I_32 3).toInt ≤ (I_32 4).toInt) → ((I_32 4).toInt ≤ (I0 1).toInt) → ((¬ (I_32 2).toInt = 0) → (I_32 3).toInt < (I_32 4).toInt) → ((¬ (I0 6).toInt = 0) → (¬ (I_32 6).toInt = 0)) → ((I0 3).toInt ≤ (I_32 3).toInt) → (I0 = I_32 ∧ J0 = J_32 ∧ R0 = R_32) → va_P G.1 vwCl (Wm G g q I_32 J_32 R_32 L_32) H → va_D A (Wm G g q I_32 J_32 R_32 L_32) → va_S A s.heap H locs → lv_has ls 4 [(0, .ref (g 45)), (1, .int a1_32)] → W p l e (rmD 4 0 0) s m [.ref (g 45)].toArray below meth c H locs 0 0 Q (F0 m 32 ls []) := by
    intro a1_32 I_32 J_32 R_32 L_32 H locs ls hvI hvR hsI hsR y0_32 z0_32 z1_32 z2_32 z3_32 z4_32 z5_32 xl0_32 hP hD hS hl
    have hv_I_32 := hvI
    have w_I_32_1 := rg (hvI 1 (by decide)) (0) (1800) rfl rfl
    have v_I_32_1 : (I_32 1).toInt = (I0 1).toInt := congrArg Int32.toInt (hsI 1 rfl)
    have w_I_32_2 := rg (hvI 2 (by decide)) (0) (3) rfl rfl
    have w_I_32_3 := rg (hvI 3 (by decide)) (0) (1800) rfl rfl
    have w_I_32_4 := rg (hvI 4 (by decide)) (0) (1800) rfl rfl
    have w_I_32_5 := rg (hvI 5 (by decide)) (0) (9999) rfl rfl
    have w_I_32_6 := rg (hvI 6 (by decide)) (0) (5) rfl rfl
    have w_I_32_11 := rg (hvI 11 (by decide)) (0) (1800) rfl rfl
    have w_I_32_12 := rg (hvI 12 (by decide)) (0) (1) rfl rfl
    have v_I_32_12 : (I_32 12).toInt = (I0 12).toInt := congrArg Int32.toInt (hsI 12 rfl)
    have w_I_32_13 := rg (hvI 13 (by decide)) (0) (9) rfl rfl
    have w_I_32_14 := rg (hvI 14 (by decide)) (0) (8) rfl rfl
    have w_I_32_15 := rg (hvI 15 (by decide)) (0) (499) rfl rfl
    have w_I_32_16 := rg (hvI 16 (by decide)) (0) (1) rfl rfl
    have v_I_32_16 : (I_32 16).toInt = (I0 16).toInt := congrArg Int32.toInt (hsI 16 rfl)
    obtain ⟨qI, qJ, qR⟩ := xl0_32
    subst qI
    subst qJ
    subst qR
    refine lv_iconst (v := 0) hx hb dX12_operand_32 (by decide) ?_
    exact lab_33 a1_32 0 I0 J0 R0 L_32 _ _ _ hvI hvR hsI hsR (show ((0 : Int) ≤ a1_32.toInt ∧ a1_32.toInt ≤ (8 : Int)) from by omega) (by decide) (show (a1_32.toInt = (I0 13).toInt - 1) from by omega) (show ((I0 3).toInt ≤ (I0 4).toInt) from by omega) (show ((I0 4).toInt ≤ (I0 1).toInt) from by omega) (show ((¬ (I0 2).toInt = 0) → (I0 3).toInt < (I0 4).toInt) from by omega) (show ((¬ (I0 6).toInt = 0) → (¬ (I0 6).toInt = 0)) from by omega) (show ((I0 3).toInt ≤ (I0 3).toInt) from by omega) (show (I0 = I0 ∧ J0 = J0 ∧ R0 = R0) from ⟨rfl, rfl, rfl⟩) (show (0 = 1 → (R0 30 d).toInt = 1) from fun h => absurd h (by decide)) hP hD hS (lv_sub hl [0, 1] rfl)
  have w_I0_1 := rg (hvI 1 (by decide)) (0) (1800) rfl rfl
  have w_I0_2 := rg (hvI 2 (by decide)) (0) (3) rfl rfl
  have w_I0_3 := rg (hvI 3 (by decide)) (0) (1800) rfl rfl
  have w_I0_4 := rg (hvI 4 (by decide)) (0) (1800) rfl rfl
  have w_I0_5 := rg (hvI 5 (by decide)) (0) (9999) rfl rfl
  have w_I0_6 := rg (hvI 6 (by decide)) (0) (5) rfl rfl
  have w_I0_11 := rg (hvI 11 (by decide)) (0) (1800) rfl rfl
  have w_I0_12 := rg (hvI 12 (by decide)) (0) (1) rfl rfl
  have w_I0_13 := rg (hvI 13 (by decide)) (0) (9) rfl rfl
  have w_I0_14 := rg (hvI 14 (by decide)) (0) (8) rfl rfl
  have w_I0_15 := rg (hvI 15 (by decide)) (0) (499) rfl rfl
  have w_I0_16 := rg (hvI 16 (by decide)) (0) (1) rfl rfl
  refine lv_aload_n hx hb dX12_operand_0 rfl (lv_at hl 0 rfl) ?_
  refine g_get F hK hP 0 (Wm_at0 G g q I0 J0 R0 L0) clX12 50 (by decide) flX12_164 rfl dX12_operand_1 ?_
  have w_I0_13 := rg (hvI0 13 (by decide)) (0) (9) rfl rfl
  refine lv_iconst (v := 1) hx hb dX12_operand_4 (by decide) ?_
  refine lv_isub hx hb dX12_operand_5 ?_
  refine lv_topi (fun x123 ex123 => ?_)
  have fx123 : x123.toInt = (I0 13).toInt - 1 := by rw [ex123]; exact t_sub (by show (-2147483648 : Int) ≤ (I0 13).toInt - 1; omega) (by show (I0 13).toInt - 1 ≤ 2147483647; omega)
  refine lv_istore_n (lv' := [(1, .int x123), (0, .ref (g 45))]) hx hb dX12_operand_6 rfl hl (by decide) rfl (fun ls hl => ?_)
  refine lv_aload_n hx hb dX12_operand_7 rfl (lv_at hl 1 rfl) ?_
  refine g_get F hK hP 0 (Wm_at0 G g q I0 J0 R0 L0) clX12 45 (by decide) flX12_149 rfl dX12_operand_8 ?_
  refine lv_iload_n hx hb dX12_operand_11 rfl (lv_at hl 0 rfl) ?_
  refine g_iald F hK hP 32 (Wm_at32 G g q I0 J0 R0 L0) (in_of (by omega)) dX12_operand_12 rfl ?_
  refine lv_topi (fun x124 ex124 => ?_)
  have gx124 : x124.toInt = (R0 28 (Int32.toNatClampNeg x123)).toInt := congrArg Int32.toInt (ex124)
  have fx124 : ((0 : Int) ≤ x124.toInt ∧ x124.toInt ≤ (5 : Int)) := by rw [ex124]; exact hvR 28 (by decide) _ (clamp_lt (n := 20) (in_of (by omega)))
  refine w0i (As := [.int x124]) (rest := []) (d := 1) F hK hP hD hS hA (s_X12_isTest l G  x124 (show ((0 : Int) ≤ x124.toInt ∧ x124.toInt ≤ (5 : Int)) from by omega)) kmS_X12_isTest mlX12_329 ⟨(Nat.le_of_ble_eq_true rfl), (Nat.le_of_ble_eq_true rfl)⟩ hl.1 rfl (Nat.le_of_ble_eq_true rfl) dX12_operand_13 (fun r125 u126 H locs hwr125 hP hD hS => ?_)
  have F0r125 := hwr125
  replace F0r125 : ((0 : Int) ≤ r125.toInt ∧ r125.toInt ≤ (1 : Int)) := F0r125
  refine lv_if_eq (tgt := 32) hx hb dX12_operand_16 (by decide) (fun c127 => ?_) (fun c127 => ?_)
  · have gc127 : r125.toInt = 0 := congrArg Int32.toInt c127
    exact lab_32 x123 I0 J0 R0 L0 _ _ _ hvI hvR hsI hsR (show ((0 : Int) ≤ x123.toInt ∧ x123.toInt ≤ (8 : Int)) from by omega) (show (x123.toInt = (I0 13).toInt - 1) from by omega) (show ((I0 3).toInt ≤ (I0 4).toInt) from by omega) (show ((I0 4).toInt ≤ (I0 1).toInt) from by omega) (show ((¬ (I0 2).toInt = 0) → (I0 3).toInt < (I0 4).toInt) from by omega) (show ((¬ (I0 6).toInt = 0) → (¬ (I0 6).toInt = 0)) from by omega) (show ((I0 3).toInt ≤ (I0 3).toInt) from by omega) (show (I0 = I0 ∧ J0 = J0 ∧ R0 = R0) from ⟨rfl, rfl, rfl⟩) hP hD hS (lv_sub hl [1, 0] rfl)
  · have gc127 : ¬ (r125.toInt = 0) := fun q0 => c127 (Int32.toInt_inj.mp q0)
    refine lv_aload_n hx hb dX12_operand_19 rfl (lv_at hl 1 rfl) ?_
    refine g_get F hK hP 0 (Wm_at0 G g q I0 J0 R0 L0) clX12 47 (by decide) flX12_155 rfl dX12_operand_20 ?_
    refine lv_iload_n hx hb dX12_operand_23 rfl (lv_at hl 0 rfl) ?_
    refine g_zald F hK hP 34 (Wm_at34 G g q I0 J0 R0 L0) (in_of (by omega)) dX12_operand_24 rfl ?_
    refine lv_topi (fun x128 ex128 => ?_)
    have gx128 : x128.toInt = (R0 30 (Int32.toNatClampNeg x123)).toInt := congrArg Int32.toInt (ex128)
    have fx128 : ((0 : Int) ≤ x128.toInt ∧ x128.toInt ≤ (1 : Int)) := by rw [ex128]; exact hvR 30 (by decide) _ (clamp_lt (n := 20) (in_of (by omega)))
    refine lv_if_eq (tgt := 32) hx hb dX12_operand_25 (by decide) (fun c129 => ?_) (fun c129 => ?_)
    · have gc129 : x128.toInt = 0 := congrArg Int32.toInt c129
      exact lab_32 x123 I0 J0 R0 L0 _ _ _ hvI hvR hsI hsR (show ((0 : Int) ≤ x123.toInt ∧ x123.toInt ≤ (8 : Int)) from by omega) (show (x123.toInt = (I0 13).toInt - 1) from by omega) (show ((I0 3).toInt ≤ (I0 4).toInt) from by omega) (show ((I0 4).toInt ≤ (I0 1).toInt) from by omega) (show ((¬ (I0 2).toInt = 0) → (I0 3).toInt < (I0 4).toInt) from by omega) (show ((¬ (I0 6).toInt = 0) → (¬ (I0 6).toInt = 0)) from by omega) (show ((I0 3).toInt ≤ (I0 3).toInt) from by omega) (show (I0 = I0 ∧ J0 = J0 ∧ R0 = R0) from ⟨rfl, rfl, rfl⟩) hP hD hS (lv_sub hl [1, 0] rfl)
    · have gc129 : ¬ (x128.toInt = 0) := fun q0 => c129 (Int32.toInt_inj.mp q0)
      refine lv_iconst (v := 1) hx hb dX12_operand_28 (by decide) ?_
      refine lv_goto (tgt := 33) hx hb dX12_operand_29 (by decide) ?_
      exact lab_33 x123 1 I0 J0 R0 L0 _ _ _ hvI hvR hsI hsR (show ((0 : Int) ≤ x123.toInt ∧ x123.toInt ≤ (8 : Int)) from by omega) (by decide) (show (x123.toInt = (I0 13).toInt - 1) from by omega) (show ((I0 3).toInt ≤ (I0 4).toInt) from by omega) (show ((I0 4).toInt ≤ (I0 1).toInt) from by omega) (show ((¬ (I0 2).toInt = 0) → (I0 3).toInt < (I0 4).toInt) from by omega) (show ((¬ (I0 6).toInt = 0) → (¬ (I0 6).toInt = 0)) from by omega) (show ((I0 3).toInt ≤ (I0 3).toInt) from by omega) (show (I0 = I0 ∧ J0 = J0 ∧ R0 = R0) from ⟨rfl, rfl, rfl⟩) (show (1 = 1 → (R0 30 d).toInt = 1) from fun _ => at_cl (x := x123) (show (R0 30 (Int32.toNatClampNeg x123)).toInt = 1 from by omega) (by omega)) hP hD hS (lv_sub hl [1, 0] rfl)
