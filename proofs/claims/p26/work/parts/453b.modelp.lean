set_option maxHeartbeats 4000000 in
set_option maxRecDepth 100000 in
theorem s_X12_cannots (l : Launch) (G : Gx) (g q : Nat → Nat) (I0 : Nat → Int32) (J0 : Nat → Int64) (R0 : Nat → Nat → Int32) (L0 : Nat → Nat → Int64) (hvI : InvI Wm_lo Wm_hi I0) (hvR : InvR Wm_rl R0)   (hpre0 : ((I0 3).toInt ≤ (I0 4).toInt)) (hpre1 : ((I0 4).toInt ≤ (I0 1).toInt)) (hpre2 : ((¬ (I0 2).toInt = 0) → (I0 3).toInt < (I0 4).toInt)) : CtV (S := St) l yX12_cannots cX12_cannots 3 none (rmD 4 0 0) G [.ref (g 45)] (Wm G g q I0 J0 R0 L0) (fun u => InvI Wm_lo Wm_hi u.1 ∧ InvR Wm_rl u.2.2.1 ∧ SmF ([2, 3, 4, 5, 6, 7] : List Nat) I0 u.1 ∧ SmF ([10] : List Nat) R0 u.2.2.1 ∧ (((u.1 6).toInt = 0 ∧ ¬ (I0 2).toInt = 0) → (I0 3).toInt < (u.1 3).toInt) ∧ ((u.1 3).toInt ≤ (u.1 4).toInt) ∧ ((u.1 4).toInt ≤ (I0 1).toInt) ∧ ((¬ (u.1 2).toInt = 0) → (u.1 3).toInt < (u.1 4).toInt) ∧ ((¬ (I0 6).toInt = 0) → (¬ (u.1 6).toInt = 0)) ∧ ((I0 3).toInt ≤ (u.1 3).toInt)) (fun u => Wm G g q u.1 u.2.1 u.2.2.1 u.2.2.2) := by
  refine ctV_of (own := RX12) (by decide +kernel) rfl (Nat.le_of_ble_eq_true rfl) ?_
  intro p e s m below meth c A ls F hr hlk hnm hK hP hD hA hS hl
  have hx := F.1
  have hb := F.2.1
  have hown := F.2.2.2.1
  have hl : lv_has ls 3 [(0, .ref (g 45))] := hl
  obtain ⟨Q, hQ⟩ : ∃ Q : State → Prop, Q = MQ below (va_Qv (S := St) (fun u => InvI Wm_lo Wm_hi u.1 ∧ InvR Wm_rl u.2.2.1 ∧ SmF ([2, 3, 4, 5, 6, 7] : List Nat) I0 u.1 ∧ SmF ([10] : List Nat) R0 u.2.2.1 ∧ (((u.1 6).toInt = 0 ∧ ¬ (I0 2).toInt = 0) → (I0 3).toInt < (u.1 3).toInt) ∧ ((u.1 3).toInt ≤ (u.1 4).toInt) ∧ ((u.1 4).toInt ≤ (I0 1).toInt) ∧ ((¬ (u.1 2).toInt = 0) → (u.1 3).toInt < (u.1 4).toInt) ∧ ((¬ (I0 6).toInt = 0) → (¬ (u.1 6).toInt = 0)) ∧ ((I0 3).toInt ≤ (u.1 3).toInt)) (BX G A (fun u => Wm G g q u.1 u.2.1 u.2.2.1 u.2.2.2)) A) [.ref (g 45)].toArray s 0 0 A := ⟨_, rfl⟩
  rw [show (MQ below (va_Qv (S := St) (fun u => InvI Wm_lo Wm_hi u.1 ∧ InvR Wm_rl u.2.2.1 ∧ SmF ([2, 3, 4, 5, 6, 7] : List Nat) I0 u.1 ∧ SmF ([10] : List Nat) R0 u.2.2.1 ∧ (((u.1 6).toInt = 0 ∧ ¬ (I0 2).toInt = 0) → (I0 3).toInt < (u.1 3).toInt) ∧ ((u.1 3).toInt ≤ (u.1 4).toInt) ∧ ((u.1 4).toInt ≤ (I0 1).toInt) ∧ ((¬ (u.1 2).toInt = 0) → (u.1 3).toInt < (u.1 4).toInt) ∧ ((¬ (I0 6).toInt = 0) → (¬ (u.1 6).toInt = 0)) ∧ ((I0 3).toInt ≤ (u.1 3).toInt)) (BX G A (fun u => Wm G g q u.1 u.2.1 u.2.2.1 u.2.2.2)) A) [.ref (g 45)].toArray s (rmD 4 0 0).cells (rmD 4 0 0).slots A) = Q from hQ.symm]
  have hsI := smF_rf ([2, 3, 4, 5, 6, 7] : List Nat) I0
  have hsR := smF_rf ([10] : List Nat) R0
  have hvI0 := hvI
  have w_I0_1 := rg (hvI 1 (by decide)) (0) (1800) rfl rfl
  have w_I0_2 := rg (hvI 2 (by decide)) (0) (3) rfl rfl
  have w_I0_3 := rg (hvI 3 (by decide)) (0) (1800) rfl rfl
  have w_I0_4 := rg (hvI 4 (by decide)) (0) (1800) rfl rfl
  have w_I0_6 := rg (hvI 6 (by decide)) (0) (5) rfl rfl
  refine lv_aload_n hx hb dX12_cannots_0 rfl (lv_at hl 0 rfl) ?_
  refine lv_iconst (v := 0) hx hb dX12_cannots_1 (by decide) ?_
  refine wvi (As := [.int 0]) (rest := []) (b := (g 45)) (d := 3) F hK hP hD hS hA (s_X12_counts l G g q I0 J0 R0 L0 hvI hvR  0 (by decide) (by omega) (by omega) (by omega)) kmV_X12_counts mlX12_358 clX12 rfl 0 (Wm_at0 G g q I0 J0 R0 L0) ⟨(Nat.le_of_ble_eq_true rfl), (Nat.le_of_ble_eq_true rfl)⟩ hl.1 rfl (Nat.le_of_ble_eq_true rfl) dX12_cannots_2 (fun r1 u2 H locs hwr1 hP hD hS => ?_)
  obtain ⟨I3, J4, R5, L6⟩ := u2
  replace hP : va_P G.1 vwCl (Wm G g q I3 J4 R5 L6) H := hP
  replace hD : va_D A (Wm G g q I3 J4 R5 L6) := hD
  obtain ⟨hvI, hvR, tIr1, tRr1, F0r1, F1r1, F2r1, F3r1, F4r1, F5r1, F6r1⟩ := hwr1
  replace F0r1 : ((0 : Int) ≤ r1.toInt ∧ r1.toInt ≤ (1 : Int)) := F0r1
  replace F1r1 : ((r1.toInt = 1 ∧ (0 : Int) = 0 ∧ (I3 6).toInt = 0 ∧ (I0 4).toInt ≤ (I3 3).toInt) ∨ (r1.toInt = 0 ∧ ¬ (I3 6).toInt = 0)) := F1r1
  replace F2r1 : ((I3 3).toInt ≤ (I3 4).toInt) := F2r1
  replace F3r1 : ((I3 4).toInt ≤ (I0 1).toInt) := F3r1
  replace F4r1 : ((¬ (I3 2).toInt = 0) → (I3 3).toInt < (I3 4).toInt) := F4r1
  replace F5r1 : ((¬ (I0 6).toInt = 0) → (¬ (I3 6).toInt = 0)) := F5r1
  replace F6r1 : ((I0 3).toInt ≤ (I3 3).toInt) := F6r1
  replace hvI : InvI Wm_lo Wm_hi I3 := hvI
  replace hvR : InvR Wm_rl R5 := hvR
  replace tIr1 : SmF ([2, 3, 4, 5, 6, 7] : List Nat) I0 I3 := tIr1
  replace tRr1 : SmF ([] : List Nat) R0 R5 := tRr1
  have hv_I3 := hvI
  have hsI := smF_tr hsI tIr1 (by decide)
  have hsR := smF_tr hsR tRr1 (by decide)
  have u_I3_1 : (I3 1).toInt = (I0 1).toInt := congrArg Int32.toInt (tIr1 1 rfl)
  have w_I3_2 := rg (hvI 2 (by decide)) (0) (3) rfl rfl
  have w_I3_3 := rg (hvI 3 (by decide)) (0) (1800) rfl rfl
  have w_I3_4 := rg (hvI 4 (by decide)) (0) (1800) rfl rfl
  have w_I3_6 := rg (hvI 6 (by decide)) (0) (5) rfl rfl
  have nr1_0 : ((I3 3).toInt ≤ (I3 4).toInt) := by omega
  have nr1_1 : ((I3 4).toInt ≤ (I0 1).toInt) := by omega
  have nr1_2 : ((¬ (I3 2).toInt = 0) → (I3 3).toInt < (I3 4).toInt) := by omega
  have nr1_3 : ((¬ (I0 6).toInt = 0) → (¬ (I3 6).toInt = 0)) := by omega
  have nr1_4 : ((I0 3).toInt ≤ (I3 3).toInt) := by omega
  clear F2r1 F3r1 F4r1 F5r1 F6r1
  refine lv_if_ne (tgt := 9) hx hb dX12_cannots_5 (by decide) (fun c7 => ?_) (fun c7 => ?_)
  · have gc7 : ¬ (r1.toInt = 0) := fun q0 => c7 (Int32.toInt_inj.mp q0)
    refine lv_bipush (v := 12) hx hb dX12_cannots_9 (by decide) ?_
    refine lv_aload_n hx hb dX12_cannots_11 rfl (lv_at hl 0 rfl) ?_
    refine g_get F hK hP 0 (Wm_at0 G g q I3 J4 R5 L6) clX12 44 (by decide) flX12_146 rfl dX12_cannots_12 ?_
    refine cst_i (hsI 12 rfl) ?_
    have w_I0_12 := rg (hvI0 12 (by decide)) (0) (1) rfl rfl
    refine lv_imul hx hb dX12_cannots_15 ?_
    refine lv_topi (fun x8 ex8 => ?_)
    have fx8 : x8.toInt = 12 * (I0 12).toInt := by rw [ex8]; exact t_mul (by show (-2147483648 : Int) ≤ 12 * (I0 12).toInt; omega) (by show 12 * (I0 12).toInt ≤ 2147483647; omega)
    refine lv_aload_n hx hb dX12_cannots_16 rfl (lv_at hl 0 rfl) ?_
    refine lv_iconst (v := 2) hx hb dX12_cannots_17 (by decide) ?_
    refine wvi (As := [.int 2]) (rest := [.int x8]) (b := (g 45)) (d := 3) F hK hP hD hS hA (s_X12_asked l G g q I3 J4 R5 L6 hvI hvR  2 (by decide) (by omega) (by omega) (by omega)) kmV_X12_asked mlX12_374 clX12 rfl 0 (Wm_at0 G g q I3 J4 R5 L6) ⟨(Nat.le_of_ble_eq_true rfl), (Nat.le_of_ble_eq_true rfl)⟩ hl.1 rfl (Nat.le_of_ble_eq_true rfl) dX12_cannots_18 (fun r9 u10 H locs hwr9 hP hD hS => ?_)
    obtain ⟨I11, J12, R13, L14⟩ := u10
    replace hP : va_P G.1 vwCl (Wm G g q I11 J12 R13 L14) H := hP
    replace hD : va_D A (Wm G g q I11 J12 R13 L14) := hD
    obtain ⟨hvI, hvR, tIr9, tRr9, F0r9, F1r9, F2r9, F3r9, F4r9, F5r9, F6r9, F7r9⟩ := hwr9
    replace F0r9 : ((0 : Int) ≤ r9.toInt ∧ r9.toInt ≤ (11 : Int)) := F0r9
    replace F1r9 : ((2 : Int) = 0 → r9.toInt ≤ 4) := F1r9
    replace F2r9 : ((2 : Int) = 1 → r9.toInt ≤ 5) := F2r9
    replace F3r9 : ((I11 3).toInt ≤ (I11 4).toInt) := F3r9
    replace F4r9 : ((I11 4).toInt ≤ (I3 1).toInt) := F4r9
    replace F5r9 : ((¬ (I11 2).toInt = 0) → (I11 3).toInt < (I11 4).toInt) := F5r9
    replace F6r9 : ((¬ (I3 6).toInt = 0) → (¬ (I11 6).toInt = 0)) := F6r9
    replace F7r9 : ((I3 3).toInt ≤ (I11 3).toInt) := F7r9
    replace hvI : InvI Wm_lo Wm_hi I11 := hvI
    replace hvR : InvR Wm_rl R13 := hvR
    replace tIr9 : SmF ([2, 3, 4, 5, 6, 7] : List Nat) I3 I11 := tIr9
    replace tRr9 : SmF ([] : List Nat) R5 R13 := tRr9
    have hv_I11 := hvI
    have hsI := smF_tr hsI tIr9 (by decide)
    have hsR := smF_tr hsR tRr9 (by decide)
    have u_I11_1 : (I11 1).toInt = (I3 1).toInt := congrArg Int32.toInt (tIr9 1 rfl)
    have w_I11_2 := rg (hvI 2 (by decide)) (0) (3) rfl rfl
    have w_I11_3 := rg (hvI 3 (by decide)) (0) (1800) rfl rfl
    have w_I11_4 := rg (hvI 4 (by decide)) (0) (1800) rfl rfl
    have w_I11_6 := rg (hvI 6 (by decide)) (0) (5) rfl rfl
    have nr9_0 : ((I11 3).toInt ≤ (I11 4).toInt) := by omega
    have nr9_1 : ((I11 4).toInt ≤ (I0 1).toInt) := by omega
    have nr9_2 : ((¬ (I11 2).toInt = 0) → (I11 3).toInt < (I11 4).toInt) := by omega
    have nr9_3 : ((¬ (I0 6).toInt = 0) → (¬ (I11 6).toInt = 0)) := by omega
    have nr9_4 : ((I0 3).toInt ≤ (I11 3).toInt) := by omega
    have nr9_5 : ((I0 4).toInt ≤ (I11 3).toInt) := by omega
    clear nr1_0 nr1_1 nr1_2 nr1_3 nr1_4 F3r9 F4r9 F5r9 F6r9 F7r9
    refine lv_iadd hx hb dX12_cannots_21 ?_
    refine lv_topi (fun x15 ex15 => ?_)
    have fx15 : x15.toInt = x8.toInt + r9.toInt := by rw [ex15]; exact t_add (by show (-2147483648 : Int) ≤ x8.toInt + r9.toInt; omega) (by show x8.toInt + r9.toInt ≤ 2147483647; omega)
    refine lv_istore_n (lv' := [(1, .int x15), (0, .ref (g 45))]) hx hb dX12_cannots_22 rfl hl (by decide) rfl (fun ls hl => ?_)
    refine lv_aload_n hx hb dX12_cannots_23 rfl (lv_at hl 1 rfl) ?_
    refine wvi (As := []) (rest := []) (b := (g 45)) (d := 3) F hK hP hD hS hA (s_X12_dayHere l G g q I11 J12 R13 L14 hvI hvR   (by omega) (by omega) (by omega)) kmV_X12_dayHere mlX12_377 clX12 rfl 0 (Wm_at0 G g q I11 J12 R13 L14) ⟨(Nat.le_of_ble_eq_true rfl), (Nat.le_of_ble_eq_true rfl)⟩ hl.1 rfl (Nat.le_of_ble_eq_true rfl) dX12_cannots_24 (fun r16 u17 H locs hwr16 hP hD hS => ?_)
    obtain ⟨I18, J19, R20, L21⟩ := u17
    replace hP : va_P G.1 vwCl (Wm G g q I18 J19 R20 L21) H := hP
    replace hD : va_D A (Wm G g q I18 J19 R20 L21) := hD
    obtain ⟨hvI, hvR, tIr16, tRr16, F0r16, F1r16, F2r16, F3r16, F4r16, F5r16⟩ := hwr16
    replace F0r16 : ((0 : Int) ≤ r16.toInt ∧ r16.toInt ≤ (4 : Int)) := F0r16
    replace F1r16 : ((I18 3).toInt ≤ (I18 4).toInt) := F1r16
    replace F2r16 : ((I18 4).toInt ≤ (I11 1).toInt) := F2r16
    replace F3r16 : ((¬ (I18 2).toInt = 0) → (I18 3).toInt < (I18 4).toInt) := F3r16
    replace F4r16 : ((¬ (I11 6).toInt = 0) → (¬ (I18 6).toInt = 0)) := F4r16
    replace F5r16 : ((I11 3).toInt ≤ (I18 3).toInt) := F5r16
    replace hvI : InvI Wm_lo Wm_hi I18 := hvI
    replace hvR : InvR Wm_rl R20 := hvR
    replace tIr16 : SmF ([2, 3, 4, 5, 6, 7] : List Nat) I11 I18 := tIr16
    replace tRr16 : SmF ([] : List Nat) R13 R20 := tRr16
    have hv_I18 := hvI
    have hsI := smF_tr hsI tIr16 (by decide)
    have hsR := smF_tr hsR tRr16 (by decide)
    have u_I18_1 : (I18 1).toInt = (I11 1).toInt := congrArg Int32.toInt (tIr16 1 rfl)
    have w_I18_2 := rg (hvI 2 (by decide)) (0) (3) rfl rfl
    have w_I18_3 := rg (hvI 3 (by decide)) (0) (1800) rfl rfl
    have w_I18_4 := rg (hvI 4 (by decide)) (0) (1800) rfl rfl
    have w_I18_6 := rg (hvI 6 (by decide)) (0) (5) rfl rfl
    have nr16_0 : ((I18 3).toInt ≤ (I18 4).toInt) := by omega
    have nr16_1 : ((I18 4).toInt ≤ (I0 1).toInt) := by omega
    have nr16_2 : ((¬ (I18 2).toInt = 0) → (I18 3).toInt < (I18 4).toInt) := by omega
    have nr16_3 : ((¬ (I0 6).toInt = 0) → (¬ (I18 6).toInt = 0)) := by omega
    have nr16_4 : ((I0 3).toInt ≤ (I18 3).toInt) := by omega
    have nr16_5 : ((I0 4).toInt ≤ (I18 3).toInt) := by omega
    clear nr9_0 nr9_1 nr9_2 nr9_3 nr9_4 nr9_5 F1r16 F2r16 F3r16 F4r16 F5r16
    refine lv_istore_n (lv' := [(2, .int r16), (1, .int x15), (0, .ref (g 45))]) hx hb dX12_cannots_27 rfl hl (by decide) rfl (fun ls hl => ?_)
    refine lv_aload_n hx hb dX12_cannots_28 rfl (lv_at hl 2 rfl) ?_
    refine g_get F hK hP 0 (Wm_at0 G g q I18 J19 R20 L21) clX12 8 (by decide) flX12_36 rfl dX12_cannots_29 ?_
    have w_I18_6 := rg (hv_I18 6 (by decide)) (0) (5) rfl rfl
    refine lv_if_ne (tgt := 47) hx hb dX12_cannots_32 (by decide) (fun c22 => ?_) (fun c22 => ?_)
    · have gc22 : ¬ ((I18 6).toInt = 0) := fun q0 => c22 (Int32.toInt_inj.mp q0)
      rw [hQ]
      exact q_v F hr hlk (I18, J19, R20, L21) hP hD hS ⟨hvI, hvR, hsI, hsR, (show (((I18 6).toInt = 0 ∧ ¬ (I0 2).toInt = 0) → (I0 3).toInt < (I18 3).toInt) from by omega), (show ((I18 3).toInt ≤ (I18 4).toInt) from by omega), (show ((I18 4).toInt ≤ (I0 1).toInt) from by omega), (show ((¬ (I18 2).toInt = 0) → (I18 3).toInt < (I18 4).toInt) from by omega), (show ((¬ (I0 6).toInt = 0) → (¬ (I18 6).toInt = 0)) from by omega), (show ((I0 3).toInt ≤ (I18 3).toInt) from by omega)⟩ dX12_cannots_47 (Nat.le_of_ble_eq_true rfl) (Nat.le_of_ble_eq_true rfl)
    · have gc22 : (I18 6).toInt = 0 := congrArg Int32.toInt c22
      refine lv_aload_n hx hb dX12_cannots_35 rfl (lv_at hl 2 rfl) ?_
      refine g_get F hK hP 0 (Wm_at0 G g q I18 J19 R20 L21) clX12 25 (by decide) flX12_89 rfl dX12_cannots_36 ?_
      refine lv_iload_n hx hb dX12_cannots_39 rfl (lv_at hl 1 rfl) ?_
      refine lv_dup2_11 hx hb dX12_cannots_40 rfl rfl ?_
      refine g_iald F hK hP 14 (Wm_at14 G g q I18 J19 R20 L21) (in_of (by omega)) dX12_cannots_41 rfl ?_
      refine lv_topi (fun x23 ex23 => ?_)
      have gx23 : x23.toInt = (R0 10 (Int32.toNatClampNeg x15)).toInt := congrArg Int32.toInt ((((ex23).trans (congrFun (tRr16 10 rfl) _)).trans (congrFun (tRr9 10 rfl) _)).trans (congrFun (tRr1 10 rfl) _))
      refine lv_iconst (v := 1) hx hb dX12_cannots_42 (by decide) ?_
      refine lv_iload_n hx hb dX12_cannots_43 rfl (lv_at hl 0 rfl) ?_
      refine lv_ishl hx hb dX12_cannots_44 ?_
      refine lv_topi (fun x24 ex24 => ?_)
      refine lv_ior hx hb dX12_cannots_45 ?_
      refine lv_topi (fun x25 ex25 => ?_)
      refine p_row (W1 := fun y => Wm G g q I18 J19 y L21) (n := 10) F hK hP hD hS 14 (Wm_at14 G g q I18 J19 R20 L21) (in_of (by omega)) dX12_cannots_46 (Wm_rowR10 G g q I18 J19 R20 L21) (fun R26 H locs eR26 hP hD hS => ?_)
      have hvR : InvR Wm_rl R26 := inv_upR hvR 10 eR26 (upd_in (hvR 10 (by decide)) (full _))
      have hsR := smF_up hsR eR26 (by decide)
      rw [hQ]
      exact q_v F hr hlk (I18, J19, R26, L21) hP hD hS ⟨hvI, hvR, hsI, hsR, (show (((I18 6).toInt = 0 ∧ ¬ (I0 2).toInt = 0) → (I0 3).toInt < (I18 3).toInt) from by omega), (show ((I18 3).toInt ≤ (I18 4).toInt) from by omega), (show ((I18 4).toInt ≤ (I0 1).toInt) from by omega), (show ((¬ (I18 2).toInt = 0) → (I18 3).toInt < (I18 4).toInt) from by omega), (show ((¬ (I0 6).toInt = 0) → (¬ (I18 6).toInt = 0)) from by omega), (show ((I0 3).toInt ≤ (I18 3).toInt) from by omega)⟩ dX12_cannots_47 (Nat.le_of_ble_eq_true rfl) (Nat.le_of_ble_eq_true rfl)
  · have gc7 : r1.toInt = 0 := congrArg Int32.toInt c7
    rw [hQ]
    exact q_v F hr hlk (I3, J4, R5, L6) hP hD hS ⟨hvI, hvR, hsI, hsR, (show (((I3 6).toInt = 0 ∧ ¬ (I0 2).toInt = 0) → (I0 3).toInt < (I3 3).toInt) from by omega), (show ((I3 3).toInt ≤ (I3 4).toInt) from by omega), (show ((I3 4).toInt ≤ (I0 1).toInt) from by omega), (show ((¬ (I3 2).toInt = 0) → (I3 3).toInt < (I3 4).toInt) from by omega), (show ((¬ (I0 6).toInt = 0) → (¬ (I3 6).toInt = 0)) from by omega), (show ((I0 3).toInt ≤ (I3 3).toInt) from by omega)⟩ dX12_cannots_8 (Nat.le_of_ble_eq_true rfl) (Nat.le_of_ble_eq_true rfl)
set_option maxHeartbeats 4000000 in
set_option maxRecDepth 100000 in
theorem s_X12_coming (l : Launch) (G : Gx) (g q : Nat → Nat) (I0 : Nat → Int32) (J0 : Nat → Int64) (R0 : Nat → Nat → Int32) (L0 : Nat → Nat → Int64) (hvI : InvI Wm_lo Wm_hi I0) (hvR : InvR Wm_rl R0)   (hpre0 : ((I0 3).toInt ≤ (I0 4).toInt)) (hpre1 : ((I0 4).toInt ≤ (I0 1).toInt)) (hpre2 : ((¬ (I0 2).toInt = 0) → (I0 3).toInt < (I0 4).toInt)) : CtV (S := St) l yX12_coming cX12_coming 3 none (rmD 4 0 0) G [.ref (g 45)] (Wm G g q I0 J0 R0 L0) (fun u => InvI Wm_lo Wm_hi u.1 ∧ InvR Wm_rl u.2.2.1 ∧ SmF ([2, 3, 4, 5, 6, 7] : List Nat) I0 u.1 ∧ SmF ([12] : List Nat) R0 u.2.2.1 ∧ (((u.1 6).toInt = 0 ∧ ¬ (I0 2).toInt = 0) → (I0 3).toInt < (u.1 3).toInt) ∧ ((u.1 3).toInt ≤ (u.1 4).toInt) ∧ ((u.1 4).toInt ≤ (I0 1).toInt) ∧ ((¬ (u.1 2).toInt = 0) → (u.1 3).toInt < (u.1 4).toInt) ∧ ((¬ (I0 6).toInt = 0) → (¬ (u.1 6).toInt = 0)) ∧ ((I0 3).toInt ≤ (u.1 3).toInt)) (fun u => Wm G g q u.1 u.2.1 u.2.2.1 u.2.2.2) := by
  refine ctV_of (own := RX12) (by decide +kernel) rfl (Nat.le_of_ble_eq_true rfl) ?_
  intro p e s m below meth c A ls F hr hlk hnm hK hP hD hA hS hl
  have hx := F.1
  have hb := F.2.1
  have hown := F.2.2.2.1
  have hl : lv_has ls 3 [(0, .ref (g 45))] := hl
  obtain ⟨Q, hQ⟩ : ∃ Q : State → Prop, Q = MQ below (va_Qv (S := St) (fun u => InvI Wm_lo Wm_hi u.1 ∧ InvR Wm_rl u.2.2.1 ∧ SmF ([2, 3, 4, 5, 6, 7] : List Nat) I0 u.1 ∧ SmF ([12] : List Nat) R0 u.2.2.1 ∧ (((u.1 6).toInt = 0 ∧ ¬ (I0 2).toInt = 0) → (I0 3).toInt < (u.1 3).toInt) ∧ ((u.1 3).toInt ≤ (u.1 4).toInt) ∧ ((u.1 4).toInt ≤ (I0 1).toInt) ∧ ((¬ (u.1 2).toInt = 0) → (u.1 3).toInt < (u.1 4).toInt) ∧ ((¬ (I0 6).toInt = 0) → (¬ (u.1 6).toInt = 0)) ∧ ((I0 3).toInt ≤ (u.1 3).toInt)) (BX G A (fun u => Wm G g q u.1 u.2.1 u.2.2.1 u.2.2.2)) A) [.ref (g 45)].toArray s 0 0 A := ⟨_, rfl⟩
  rw [show (MQ below (va_Qv (S := St) (fun u => InvI Wm_lo Wm_hi u.1 ∧ InvR Wm_rl u.2.2.1 ∧ SmF ([2, 3, 4, 5, 6, 7] : List Nat) I0 u.1 ∧ SmF ([12] : List Nat) R0 u.2.2.1 ∧ (((u.1 6).toInt = 0 ∧ ¬ (I0 2).toInt = 0) → (I0 3).toInt < (u.1 3).toInt) ∧ ((u.1 3).toInt ≤ (u.1 4).toInt) ∧ ((u.1 4).toInt ≤ (I0 1).toInt) ∧ ((¬ (u.1 2).toInt = 0) → (u.1 3).toInt < (u.1 4).toInt) ∧ ((¬ (I0 6).toInt = 0) → (¬ (u.1 6).toInt = 0)) ∧ ((I0 3).toInt ≤ (u.1 3).toInt)) (BX G A (fun u => Wm G g q u.1 u.2.1 u.2.2.1 u.2.2.2)) A) [.ref (g 45)].toArray s (rmD 4 0 0).cells (rmD 4 0 0).slots A) = Q from hQ.symm]
  have hsI := smF_rf ([2, 3, 4, 5, 6, 7] : List Nat) I0
  have hsR := smF_rf ([12] : List Nat) R0
  have hvI0 := hvI
  have w_I0_1 := rg (hvI 1 (by decide)) (0) (1800) rfl rfl
  have w_I0_2 := rg (hvI 2 (by decide)) (0) (3) rfl rfl
  have w_I0_3 := rg (hvI 3 (by decide)) (0) (1800) rfl rfl
  have w_I0_4 := rg (hvI 4 (by decide)) (0) (1800) rfl rfl
  have w_I0_6 := rg (hvI 6 (by decide)) (0) (5) rfl rfl
  refine lv_aload_n hx hb dX12_coming_0 rfl (lv_at hl 0 rfl) ?_
  refine lv_iconst (v := 0) hx hb dX12_coming_1 (by decide) ?_
  refine wvi (As := [.int 0]) (rest := []) (b := (g 45)) (d := 3) F hK hP hD hS hA (s_X12_counts l G g q I0 J0 R0 L0 hvI hvR  0 (by decide) (by omega) (by omega) (by omega)) kmV_X12_counts mlX12_358 clX12 rfl 0 (Wm_at0 G g q I0 J0 R0 L0) ⟨(Nat.le_of_ble_eq_true rfl), (Nat.le_of_ble_eq_true rfl)⟩ hl.1 rfl (Nat.le_of_ble_eq_true rfl) dX12_coming_2 (fun r1 u2 H locs hwr1 hP hD hS => ?_)
  obtain ⟨I3, J4, R5, L6⟩ := u2
  replace hP : va_P G.1 vwCl (Wm G g q I3 J4 R5 L6) H := hP
  replace hD : va_D A (Wm G g q I3 J4 R5 L6) := hD
  obtain ⟨hvI, hvR, tIr1, tRr1, F0r1, F1r1, F2r1, F3r1, F4r1, F5r1, F6r1⟩ := hwr1
  replace F0r1 : ((0 : Int) ≤ r1.toInt ∧ r1.toInt ≤ (1 : Int)) := F0r1
  replace F1r1 : ((r1.toInt = 1 ∧ (0 : Int) = 0 ∧ (I3 6).toInt = 0 ∧ (I0 4).toInt ≤ (I3 3).toInt) ∨ (r1.toInt = 0 ∧ ¬ (I3 6).toInt = 0)) := F1r1
  replace F2r1 : ((I3 3).toInt ≤ (I3 4).toInt) := F2r1
  replace F3r1 : ((I3 4).toInt ≤ (I0 1).toInt) := F3r1
  replace F4r1 : ((¬ (I3 2).toInt = 0) → (I3 3).toInt < (I3 4).toInt) := F4r1
  replace F5r1 : ((¬ (I0 6).toInt = 0) → (¬ (I3 6).toInt = 0)) := F5r1
  replace F6r1 : ((I0 3).toInt ≤ (I3 3).toInt) := F6r1
  replace hvI : InvI Wm_lo Wm_hi I3 := hvI
  replace hvR : InvR Wm_rl R5 := hvR
  replace tIr1 : SmF ([2, 3, 4, 5, 6, 7] : List Nat) I0 I3 := tIr1
  replace tRr1 : SmF ([] : List Nat) R0 R5 := tRr1
  have hv_I3 := hvI
  have hsI := smF_tr hsI tIr1 (by decide)
  have hsR := smF_tr hsR tRr1 (by decide)
  have u_I3_1 : (I3 1).toInt = (I0 1).toInt := congrArg Int32.toInt (tIr1 1 rfl)
  have w_I3_2 := rg (hvI 2 (by decide)) (0) (3) rfl rfl
  have w_I3_3 := rg (hvI 3 (by decide)) (0) (1800) rfl rfl
  have w_I3_4 := rg (hvI 4 (by decide)) (0) (1800) rfl rfl
  have w_I3_6 := rg (hvI 6 (by decide)) (0) (5) rfl rfl
  have nr1_0 : ((I3 3).toInt ≤ (I3 4).toInt) := by omega
  have nr1_1 : ((I3 4).toInt ≤ (I0 1).toInt) := by omega
  have nr1_2 : ((¬ (I3 2).toInt = 0) → (I3 3).toInt < (I3 4).toInt) := by omega
  have nr1_3 : ((¬ (I0 6).toInt = 0) → (¬ (I3 6).toInt = 0)) := by omega
  have nr1_4 : ((I0 3).toInt ≤ (I3 3).toInt) := by omega
  clear F2r1 F3r1 F4r1 F5r1 F6r1
  refine lv_if_ne (tgt := 9) hx hb dX12_coming_5 (by decide) (fun c7 => ?_) (fun c7 => ?_)
  · have gc7 : ¬ (r1.toInt = 0) := fun q0 => c7 (Int32.toInt_inj.mp q0)
    refine lv_bipush (v := 12) hx hb dX12_coming_9 (by decide) ?_
    refine lv_aload_n hx hb dX12_coming_11 rfl (lv_at hl 0 rfl) ?_
    refine g_get F hK hP 0 (Wm_at0 G g q I3 J4 R5 L6) clX12 44 (by decide) flX12_146 rfl dX12_coming_12 ?_
    refine cst_i (hsI 12 rfl) ?_
    have w_I0_12 := rg (hvI0 12 (by decide)) (0) (1) rfl rfl
    refine lv_imul hx hb dX12_coming_15 ?_
    refine lv_topi (fun x8 ex8 => ?_)
    have fx8 : x8.toInt = 12 * (I0 12).toInt := by rw [ex8]; exact t_mul (by show (-2147483648 : Int) ≤ 12 * (I0 12).toInt; omega) (by show 12 * (I0 12).toInt ≤ 2147483647; omega)
    refine lv_aload_n hx hb dX12_coming_16 rfl (lv_at hl 0 rfl) ?_
    refine lv_iconst (v := 2) hx hb dX12_coming_17 (by decide) ?_
    refine wvi (As := [.int 2]) (rest := [.int x8]) (b := (g 45)) (d := 3) F hK hP hD hS hA (s_X12_asked l G g q I3 J4 R5 L6 hvI hvR  2 (by decide) (by omega) (by omega) (by omega)) kmV_X12_asked mlX12_374 clX12 rfl 0 (Wm_at0 G g q I3 J4 R5 L6) ⟨(Nat.le_of_ble_eq_true rfl), (Nat.le_of_ble_eq_true rfl)⟩ hl.1 rfl (Nat.le_of_ble_eq_true rfl) dX12_coming_18 (fun r9 u10 H locs hwr9 hP hD hS => ?_)
    obtain ⟨I11, J12, R13, L14⟩ := u10
    replace hP : va_P G.1 vwCl (Wm G g q I11 J12 R13 L14) H := hP
    replace hD : va_D A (Wm G g q I11 J12 R13 L14) := hD
    obtain ⟨hvI, hvR, tIr9, tRr9, F0r9, F1r9, F2r9, F3r9, F4r9, F5r9, F6r9, F7r9⟩ := hwr9
    replace F0r9 : ((0 : Int) ≤ r9.toInt ∧ r9.toInt ≤ (11 : Int)) := F0r9
    replace F1r9 : ((2 : Int) = 0 → r9.toInt ≤ 4) := F1r9
    replace F2r9 : ((2 : Int) = 1 → r9.toInt ≤ 5) := F2r9
    replace F3r9 : ((I11 3).toInt ≤ (I11 4).toInt) := F3r9
    replace F4r9 : ((I11 4).toInt ≤ (I3 1).toInt) := F4r9
    replace F5r9 : ((¬ (I11 2).toInt = 0) → (I11 3).toInt < (I11 4).toInt) := F5r9
    replace F6r9 : ((¬ (I3 6).toInt = 0) → (¬ (I11 6).toInt = 0)) := F6r9
    replace F7r9 : ((I3 3).toInt ≤ (I11 3).toInt) := F7r9
    replace hvI : InvI Wm_lo Wm_hi I11 := hvI
    replace hvR : InvR Wm_rl R13 := hvR
    replace tIr9 : SmF ([2, 3, 4, 5, 6, 7] : List Nat) I3 I11 := tIr9
    replace tRr9 : SmF ([] : List Nat) R5 R13 := tRr9
    have hv_I11 := hvI
    have hsI := smF_tr hsI tIr9 (by decide)
    have hsR := smF_tr hsR tRr9 (by decide)
    have u_I11_1 : (I11 1).toInt = (I3 1).toInt := congrArg Int32.toInt (tIr9 1 rfl)
    have w_I11_2 := rg (hvI 2 (by decide)) (0) (3) rfl rfl
    have w_I11_3 := rg (hvI 3 (by decide)) (0) (1800) rfl rfl
    have w_I11_4 := rg (hvI 4 (by decide)) (0) (1800) rfl rfl
    have w_I11_6 := rg (hvI 6 (by decide)) (0) (5) rfl rfl
    have nr9_0 : ((I11 3).toInt ≤ (I11 4).toInt) := by omega
    have nr9_1 : ((I11 4).toInt ≤ (I0 1).toInt) := by omega
    have nr9_2 : ((¬ (I11 2).toInt = 0) → (I11 3).toInt < (I11 4).toInt) := by omega
    have nr9_3 : ((¬ (I0 6).toInt = 0) → (¬ (I11 6).toInt = 0)) := by omega
    have nr9_4 : ((I0 3).toInt ≤ (I11 3).toInt) := by omega
    have nr9_5 : ((I0 4).toInt ≤ (I11 3).toInt) := by omega
    clear nr1_0 nr1_1 nr1_2 nr1_3 nr1_4 F3r9 F4r9 F5r9 F6r9 F7r9
    refine lv_iadd hx hb dX12_coming_21 ?_
    refine lv_topi (fun x15 ex15 => ?_)
    have fx15 : x15.toInt = x8.toInt + r9.toInt := by rw [ex15]; exact t_add (by show (-2147483648 : Int) ≤ x8.toInt + r9.toInt; omega) (by show x8.toInt + r9.toInt ≤ 2147483647; omega)
    refine lv_istore_n (lv' := [(1, .int x15), (0, .ref (g 45))]) hx hb dX12_coming_22 rfl hl (by decide) rfl (fun ls hl => ?_)
    refine lv_aload_n hx hb dX12_coming_23 rfl (lv_at hl 1 rfl) ?_
    refine lv_iconst (v := 0) hx hb dX12_coming_24 (by decide) ?_
    refine lv_bipush (v := 100) hx hb dX12_coming_25 (by decide) ?_
    refine wvi (As := [.int 0, .int 100]) (rest := []) (b := (g 45)) (d := 3) F hK hP hD hS hA (s_X12_number l G g q I11 J12 R13 L14 hvI hvR  0 100 (by decide) (by decide) (by omega) (by omega) (by omega)) kmV_X12_number mlX12_370 clX12 rfl 0 (Wm_at0 G g q I11 J12 R13 L14) ⟨(Nat.le_of_ble_eq_true rfl), (Nat.le_of_ble_eq_true rfl)⟩ hl.1 rfl (Nat.le_of_ble_eq_true rfl) dX12_coming_27 (fun r16 u17 H locs hwr16 hP hD hS => ?_)
    obtain ⟨I18, J19, R20, L21⟩ := u17
    replace hP : va_P G.1 vwCl (Wm G g q I18 J19 R20 L21) H := hP
    replace hD : va_D A (Wm G g q I18 J19 R20 L21) := hD
    obtain ⟨hvI, hvR, tIr16, tRr16, F0r16, F1r16, F2r16, F3r16, F4r16, F5r16⟩ := hwr16
    replace F0r16 : ((0 : Int) ≤ r16.toInt ∧ r16.toInt ≤ (9999 : Int)) := F0r16
    replace F1r16 : ((I18 3).toInt ≤ (I18 4).toInt) := F1r16
    replace F2r16 : ((I18 4).toInt ≤ (I11 1).toInt) := F2r16
    replace F3r16 : ((¬ (I18 2).toInt = 0) → (I18 3).toInt < (I18 4).toInt) := F3r16
    replace F4r16 : ((¬ (I11 6).toInt = 0) → (¬ (I18 6).toInt = 0)) := F4r16
    replace F5r16 : ((I11 3).toInt ≤ (I18 3).toInt) := F5r16
    replace hvI : InvI Wm_lo Wm_hi I18 := hvI
    replace hvR : InvR Wm_rl R20 := hvR
    replace tIr16 : SmF ([2, 3, 4, 5, 6, 7] : List Nat) I11 I18 := tIr16
    replace tRr16 : SmF ([] : List Nat) R13 R20 := tRr16
    have hv_I18 := hvI
    have hsI := smF_tr hsI tIr16 (by decide)
    have hsR := smF_tr hsR tRr16 (by decide)
    have u_I18_1 : (I18 1).toInt = (I11 1).toInt := congrArg Int32.toInt (tIr16 1 rfl)
    have w_I18_2 := rg (hvI 2 (by decide)) (0) (3) rfl rfl
    have w_I18_3 := rg (hvI 3 (by decide)) (0) (1800) rfl rfl
    have w_I18_4 := rg (hvI 4 (by decide)) (0) (1800) rfl rfl
    have w_I18_6 := rg (hvI 6 (by decide)) (0) (5) rfl rfl
    have nr16_0 : ((I18 3).toInt ≤ (I18 4).toInt) := by omega
    have nr16_1 : ((I18 4).toInt ≤ (I0 1).toInt) := by omega
    have nr16_2 : ((¬ (I18 2).toInt = 0) → (I18 3).toInt < (I18 4).toInt) := by omega
    have nr16_3 : ((¬ (I0 6).toInt = 0) → (¬ (I18 6).toInt = 0)) := by omega
    have nr16_4 : ((I0 3).toInt ≤ (I18 3).toInt) := by omega
    have nr16_5 : ((I0 4).toInt ≤ (I18 3).toInt) := by omega
    clear nr9_0 nr9_1 nr9_2 nr9_3 nr9_4 nr9_5 F1r16 F2r16 F3r16 F4r16 F5r16
    refine lv_istore_n (lv' := [(2, .int r16), (1, .int x15), (0, .ref (g 45))]) hx hb dX12_coming_30 rfl hl (by decide) rfl (fun ls hl => ?_)
    refine lv_aload_n hx hb dX12_coming_31 rfl (lv_at hl 2 rfl) ?_
    refine g_get F hK hP 0 (Wm_at0 G g q I18 J19 R20 L21) clX12 8 (by decide) flX12_36 rfl dX12_coming_32 ?_
    have w_I18_6 := rg (hv_I18 6 (by decide)) (0) (5) rfl rfl
    refine lv_if_ne (tgt := 45) hx hb dX12_coming_35 (by decide) (fun c22 => ?_) (fun c22 => ?_)
    · have gc22 : ¬ ((I18 6).toInt = 0) := fun q0 => c22 (Int32.toInt_inj.mp q0)
      rw [hQ]
      exact q_v F hr hlk (I18, J19, R20, L21) hP hD hS ⟨hvI, hvR, hsI, hsR, (show (((I18 6).toInt = 0 ∧ ¬ (I0 2).toInt = 0) → (I0 3).toInt < (I18 3).toInt) from by omega), (show ((I18 3).toInt ≤ (I18 4).toInt) from by omega), (show ((I18 4).toInt ≤ (I0 1).toInt) from by omega), (show ((¬ (I18 2).toInt = 0) → (I18 3).toInt < (I18 4).toInt) from by omega), (show ((¬ (I0 6).toInt = 0) → (¬ (I18 6).toInt = 0)) from by omega), (show ((I0 3).toInt ≤ (I18 3).toInt) from by omega)⟩ dX12_coming_45 (Nat.le_of_ble_eq_true rfl) (Nat.le_of_ble_eq_true rfl)
    · have gc22 : (I18 6).toInt = 0 := congrArg Int32.toInt c22
      refine lv_aload_n hx hb dX12_coming_38 rfl (lv_at hl 2 rfl) ?_
      refine g_get F hK hP 0 (Wm_at0 G g q I18 J19 R20 L21) clX12 27 (by decide) flX12_95 rfl dX12_coming_39 ?_
      refine lv_iload_n hx hb dX12_coming_42 rfl (lv_at hl 1 rfl) ?_
      refine lv_iload_n hx hb dX12_coming_43 rfl (lv_at hl 0 rfl) ?_
      refine p_row (W1 := fun y => Wm G g q I18 J19 y L21) (n := 12) F hK hP hD hS 16 (Wm_at16 G g q I18 J19 R20 L21) (in_of (by omega)) dX12_coming_44 (Wm_rowR12 G g q I18 J19 R20 L21) (fun R23 H locs eR23 hP hD hS => ?_)
      have hvR : InvR Wm_rl R23 := inv_upR hvR 12 eR23 (upd_in (hvR 12 (by decide)) (full _))
      have hsR := smF_up hsR eR23 (by decide)
      rw [hQ]
      exact q_v F hr hlk (I18, J19, R23, L21) hP hD hS ⟨hvI, hvR, hsI, hsR, (show (((I18 6).toInt = 0 ∧ ¬ (I0 2).toInt = 0) → (I0 3).toInt < (I18 3).toInt) from by omega), (show ((I18 3).toInt ≤ (I18 4).toInt) from by omega), (show ((I18 4).toInt ≤ (I0 1).toInt) from by omega), (show ((¬ (I18 2).toInt = 0) → (I18 3).toInt < (I18 4).toInt) from by omega), (show ((¬ (I0 6).toInt = 0) → (¬ (I18 6).toInt = 0)) from by omega), (show ((I0 3).toInt ≤ (I18 3).toInt) from by omega)⟩ dX12_coming_45 (Nat.le_of_ble_eq_true rfl) (Nat.le_of_ble_eq_true rfl)
  · have gc7 : r1.toInt = 0 := congrArg Int32.toInt c7
    rw [hQ]
    exact q_v F hr hlk (I3, J4, R5, L6) hP hD hS ⟨hvI, hvR, hsI, hsR, (show (((I3 6).toInt = 0 ∧ ¬ (I0 2).toInt = 0) → (I0 3).toInt < (I3 3).toInt) from by omega), (show ((I3 3).toInt ≤ (I3 4).toInt) from by omega), (show ((I3 4).toInt ≤ (I0 1).toInt) from by omega), (show ((¬ (I3 2).toInt = 0) → (I3 3).toInt < (I3 4).toInt) from by omega), (show ((¬ (I0 6).toInt = 0) → (¬ (I3 6).toInt = 0)) from by omega), (show ((I0 3).toInt ≤ (I3 3).toInt) from by omega)⟩ dX12_coming_8 (Nat.le_of_ble_eq_true rfl) (Nat.le_of_ble_eq_true rfl)
set_option maxHeartbeats 4000000 in
set_option maxRecDepth 100000 in
theorem s_X12_floor (l : Launch) (G : Gx) (g q : Nat → Nat) (I0 : Nat → Int32) (J0 : Nat → Int64) (R0 : Nat → Nat → Int32) (L0 : Nat → Nat → Int64) (hvI : InvI Wm_lo Wm_hi I0) (hvR : InvR Wm_rl R0)   (hpre0 : ((I0 3).toInt ≤ (I0 4).toInt)) (hpre1 : ((I0 4).toInt ≤ (I0 1).toInt)) (hpre2 : ((¬ (I0 2).toInt = 0) → (I0 3).toInt < (I0 4).toInt)) : CtV (S := St) l yX12_floor cX12_floor 2 none (rmD 4 0 0) G [.ref (g 45)] (Wm G g q I0 J0 R0 L0) (fun u => InvI Wm_lo Wm_hi u.1 ∧ InvR Wm_rl u.2.2.1 ∧ SmF ([2, 3, 4, 5, 6, 7] : List Nat) I0 u.1 ∧ SmF ([1, 2, 3, 4] : List Nat) R0 u.2.2.1 ∧ (((u.1 6).toInt = 0 ∧ ¬ (I0 2).toInt = 0) → (I0 3).toInt < (u.1 3).toInt) ∧ ((u.1 3).toInt ≤ (u.1 4).toInt) ∧ ((u.1 4).toInt ≤ (I0 1).toInt) ∧ ((¬ (u.1 2).toInt = 0) → (u.1 3).toInt < (u.1 4).toInt) ∧ ((¬ (I0 6).toInt = 0) → (¬ (u.1 6).toInt = 0)) ∧ ((I0 3).toInt ≤ (u.1 3).toInt)) (fun u => Wm G g q u.1 u.2.1 u.2.2.1 u.2.2.2) := by
  refine ctV_of (own := RX12) (by decide +kernel) rfl (Nat.le_of_ble_eq_true rfl) ?_
  intro p e s m below meth c A ls F hr hlk hnm hK hP hD hA hS hl
  have hx := F.1
  have hb := F.2.1
  have hown := F.2.2.2.1
  have hl : lv_has ls 2 [(0, .ref (g 45))] := hl
  obtain ⟨Q, hQ⟩ : ∃ Q : State → Prop, Q = MQ below (va_Qv (S := St) (fun u => InvI Wm_lo Wm_hi u.1 ∧ InvR Wm_rl u.2.2.1 ∧ SmF ([2, 3, 4, 5, 6, 7] : List Nat) I0 u.1 ∧ SmF ([1, 2, 3, 4] : List Nat) R0 u.2.2.1 ∧ (((u.1 6).toInt = 0 ∧ ¬ (I0 2).toInt = 0) → (I0 3).toInt < (u.1 3).toInt) ∧ ((u.1 3).toInt ≤ (u.1 4).toInt) ∧ ((u.1 4).toInt ≤ (I0 1).toInt) ∧ ((¬ (u.1 2).toInt = 0) → (u.1 3).toInt < (u.1 4).toInt) ∧ ((¬ (I0 6).toInt = 0) → (¬ (u.1 6).toInt = 0)) ∧ ((I0 3).toInt ≤ (u.1 3).toInt)) (BX G A (fun u => Wm G g q u.1 u.2.1 u.2.2.1 u.2.2.2)) A) [.ref (g 45)].toArray s 0 0 A := ⟨_, rfl⟩
  rw [show (MQ below (va_Qv (S := St) (fun u => InvI Wm_lo Wm_hi u.1 ∧ InvR Wm_rl u.2.2.1 ∧ SmF ([2, 3, 4, 5, 6, 7] : List Nat) I0 u.1 ∧ SmF ([1, 2, 3, 4] : List Nat) R0 u.2.2.1 ∧ (((u.1 6).toInt = 0 ∧ ¬ (I0 2).toInt = 0) → (I0 3).toInt < (u.1 3).toInt) ∧ ((u.1 3).toInt ≤ (u.1 4).toInt) ∧ ((u.1 4).toInt ≤ (I0 1).toInt) ∧ ((¬ (u.1 2).toInt = 0) → (u.1 3).toInt < (u.1 4).toInt) ∧ ((¬ (I0 6).toInt = 0) → (¬ (u.1 6).toInt = 0)) ∧ ((I0 3).toInt ≤ (u.1 3).toInt)) (BX G A (fun u => Wm G g q u.1 u.2.1 u.2.2.1 u.2.2.2)) A) [.ref (g 45)].toArray s (rmD 4 0 0).cells (rmD 4 0 0).slots A) = Q from hQ.symm]
  have hsI := smF_rf ([2, 3, 4, 5, 6, 7] : List Nat) I0
  have hsR := smF_rf ([1, 2, 3, 4] : List Nat) R0
  have hvI0 := hvI
  have lab_19 : ∀ (b0_19 : Int32) (I_19 : Nat → Int32) (J_19 : Nat → Int64) (R_19 : Nat → Nat → Int32) (L_19 : Nat → Nat → Int64) (H : Heap) (locs : List Loc) (ls : Array Slot), InvI Wm_lo Wm_hi I_19 → InvR Wm_rl R_19 → SmF ([2, 3, 4, 5, 6, 7] : List Nat) I0 I_19 → SmF ([1, 2, 3, 4] : List Nat) R0 R_19 → ((0 : Int) ≤ b0_19.toInt ∧ b0_19.toInt ≤ (1 : Int)) → (b0_19.toInt = 0 → (R_19 1 (Int32.toNatClampNeg (I0 12))).toInt ≤ 4) → ((I_19 2).toInt = (I0 2).toInt) → ((I_19 4).toInt = (I0 4).toInt) → ((I_19 3).toInt = (I0 3).toInt) → ((I_19 3).toInt ≤ (I_19 4).toInt) → ((I_19 4).toInt ≤ (I0 1).toInt) → ((¬ (I_19 2).toInt = 0) → (I_19 3).toInt < (I_19 4).toInt) → ((¬ (I0 6).toInt = 0) → (¬ (I_19 6).toInt = 0)) → ((I0 3).toInt ≤ (I_19 3).toInt) → va_P G.1 vwCl (Wm G g q I_19 J_19 R_19 L_19) H → va_D A (Wm G g q I_19 J_19 R_19 L_19) → va_S A s.heap H locs → lv_has ls 2 [(0, .ref (g 45))] → W p l e (rmD 4 0 0) s m [.ref (g 45)].toArray below meth c H locs 0 0 Q (F0 m 19 ls [.int b0_19, .ref (g 45)]) := by
    intro b0_19 I_19 J_19 R_19 L_19 H locs ls hvI hvR hsI hsR y0_19 z0_19 z1_19 z2_19 z3_19 z4_19 z5_19 z6_19 z7_19 z8_19 hP hD hS hl
    have hv_I_19 := hvI
    have w_I_19_1 := rg (hvI 1 (by decide)) (0) (1800) rfl rfl
    have v_I_19_1 : (I_19 1).toInt = (I0 1).toInt := congrArg Int32.toInt (hsI 1 rfl)
    have w_I_19_2 := rg (hvI 2 (by decide)) (0) (3) rfl rfl
    have w_I_19_3 := rg (hvI 3 (by decide)) (0) (1800) rfl rfl
    have w_I_19_4 := rg (hvI 4 (by decide)) (0) (1800) rfl rfl
    have w_I_19_6 := rg (hvI 6 (by decide)) (0) (5) rfl rfl
    have w_I_19_12 := rg (hvI 12 (by decide)) (0) (1) rfl rfl
    have v_I_19_12 : (I_19 12).toInt = (I0 12).toInt := congrArg Int32.toInt (hsI 12 rfl)
    refine wvi (As := [.int b0_19]) (rest := []) (b := (g 45)) (d := 3) F hK hP hD hS hA (s_X12_counts l G g q I_19 J_19 R_19 L_19 hvI hvR  b0_19 (show ((0 : Int) ≤ b0_19.toInt ∧ b0_19.toInt ≤ (1 : Int)) from by omega) (by omega) (by omega) (by omega)) kmV_X12_counts mlX12_358 clX12 rfl 0 (Wm_at0 G g q I_19 J_19 R_19 L_19) ⟨(Nat.le_of_ble_eq_true rfl), (Nat.le_of_ble_eq_true rfl)⟩ hl.1 rfl (Nat.le_of_ble_eq_true rfl) dX12_floor_19 (fun r1 u2 H locs hwr1 hP hD hS => ?_)
    obtain ⟨I3, J4, R5, L6⟩ := u2
    replace hP : va_P G.1 vwCl (Wm G g q I3 J4 R5 L6) H := hP
    replace hD : va_D A (Wm G g q I3 J4 R5 L6) := hD
    obtain ⟨hvI, hvR, tIr1, tRr1, F0r1, F1r1, F2r1, F3r1, F4r1, F5r1, F6r1⟩ := hwr1
    replace F0r1 : ((0 : Int) ≤ r1.toInt ∧ r1.toInt ≤ (1 : Int)) := F0r1
    replace F1r1 : ((r1.toInt = 1 ∧ b0_19.toInt = 0 ∧ (I3 6).toInt = 0 ∧ (I_19 4).toInt ≤ (I3 3).toInt) ∨ (r1.toInt = 0 ∧ ¬ (I3 6).toInt = 0)) := F1r1
    replace F2r1 : ((I3 3).toInt ≤ (I3 4).toInt) := F2r1
    replace F3r1 : ((I3 4).toInt ≤ (I_19 1).toInt) := F3r1
    replace F4r1 : ((¬ (I3 2).toInt = 0) → (I3 3).toInt < (I3 4).toInt) := F4r1
    replace F5r1 : ((¬ (I_19 6).toInt = 0) → (¬ (I3 6).toInt = 0)) := F5r1
    replace F6r1 : ((I_19 3).toInt ≤ (I3 3).toInt) := F6r1
    replace hvI : InvI Wm_lo Wm_hi I3 := hvI
    replace hvR : InvR Wm_rl R5 := hvR
    replace tIr1 : SmF ([2, 3, 4, 5, 6, 7] : List Nat) I_19 I3 := tIr1
    replace tRr1 : SmF ([] : List Nat) R_19 R5 := tRr1
    have hv_I3 := hvI
    have hsI := smF_tr hsI tIr1 (by decide)
    have hsR := smF_tr hsR tRr1 (by decide)
    have u_I3_1 : (I3 1).toInt = (I_19 1).toInt := congrArg Int32.toInt (tIr1 1 rfl)
    have w_I3_2 := rg (hvI 2 (by decide)) (0) (3) rfl rfl
    have w_I3_3 := rg (hvI 3 (by decide)) (0) (1800) rfl rfl
    have w_I3_4 := rg (hvI 4 (by decide)) (0) (1800) rfl rfl
    have w_I3_6 := rg (hvI 6 (by decide)) (0) (5) rfl rfl
    have u_I3_12 : (I3 12).toInt = (I_19 12).toInt := congrArg Int32.toInt (tIr1 12 rfl)
    have nr1_0 : ((I3 3).toInt ≤ (I3 4).toInt) := by omega
    have nr1_1 : ((I3 4).toInt ≤ (I0 1).toInt) := by omega
    have nr1_2 : ((¬ (I3 2).toInt = 0) → (I3 3).toInt < (I3 4).toInt) := by omega
    have nr1_3 : ((¬ (I0 6).toInt = 0) → (¬ (I3 6).toInt = 0)) := by omega
    have nr1_4 : ((I0 3).toInt ≤ (I3 3).toInt) := by omega
    clear z4_19 z5_19 z6_19 z7_19 z8_19 F2r1 F3r1 F4r1 F5r1 F6r1
    refine lv_if_ne (tgt := 26) hx hb dX12_floor_22 (by decide) (fun c7 => ?_) (fun c7 => ?_)
    · have gc7 : ¬ (r1.toInt = 0) := fun q0 => c7 (Int32.toInt_inj.mp q0)
      refine lv_iconst (v := 5) hx hb dX12_floor_26 (by decide) ?_
      refine lv_aload_n hx hb dX12_floor_27 rfl (lv_at hl 0 rfl) ?_
      refine g_get F hK hP 0 (Wm_at0 G g q I3 J4 R5 L6) clX12 44 (by decide) flX12_146 rfl dX12_floor_28 ?_
      refine cst_i (hsI 12 rfl) ?_
      have w_I0_12 := rg (hvI0 12 (by decide)) (0) (1) rfl rfl
      refine lv_imul hx hb dX12_floor_31 ?_
      refine lv_topi (fun x8 ex8 => ?_)
      have fx8 : x8.toInt = 5 * (I0 12).toInt := by rw [ex8]; exact t_mul (by show (-2147483648 : Int) ≤ 5 * (I0 12).toInt; omega) (by show 5 * (I0 12).toInt ≤ 2147483647; omega)
      refine lv_aload_n hx hb dX12_floor_32 rfl (lv_at hl 0 rfl) ?_
      refine g_get F hK hP 0 (Wm_at0 G g q I3 J4 R5 L6) clX12 13 (by decide) flX12_51 rfl dX12_floor_33 ?_
      refine lv_aload_n hx hb dX12_floor_36 rfl (lv_at hl 0 rfl) ?_
      refine g_get F hK hP 0 (Wm_at0 G g q I3 J4 R5 L6) clX12 44 (by decide) flX12_146 rfl dX12_floor_37 ?_
      refine cst_i (hsI 12 rfl) ?_
      refine g_iald F hK hP 2 (Wm_at2 G g q I3 J4 R5 L6) (in_of (by omega)) dX12_floor_40 rfl ?_
      refine lv_topi (fun x9 ex9 => ?_)
      have gx9 : x9.toInt = (R_19 1 (Int32.toNatClampNeg (I0 12))).toInt := congrArg Int32.toInt ((ex9).trans (congrFun (tRr1 1 rfl) _))
      have fx9 : ((0 : Int) ≤ x9.toInt ∧ x9.toInt ≤ (5 : Int)) := by rw [ex9]; exact hvR 1 (by decide) _ (clamp_lt (n := 2) (in_of (by omega)))
      refine lv_iadd hx hb dX12_floor_41 ?_
      refine lv_topi (fun x10 ex10 => ?_)
      have fx10 : x10.toInt = x8.toInt + x9.toInt := by rw [ex10]; exact t_add (by show (-2147483648 : Int) ≤ x8.toInt + x9.toInt; omega) (by show x8.toInt + x9.toInt ≤ 2147483647; omega)
      refine lv_istore_n (lv' := [(1, .int x10), (0, .ref (g 45))]) hx hb dX12_floor_42 rfl hl (by decide) rfl (fun ls hl => ?_)
      refine lv_aload_n hx hb dX12_floor_43 rfl (lv_at hl 1 rfl) ?_
      refine g_get F hK hP 0 (Wm_at0 G g q I3 J4 R5 L6) clX12 14 (by decide) flX12_54 rfl dX12_floor_44 ?_
      refine lv_iload_n hx hb dX12_floor_47 rfl (lv_at hl 0 rfl) ?_
      refine lv_aload_n hx hb dX12_floor_48 rfl (lv_at hl 1 rfl) ?_
      refine wvl (As := []) (rest := [.int x10, .ref (g 2)]) (b := (g 45)) (d := 3) F hK hP hD hS hA (s_X12_fresh l G g q I3 J4 R5 L6 hvI hvR   (by omega) (by omega) (by omega)) kmV_X12_fresh mlX12_362 clX12 rfl 0 (Wm_at0 G g q I3 J4 R5 L6) ⟨(Nat.le_of_ble_eq_true rfl), (Nat.le_of_ble_eq_true rfl)⟩ hl.1 rfl (Nat.le_of_ble_eq_true rfl) dX12_floor_49 (fun r11 u12 H locs hwr11 hP hD hS => ?_)
      obtain ⟨I13, J14, R15, L16⟩ := u12
      replace hP : va_P G.1 vwCl (Wm G g q I13 J14 R15 L16) H := hP
      replace hD : va_D A (Wm G g q I13 J14 R15 L16) := hD
      obtain ⟨hvI, hvR, tIr11, tRr11, F0r11, F1r11, F2r11, F3r11, F4r11⟩ := hwr11
      replace F0r11 : ((I13 3).toInt ≤ (I13 4).toInt) := F0r11
      replace F1r11 : ((I13 4).toInt ≤ (I3 1).toInt) := F1r11
      replace F2r11 : ((¬ (I13 2).toInt = 0) → (I13 3).toInt < (I13 4).toInt) := F2r11
      replace F3r11 : ((¬ (I3 6).toInt = 0) → (¬ (I13 6).toInt = 0)) := F3r11
      replace F4r11 : ((I3 3).toInt ≤ (I13 3).toInt) := F4r11
      replace hvI : InvI Wm_lo Wm_hi I13 := hvI
      replace hvR : InvR Wm_rl R15 := hvR
      replace tIr11 : SmF ([2, 3, 4, 5, 6, 7] : List Nat) I3 I13 := tIr11
      replace tRr11 : SmF ([] : List Nat) R5 R15 := tRr11
      have hv_I13 := hvI
      have hsI := smF_tr hsI tIr11 (by decide)
      have hsR := smF_tr hsR tRr11 (by decide)
      have u_I13_1 : (I13 1).toInt = (I3 1).toInt := congrArg Int32.toInt (tIr11 1 rfl)
      have w_I13_2 := rg (hvI 2 (by decide)) (0) (3) rfl rfl
      have w_I13_3 := rg (hvI 3 (by decide)) (0) (1800) rfl rfl
      have w_I13_4 := rg (hvI 4 (by decide)) (0) (1800) rfl rfl
      have w_I13_6 := rg (hvI 6 (by decide)) (0) (5) rfl rfl
      have u_I13_12 : (I13 12).toInt = (I3 12).toInt := congrArg Int32.toInt (tIr11 12 rfl)
      have nr11_0 : ((I13 3).toInt ≤ (I13 4).toInt) := by omega
      have nr11_1 : ((I13 4).toInt ≤ (I0 1).toInt) := by omega
      have nr11_2 : ((¬ (I13 2).toInt = 0) → (I13 3).toInt < (I13 4).toInt) := by omega
      have nr11_3 : ((¬ (I0 6).toInt = 0) → (¬ (I13 6).toInt = 0)) := by omega
      have nr11_4 : ((I0 3).toInt ≤ (I13 3).toInt) := by omega
      have nr11_5 : ((I0 4).toInt ≤ (I13 3).toInt) := by omega
      clear nr1_0 nr1_1 nr1_2 nr1_3 nr1_4 F0r11 F1r11 F2r11 F3r11 F4r11
      refine p_lrow (W1 := fun y => Wm G g q I13 J14 R15 y) (n := 0) F hK hP hD hS 3 (Wm_at3 G g q I13 J14 R15 L16) (in_of (by omega)) dX12_floor_52 (Wm_rowL0 G g q I13 J14 R15 L16) (fun L17 H locs eL17 hP hD hS => ?_)
      refine lv_aload_n hx hb dX12_floor_53 rfl (lv_at hl 1 rfl) ?_
      refine lv_ldc2 hx hb hown (F.2.2.2.2 _ clX12_252) dX12_floor_54 ?_
      refine wvv (As := [.long 431198792563]) (rest := []) (b := (g 45)) (d := 3) F hK hP hD hS hA (s_X12_must_ l G g q I13 J14 R15 L17 hvI hvR  431198792563 (by omega) (by omega) (by omega)) kmV_X12_must_ mlX12_366 clX12 rfl 0 (Wm_at0 G g q I13 J14 R15 L17) ⟨(Nat.le_of_ble_eq_true rfl), (Nat.le_of_ble_eq_true rfl)⟩ hl.1 rfl (Nat.le_of_ble_eq_true rfl) dX12_floor_57 (fun u19 H locs hwr18 hP hD hS => ?_)
      obtain ⟨I20, J21, R22, L23⟩ := u19
      replace hP : va_P G.1 vwCl (Wm G g q I20 J21 R22 L23) H := hP
      replace hD : va_D A (Wm G g q I20 J21 R22 L23) := hD
      obtain ⟨hvI, hvR, tIr18, tRr18, F0r18, F1r18, F2r18, F3r18, F4r18⟩ := hwr18
      replace F0r18 : ((I20 3).toInt ≤ (I20 4).toInt) := F0r18
      replace F1r18 : ((I20 4).toInt ≤ (I13 1).toInt) := F1r18
      replace F2r18 : ((¬ (I20 2).toInt = 0) → (I20 3).toInt < (I20 4).toInt) := F2r18
      replace F3r18 : ((¬ (I13 6).toInt = 0) → (¬ (I20 6).toInt = 0)) := F3r18
      replace F4r18 : ((I13 3).toInt ≤ (I20 3).toInt) := F4r18
      replace hvI : InvI Wm_lo Wm_hi I20 := hvI
      replace hvR : InvR Wm_rl R22 := hvR
      replace tIr18 : SmF ([2, 3, 4, 5, 6, 7] : List Nat) I13 I20 := tIr18
      replace tRr18 : SmF ([] : List Nat) R15 R22 := tRr18
      have hv_I20 := hvI
      have hsI := smF_tr hsI tIr18 (by decide)
      have hsR := smF_tr hsR tRr18 (by decide)
      have u_I20_1 : (I20 1).toInt = (I13 1).toInt := congrArg Int32.toInt (tIr18 1 rfl)
      have w_I20_2 := rg (hvI 2 (by decide)) (0) (3) rfl rfl
      have w_I20_3 := rg (hvI 3 (by decide)) (0) (1800) rfl rfl
      have w_I20_4 := rg (hvI 4 (by decide)) (0) (1800) rfl rfl
      have w_I20_6 := rg (hvI 6 (by decide)) (0) (5) rfl rfl
      have u_I20_12 : (I20 12).toInt = (I13 12).toInt := congrArg Int32.toInt (tIr18 12 rfl)
      have nr18_0 : ((I20 3).toInt ≤ (I20 4).toInt) := by omega
      have nr18_1 : ((I20 4).toInt ≤ (I0 1).toInt) := by omega
      have nr18_2 : ((¬ (I20 2).toInt = 0) → (I20 3).toInt < (I20 4).toInt) := by omega
      have nr18_3 : ((¬ (I0 6).toInt = 0) → (¬ (I20 6).toInt = 0)) := by omega
      have nr18_4 : ((I0 3).toInt ≤ (I20 3).toInt) := by omega
      have nr18_5 : ((I0 4).toInt ≤ (I20 3).toInt) := by omega
      clear nr11_0 nr11_1 nr11_2 nr11_3 nr11_4 nr11_5 F0r18 F1r18 F2r18 F3r18 F4r18
      refine lv_aload_n hx hb dX12_floor_60 rfl (lv_at hl 1 rfl) ?_
      refine g_get F hK hP 0 (Wm_at0 G g q I20 J21 R22 L23) clX12 15 (by decide) flX12_58 rfl dX12_floor_61 ?_
      refine lv_iload_n hx hb dX12_floor_64 rfl (lv_at hl 0 rfl) ?_
      refine lv_aload_n hx hb dX12_floor_65 rfl (lv_at hl 1 rfl) ?_
      refine lv_iconst (v := 0) hx hb dX12_floor_66 (by decide) ?_
      refine lv_bipush (v := 20) hx hb dX12_floor_67 (by decide) ?_
      refine wvi (As := [.int 0, .int 20]) (rest := [.int x10, .ref (g 3)]) (b := (g 45)) (d := 3) F hK hP hD hS hA (s_X12_number l G g q I20 J21 R22 L23 hvI hvR  0 20 (by decide) (by decide) (by omega) (by omega) (by omega)) kmV_X12_number mlX12_370 clX12 rfl 0 (Wm_at0 G g q I20 J21 R22 L23) ⟨(Nat.le_of_ble_eq_true rfl), (Nat.le_of_ble_eq_true rfl)⟩ hl.1 rfl (Nat.le_of_ble_eq_true rfl) dX12_floor_69 (fun r24 u25 H locs hwr24 hP hD hS => ?_)
      obtain ⟨I26, J27, R28, L29⟩ := u25
      replace hP : va_P G.1 vwCl (Wm G g q I26 J27 R28 L29) H := hP
      replace hD : va_D A (Wm G g q I26 J27 R28 L29) := hD
      obtain ⟨hvI, hvR, tIr24, tRr24, F0r24, F1r24, F2r24, F3r24, F4r24, F5r24⟩ := hwr24
      replace F0r24 : ((0 : Int) ≤ r24.toInt ∧ r24.toInt ≤ (9999 : Int)) := F0r24
      replace F1r24 : ((I26 3).toInt ≤ (I26 4).toInt) := F1r24
      replace F2r24 : ((I26 4).toInt ≤ (I20 1).toInt) := F2r24
      replace F3r24 : ((¬ (I26 2).toInt = 0) → (I26 3).toInt < (I26 4).toInt) := F3r24
      replace F4r24 : ((¬ (I20 6).toInt = 0) → (¬ (I26 6).toInt = 0)) := F4r24
      replace F5r24 : ((I20 3).toInt ≤ (I26 3).toInt) := F5r24
      replace hvI : InvI Wm_lo Wm_hi I26 := hvI
      replace hvR : InvR Wm_rl R28 := hvR
      replace tIr24 : SmF ([2, 3, 4, 5, 6, 7] : List Nat) I20 I26 := tIr24
      replace tRr24 : SmF ([] : List Nat) R22 R28 := tRr24
      have hv_I26 := hvI
      have hsI := smF_tr hsI tIr24 (by decide)
      have hsR := smF_tr hsR tRr24 (by decide)
      have u_I26_1 : (I26 1).toInt = (I20 1).toInt := congrArg Int32.toInt (tIr24 1 rfl)
      have w_I26_2 := rg (hvI 2 (by decide)) (0) (3) rfl rfl
      have w_I26_3 := rg (hvI 3 (by decide)) (0) (1800) rfl rfl
      have w_I26_4 := rg (hvI 4 (by decide)) (0) (1800) rfl rfl
      have w_I26_6 := rg (hvI 6 (by decide)) (0) (5) rfl rfl
      have u_I26_12 : (I26 12).toInt = (I20 12).toInt := congrArg Int32.toInt (tIr24 12 rfl)
      have nr24_0 : ((I26 3).toInt ≤ (I26 4).toInt) := by omega
      have nr24_1 : ((I26 4).toInt ≤ (I0 1).toInt) := by omega
      have nr24_2 : ((¬ (I26 2).toInt = 0) → (I26 3).toInt < (I26 4).toInt) := by omega
      have nr24_3 : ((¬ (I0 6).toInt = 0) → (¬ (I26 6).toInt = 0)) := by omega
      have nr24_4 : ((I0 3).toInt ≤ (I26 3).toInt) := by omega
      have nr24_5 : ((I0 4).toInt ≤ (I26 3).toInt) := by omega
      clear nr18_0 nr18_1 nr18_2 nr18_3 nr18_4 nr18_5 F1r24 F2r24 F3r24 F4r24 F5r24
      refine p_row (W1 := fun y => Wm G g q I26 J27 y L29) (n := 2) F hK hP hD hS 4 (Wm_at4 G g q I26 J27 R28 L29) (in_of (by omega)) dX12_floor_72 (Wm_rowR2 G g q I26 J27 R28 L29) (fun R30 H locs eR30 hP hD hS => ?_)
      have hvR : InvR Wm_rl R30 := inv_upR hvR 2 eR30 (upd_in (hvR 2 (by decide)) (show ((0 : Int) ≤ r24.toInt ∧ r24.toInt ≤ (9999 : Int)) from by omega))
      have hsR := smF_up hsR eR30 (by decide)
      refine lv_aload_n hx hb dX12_floor_73 rfl (lv_at hl 1 rfl) ?_
      refine lv_ldc2 hx hb hown (F.2.2.2.2 _ clX12_254) dX12_floor_74 ?_
      refine wvv (As := [.long 474315584357]) (rest := []) (b := (g 45)) (d := 3) F hK hP hD hS hA (s_X12_must_ l G g q I26 J27 R30 L29 hvI hvR  474315584357 (by omega) (by omega) (by omega)) kmV_X12_must_ mlX12_366 clX12 rfl 0 (Wm_at0 G g q I26 J27 R30 L29) ⟨(Nat.le_of_ble_eq_true rfl), (Nat.le_of_ble_eq_true rfl)⟩ hl.1 rfl (Nat.le_of_ble_eq_true rfl) dX12_floor_77 (fun u32 H locs hwr31 hP hD hS => ?_)
      obtain ⟨I33, J34, R35, L36⟩ := u32
      replace hP : va_P G.1 vwCl (Wm G g q I33 J34 R35 L36) H := hP
      replace hD : va_D A (Wm G g q I33 J34 R35 L36) := hD
      obtain ⟨hvI, hvR, tIr31, tRr31, F0r31, F1r31, F2r31, F3r31, F4r31⟩ := hwr31
      replace F0r31 : ((I33 3).toInt ≤ (I33 4).toInt) := F0r31
      replace F1r31 : ((I33 4).toInt ≤ (I26 1).toInt) := F1r31
      replace F2r31 : ((¬ (I33 2).toInt = 0) → (I33 3).toInt < (I33 4).toInt) := F2r31
      replace F3r31 : ((¬ (I26 6).toInt = 0) → (¬ (I33 6).toInt = 0)) := F3r31
      replace F4r31 : ((I26 3).toInt ≤ (I33 3).toInt) := F4r31
      replace hvI : InvI Wm_lo Wm_hi I33 := hvI
      replace hvR : InvR Wm_rl R35 := hvR
      replace tIr31 : SmF ([2, 3, 4, 5, 6, 7] : List Nat) I26 I33 := tIr31
      replace tRr31 : SmF ([] : List Nat) R30 R35 := tRr31
      have hv_I33 := hvI
      have hsI := smF_tr hsI tIr31 (by decide)
      have hsR := smF_tr hsR tRr31 (by decide)
      have u_I33_1 : (I33 1).toInt = (I26 1).toInt := congrArg Int32.toInt (tIr31 1 rfl)
      have w_I33_2 := rg (hvI 2 (by decide)) (0) (3) rfl rfl
      have w_I33_3 := rg (hvI 3 (by decide)) (0) (1800) rfl rfl
      have w_I33_4 := rg (hvI 4 (by decide)) (0) (1800) rfl rfl
      have w_I33_6 := rg (hvI 6 (by decide)) (0) (5) rfl rfl
      have u_I33_12 : (I33 12).toInt = (I26 12).toInt := congrArg Int32.toInt (tIr31 12 rfl)
      have nr31_0 : ((I33 3).toInt ≤ (I33 4).toInt) := by omega
      have nr31_1 : ((I33 4).toInt ≤ (I0 1).toInt) := by omega
      have nr31_2 : ((¬ (I33 2).toInt = 0) → (I33 3).toInt < (I33 4).toInt) := by omega
      have nr31_3 : ((¬ (I0 6).toInt = 0) → (¬ (I33 6).toInt = 0)) := by omega
      have nr31_4 : ((I0 3).toInt ≤ (I33 3).toInt) := by omega
      have nr31_5 : ((I0 4).toInt ≤ (I33 3).toInt) := by omega
      clear nr24_0 nr24_1 nr24_2 nr24_3 nr24_4 nr24_5 F0r31 F1r31 F2r31 F3r31 F4r31
      refine lv_aload_n hx hb dX12_floor_80 rfl (lv_at hl 1 rfl) ?_
      refine g_get F hK hP 0 (Wm_at0 G g q I33 J34 R35 L36) clX12 16 (by decide) flX12_61 rfl dX12_floor_81 ?_
      refine lv_iload_n hx hb dX12_floor_84 rfl (lv_at hl 0 rfl) ?_
      refine lv_aload_n hx hb dX12_floor_85 rfl (lv_at hl 1 rfl) ?_
      refine lv_iconst (v := 0) hx hb dX12_floor_86 (by decide) ?_
      refine lv_bipush (v := 99) hx hb dX12_floor_87 (by decide) ?_
      refine wvi (As := [.int 0, .int 99]) (rest := [.int x10, .ref (g 4)]) (b := (g 45)) (d := 3) F hK hP hD hS hA (s_X12_number l G g q I33 J34 R35 L36 hvI hvR  0 99 (by decide) (by decide) (by omega) (by omega) (by omega)) kmV_X12_number mlX12_370 clX12 rfl 0 (Wm_at0 G g q I33 J34 R35 L36) ⟨(Nat.le_of_ble_eq_true rfl), (Nat.le_of_ble_eq_true rfl)⟩ hl.1 rfl (Nat.le_of_ble_eq_true rfl) dX12_floor_89 (fun r37 u38 H locs hwr37 hP hD hS => ?_)
      obtain ⟨I39, J40, R41, L42⟩ := u38
      replace hP : va_P G.1 vwCl (Wm G g q I39 J40 R41 L42) H := hP
      replace hD : va_D A (Wm G g q I39 J40 R41 L42) := hD
      obtain ⟨hvI, hvR, tIr37, tRr37, F0r37, F1r37, F2r37, F3r37, F4r37, F5r37⟩ := hwr37
      replace F0r37 : ((0 : Int) ≤ r37.toInt ∧ r37.toInt ≤ (9999 : Int)) := F0r37
      replace F1r37 : ((I39 3).toInt ≤ (I39 4).toInt) := F1r37
      replace F2r37 : ((I39 4).toInt ≤ (I33 1).toInt) := F2r37
      replace F3r37 : ((¬ (I39 2).toInt = 0) → (I39 3).toInt < (I39 4).toInt) := F3r37
      replace F4r37 : ((¬ (I33 6).toInt = 0) → (¬ (I39 6).toInt = 0)) := F4r37
      replace F5r37 : ((I33 3).toInt ≤ (I39 3).toInt) := F5r37
      replace hvI : InvI Wm_lo Wm_hi I39 := hvI
      replace hvR : InvR Wm_rl R41 := hvR
      replace tIr37 : SmF ([2, 3, 4, 5, 6, 7] : List Nat) I33 I39 := tIr37
      replace tRr37 : SmF ([] : List Nat) R35 R41 := tRr37
      have hv_I39 := hvI
      have hsI := smF_tr hsI tIr37 (by decide)
      have hsR := smF_tr hsR tRr37 (by decide)
      have u_I39_1 : (I39 1).toInt = (I33 1).toInt := congrArg Int32.toInt (tIr37 1 rfl)
      have w_I39_2 := rg (hvI 2 (by decide)) (0) (3) rfl rfl
      have w_I39_3 := rg (hvI 3 (by decide)) (0) (1800) rfl rfl
      have w_I39_4 := rg (hvI 4 (by decide)) (0) (1800) rfl rfl
      have w_I39_6 := rg (hvI 6 (by decide)) (0) (5) rfl rfl
      have u_I39_12 : (I39 12).toInt = (I33 12).toInt := congrArg Int32.toInt (tIr37 12 rfl)
      have nr37_0 : ((I39 3).toInt ≤ (I39 4).toInt) := by omega
      have nr37_1 : ((I39 4).toInt ≤ (I0 1).toInt) := by omega
      have nr37_2 : ((¬ (I39 2).toInt = 0) → (I39 3).toInt < (I39 4).toInt) := by omega
      have nr37_3 : ((¬ (I0 6).toInt = 0) → (¬ (I39 6).toInt = 0)) := by omega
      have nr37_4 : ((I0 3).toInt ≤ (I39 3).toInt) := by omega
      have nr37_5 : ((I0 4).toInt ≤ (I39 3).toInt) := by omega
      clear nr31_0 nr31_1 nr31_2 nr31_3 nr31_4 nr31_5 F1r37 F2r37 F3r37 F4r37 F5r37
      refine p_row (W1 := fun y => Wm G g q I39 J40 y L42) (n := 3) F hK hP hD hS 5 (Wm_at5 G g q I39 J40 R41 L42) (in_of (by omega)) dX12_floor_92 (Wm_rowR3 G g q I39 J40 R41 L42) (fun R43 H locs eR43 hP hD hS => ?_)
      have hvR : InvR Wm_rl R43 := inv_upR hvR 3 eR43 (upd_in (hvR 3 (by decide)) (full _))
      have hsR := smF_up hsR eR43 (by decide)
      refine lv_aload_n hx hb dX12_floor_93 rfl (lv_at hl 1 rfl) ?_
      refine lv_ldc2 hx hb hown (F.2.2.2.2 _ clX12_256) dX12_floor_94 ?_
      refine wvv (As := [.long 1668248436]) (rest := []) (b := (g 45)) (d := 3) F hK hP hD hS hA (s_X12_must_ l G g q I39 J40 R43 L42 hvI hvR  1668248436 (by omega) (by omega) (by omega)) kmV_X12_must_ mlX12_366 clX12 rfl 0 (Wm_at0 G g q I39 J40 R43 L42) ⟨(Nat.le_of_ble_eq_true rfl), (Nat.le_of_ble_eq_true rfl)⟩ hl.1 rfl (Nat.le_of_ble_eq_true rfl) dX12_floor_97 (fun u45 H locs hwr44 hP hD hS => ?_)
      obtain ⟨I46, J47, R48, L49⟩ := u45
      replace hP : va_P G.1 vwCl (Wm G g q I46 J47 R48 L49) H := hP
      replace hD : va_D A (Wm G g q I46 J47 R48 L49) := hD
      obtain ⟨hvI, hvR, tIr44, tRr44, F0r44, F1r44, F2r44, F3r44, F4r44⟩ := hwr44
      replace F0r44 : ((I46 3).toInt ≤ (I46 4).toInt) := F0r44
      replace F1r44 : ((I46 4).toInt ≤ (I39 1).toInt) := F1r44
      replace F2r44 : ((¬ (I46 2).toInt = 0) → (I46 3).toInt < (I46 4).toInt) := F2r44
      replace F3r44 : ((¬ (I39 6).toInt = 0) → (¬ (I46 6).toInt = 0)) := F3r44
      replace F4r44 : ((I39 3).toInt ≤ (I46 3).toInt) := F4r44
      replace hvI : InvI Wm_lo Wm_hi I46 := hvI
      replace hvR : InvR Wm_rl R48 := hvR
      replace tIr44 : SmF ([2, 3, 4, 5, 6, 7] : List Nat) I39 I46 := tIr44
      replace tRr44 : SmF ([] : List Nat) R43 R48 := tRr44
      have hv_I46 := hvI
      have hsI := smF_tr hsI tIr44 (by decide)
      have hsR := smF_tr hsR tRr44 (by decide)
      have u_I46_1 : (I46 1).toInt = (I39 1).toInt := congrArg Int32.toInt (tIr44 1 rfl)
      have w_I46_2 := rg (hvI 2 (by decide)) (0) (3) rfl rfl
      have w_I46_3 := rg (hvI 3 (by decide)) (0) (1800) rfl rfl
      have w_I46_4 := rg (hvI 4 (by decide)) (0) (1800) rfl rfl
      have w_I46_6 := rg (hvI 6 (by decide)) (0) (5) rfl rfl
      have u_I46_12 : (I46 12).toInt = (I39 12).toInt := congrArg Int32.toInt (tIr44 12 rfl)
      have nr44_0 : ((I46 3).toInt ≤ (I46 4).toInt) := by omega
      have nr44_1 : ((I46 4).toInt ≤ (I0 1).toInt) := by omega
      have nr44_2 : ((¬ (I46 2).toInt = 0) → (I46 3).toInt < (I46 4).toInt) := by omega
      have nr44_3 : ((¬ (I0 6).toInt = 0) → (¬ (I46 6).toInt = 0)) := by omega
      have nr44_4 : ((I0 3).toInt ≤ (I46 3).toInt) := by omega
      have nr44_5 : ((I0 4).toInt ≤ (I46 3).toInt) := by omega
      clear nr37_0 nr37_1 nr37_2 nr37_3 nr37_4 nr37_5 F0r44 F1r44 F2r44 F3r44 F4r44
      refine lv_aload_n hx hb dX12_floor_100 rfl (lv_at hl 1 rfl) ?_
      refine g_get F hK hP 0 (Wm_at0 G g q I46 J47 R48 L49) clX12 17 (by decide) flX12_64 rfl dX12_floor_101 ?_
      refine lv_iload_n hx hb dX12_floor_104 rfl (lv_at hl 0 rfl) ?_
      refine lv_aload_n hx hb dX12_floor_105 rfl (lv_at hl 1 rfl) ?_
      refine lv_iconst (v := 0) hx hb dX12_floor_106 (by decide) ?_
      refine lv_sipush (v := 999) hx hb dX12_floor_107 (by decide) ?_
      refine wvi (As := [.int 0, .int 999]) (rest := [.int x10, .ref (g 5)]) (b := (g 45)) (d := 3) F hK hP hD hS hA (s_X12_number l G g q I46 J47 R48 L49 hvI hvR  0 999 (by decide) (by decide) (by omega) (by omega) (by omega)) kmV_X12_number mlX12_370 clX12 rfl 0 (Wm_at0 G g q I46 J47 R48 L49) ⟨(Nat.le_of_ble_eq_true rfl), (Nat.le_of_ble_eq_true rfl)⟩ hl.1 rfl (Nat.le_of_ble_eq_true rfl) dX12_floor_110 (fun r50 u51 H locs hwr50 hP hD hS => ?_)
      obtain ⟨I52, J53, R54, L55⟩ := u51
      replace hP : va_P G.1 vwCl (Wm G g q I52 J53 R54 L55) H := hP
      replace hD : va_D A (Wm G g q I52 J53 R54 L55) := hD
      obtain ⟨hvI, hvR, tIr50, tRr50, F0r50, F1r50, F2r50, F3r50, F4r50, F5r50⟩ := hwr50
      replace F0r50 : ((0 : Int) ≤ r50.toInt ∧ r50.toInt ≤ (9999 : Int)) := F0r50
      replace F1r50 : ((I52 3).toInt ≤ (I52 4).toInt) := F1r50
      replace F2r50 : ((I52 4).toInt ≤ (I46 1).toInt) := F2r50
      replace F3r50 : ((¬ (I52 2).toInt = 0) → (I52 3).toInt < (I52 4).toInt) := F3r50
      replace F4r50 : ((¬ (I46 6).toInt = 0) → (¬ (I52 6).toInt = 0)) := F4r50
      replace F5r50 : ((I46 3).toInt ≤ (I52 3).toInt) := F5r50
      replace hvI : InvI Wm_lo Wm_hi I52 := hvI
      replace hvR : InvR Wm_rl R54 := hvR
      replace tIr50 : SmF ([2, 3, 4, 5, 6, 7] : List Nat) I46 I52 := tIr50
      replace tRr50 : SmF ([] : List Nat) R48 R54 := tRr50
      have hv_I52 := hvI
      have hsI := smF_tr hsI tIr50 (by decide)
      have hsR := smF_tr hsR tRr50 (by decide)
      have u_I52_1 : (I52 1).toInt = (I46 1).toInt := congrArg Int32.toInt (tIr50 1 rfl)
      have w_I52_2 := rg (hvI 2 (by decide)) (0) (3) rfl rfl
      have w_I52_3 := rg (hvI 3 (by decide)) (0) (1800) rfl rfl
      have w_I52_4 := rg (hvI 4 (by decide)) (0) (1800) rfl rfl
      have w_I52_6 := rg (hvI 6 (by decide)) (0) (5) rfl rfl
      have u_I52_12 : (I52 12).toInt = (I46 12).toInt := congrArg Int32.toInt (tIr50 12 rfl)
      have nr50_0 : ((I52 3).toInt ≤ (I52 4).toInt) := by omega
      have nr50_1 : ((I52 4).toInt ≤ (I0 1).toInt) := by omega
      have nr50_2 : ((¬ (I52 2).toInt = 0) → (I52 3).toInt < (I52 4).toInt) := by omega
      have nr50_3 : ((¬ (I0 6).toInt = 0) → (¬ (I52 6).toInt = 0)) := by omega
      have nr50_4 : ((I0 3).toInt ≤ (I52 3).toInt) := by omega
      have nr50_5 : ((I0 4).toInt ≤ (I52 3).toInt) := by omega
      clear nr44_0 nr44_1 nr44_2 nr44_3 nr44_4 nr44_5 F1r50 F2r50 F3r50 F4r50 F5r50
      refine p_row (W1 := fun y => Wm G g q I52 J53 y L55) (n := 4) F hK hP hD hS 6 (Wm_at6 G g q I52 J53 R54 L55) (in_of (by omega)) dX12_floor_113 (Wm_rowR4 G g q I52 J53 R54 L55) (fun R56 H locs eR56 hP hD hS => ?_)
      have hvR : InvR Wm_rl R56 := inv_upR hvR 4 eR56 (upd_in (hvR 4 (by decide)) (full _))
      have hsR := smF_up hsR eR56 (by decide)
      refine lv_aload_n hx hb dX12_floor_114 rfl (lv_at hl 1 rfl) ?_
      refine g_get F hK hP 0 (Wm_at0 G g q I52 J53 R56 L55) clX12 8 (by decide) flX12_36 rfl dX12_floor_115 ?_
      have w_I52_6 := rg (hv_I52 6 (by decide)) (0) (5) rfl rfl
      refine lv_if_ne (tgt := 134) hx hb dX12_floor_118 (by decide) (fun c57 => ?_) (fun c57 => ?_)
      · have gc57 : ¬ ((I52 6).toInt = 0) := fun q0 => c57 (Int32.toInt_inj.mp q0)
        rw [hQ]
        exact q_v F hr hlk (I52, J53, R56, L55) hP hD hS ⟨hvI, hvR, hsI, hsR, (show (((I52 6).toInt = 0 ∧ ¬ (I0 2).toInt = 0) → (I0 3).toInt < (I52 3).toInt) from by omega), (show ((I52 3).toInt ≤ (I52 4).toInt) from by omega), (show ((I52 4).toInt ≤ (I0 1).toInt) from by omega), (show ((¬ (I52 2).toInt = 0) → (I52 3).toInt < (I52 4).toInt) from by omega), (show ((¬ (I0 6).toInt = 0) → (¬ (I52 6).toInt = 0)) from by omega), (show ((I0 3).toInt ≤ (I52 3).toInt) from by omega)⟩ dX12_floor_134 (Nat.le_of_ble_eq_true rfl) (Nat.le_of_ble_eq_true rfl)
      · have gc57 : (I52 6).toInt = 0 := congrArg Int32.toInt c57
        refine lv_aload_n hx hb dX12_floor_121 rfl (lv_at hl 1 rfl) ?_
        refine g_get F hK hP 0 (Wm_at0 G g q I52 J53 R56 L55) clX12 13 (by decide) flX12_51 rfl dX12_floor_122 ?_
        refine lv_aload_n hx hb dX12_floor_125 rfl (lv_at hl 1 rfl) ?_
        refine g_get F hK hP 0 (Wm_at0 G g q I52 J53 R56 L55) clX12 44 (by decide) flX12_146 rfl dX12_floor_126 ?_
        refine cst_i (hsI 12 rfl) ?_
        refine lv_dup2_11 hx hb dX12_floor_129 rfl rfl ?_
        refine g_iald F hK hP 2 (Wm_at2 G g q I52 J53 R56 L55) (in_of (by omega)) dX12_floor_130 rfl ?_
        refine lv_topi (fun x58 ex58 => ?_)
        have gx58 : x58.toInt = (R_19 1 (Int32.toNatClampNeg (I0 12))).toInt := congrArg Int32.toInt ((((((((((((ex58).trans (congrFun (up_ne eR56 (by decide)) _)).trans (congrFun (tRr50 1 rfl) _)).trans (congrFun (tRr44 1 rfl) _)).trans (congrFun (up_ne eR43 (by decide)) _)).trans (congrFun (tRr37 1 rfl) _)).trans (congrFun (tRr31 1 rfl) _)).trans (congrFun (up_ne eR30 (by decide)) _)).trans (congrFun (tRr24 1 rfl) _)).trans (congrFun (tRr18 1 rfl) _)).trans (congrFun (tRr11 1 rfl) _)).trans (congrFun (tRr1 1 rfl) _))
        have fx58 : ((0 : Int) ≤ x58.toInt ∧ x58.toInt ≤ (5 : Int)) := by rw [ex58]; exact hvR 1 (by decide) _ (clamp_lt (n := 2) (in_of (by omega)))
        refine lv_iconst (v := 1) hx hb dX12_floor_131 (by decide) ?_
        refine lv_iadd hx hb dX12_floor_132 ?_
        refine lv_topi (fun x59 ex59 => ?_)
        have fx59 : x59.toInt = x58.toInt + 1 := by rw [ex59]; exact t_add (by show (-2147483648 : Int) ≤ x58.toInt + 1; omega) (by show x58.toInt + 1 ≤ 2147483647; omega)
        refine p_row (W1 := fun y => Wm G g q I52 J53 y L55) (n := 1) F hK hP hD hS 2 (Wm_at2 G g q I52 J53 R56 L55) (in_of (by omega)) dX12_floor_133 (Wm_rowR1 G g q I52 J53 R56 L55) (fun R60 H locs eR60 hP hD hS => ?_)
        have hvR : InvR Wm_rl R60 := inv_upR hvR 1 eR60 (upd_in (hvR 1 (by decide)) (show ((0 : Int) ≤ x59.toInt ∧ x59.toInt ≤ (5 : Int)) from by omega))
        have hsR := smF_up hsR eR60 (by decide)
        rw [hQ]
        exact q_v F hr hlk (I52, J53, R60, L55) hP hD hS ⟨hvI, hvR, hsI, hsR, (show (((I52 6).toInt = 0 ∧ ¬ (I0 2).toInt = 0) → (I0 3).toInt < (I52 3).toInt) from by omega), (show ((I52 3).toInt ≤ (I52 4).toInt) from by omega), (show ((I52 4).toInt ≤ (I0 1).toInt) from by omega), (show ((¬ (I52 2).toInt = 0) → (I52 3).toInt < (I52 4).toInt) from by omega), (show ((¬ (I0 6).toInt = 0) → (¬ (I52 6).toInt = 0)) from by omega), (show ((I0 3).toInt ≤ (I52 3).toInt) from by omega)⟩ dX12_floor_134 (Nat.le_of_ble_eq_true rfl) (Nat.le_of_ble_eq_true rfl)
    · have gc7 : r1.toInt = 0 := congrArg Int32.toInt c7
      rw [hQ]
      exact q_v F hr hlk (I3, J4, R5, L6) hP hD hS ⟨hvI, hvR, hsI, hsR, (show (((I3 6).toInt = 0 ∧ ¬ (I0 2).toInt = 0) → (I0 3).toInt < (I3 3).toInt) from by omega), (show ((I3 3).toInt ≤ (I3 4).toInt) from by omega), (show ((I3 4).toInt ≤ (I0 1).toInt) from by omega), (show ((¬ (I3 2).toInt = 0) → (I3 3).toInt < (I3 4).toInt) from by omega), (show ((¬ (I0 6).toInt = 0) → (¬ (I3 6).toInt = 0)) from by omega), (show ((I0 3).toInt ≤ (I3 3).toInt) from by omega)⟩ dX12_floor_25 (Nat.le_of_ble_eq_true rfl) (Nat.le_of_ble_eq_true rfl)
  have w_I0_1 := rg (hvI 1 (by decide)) (0) (1800) rfl rfl
  have w_I0_2 := rg (hvI 2 (by decide)) (0) (3) rfl rfl
  have w_I0_3 := rg (hvI 3 (by decide)) (0) (1800) rfl rfl
  have w_I0_4 := rg (hvI 4 (by decide)) (0) (1800) rfl rfl
  have w_I0_6 := rg (hvI 6 (by decide)) (0) (5) rfl rfl
  have w_I0_12 := rg (hvI 12 (by decide)) (0) (1) rfl rfl
  refine lv_aload_n hx hb dX12_floor_0 rfl (lv_at hl 0 rfl) ?_
  refine lv_aload_n hx hb dX12_floor_1 rfl (lv_at hl 0 rfl) ?_
  refine g_get F hK hP 0 (Wm_at0 G g q I0 J0 R0 L0) clX12 13 (by decide) flX12_51 rfl dX12_floor_2 ?_
  refine lv_aload_n hx hb dX12_floor_5 rfl (lv_at hl 0 rfl) ?_
  refine g_get F hK hP 0 (Wm_at0 G g q I0 J0 R0 L0) clX12 44 (by decide) flX12_146 rfl dX12_floor_6 ?_
  have w_I0_12 := rg (hvI0 12 (by decide)) (0) (1) rfl rfl
  refine g_iald F hK hP 2 (Wm_at2 G g q I0 J0 R0 L0) (in_of (by omega)) dX12_floor_9 rfl ?_
  refine lv_topi (fun x61 ex61 => ?_)
  have gx61 : x61.toInt = (R0 1 (Int32.toNatClampNeg (I0 12))).toInt := congrArg Int32.toInt (ex61)
  have fx61 : ((0 : Int) ≤ x61.toInt ∧ x61.toInt ≤ (5 : Int)) := by rw [ex61]; exact hvR 1 (by decide) _ (clamp_lt (n := 2) (in_of (by omega)))
  refine lv_iconst (v := 5) hx hb dX12_floor_10 (by decide) ?_
  refine lv_icmp_ne (tgt := 18) hx hb dX12_floor_11 (by decide) (fun c62 => ?_) (fun c62 => ?_)
  · have gc62 : ¬ (x61.toInt = 5) := fun q0 => c62 (Int32.toInt_inj.mp q0)
    refine lv_iconst (v := 0) hx hb dX12_floor_18 (by decide) ?_
    exact lab_19 0 I0 J0 R0 L0 _ _ _ hvI hvR hsI hsR (by decide) (show (0 = 0 → (R0 1 (Int32.toNatClampNeg (I0 12))).toInt ≤ 4) from by omega) (show ((I0 2).toInt = (I0 2).toInt) from by omega) (show ((I0 4).toInt = (I0 4).toInt) from by omega) (show ((I0 3).toInt = (I0 3).toInt) from by omega) (show ((I0 3).toInt ≤ (I0 4).toInt) from by omega) (show ((I0 4).toInt ≤ (I0 1).toInt) from by omega) (show ((¬ (I0 2).toInt = 0) → (I0 3).toInt < (I0 4).toInt) from by omega) (show ((¬ (I0 6).toInt = 0) → (¬ (I0 6).toInt = 0)) from by omega) (show ((I0 3).toInt ≤ (I0 3).toInt) from by omega) hP hD hS (lv_sub hl [0] rfl)
  · have gc62 : x61.toInt = 5 := congrArg Int32.toInt c62
    refine lv_iconst (v := 1) hx hb dX12_floor_14 (by decide) ?_
    refine lv_goto (tgt := 19) hx hb dX12_floor_15 (by decide) ?_
    exact lab_19 1 I0 J0 R0 L0 _ _ _ hvI hvR hsI hsR (by decide) (show (1 = 0 → (R0 1 (Int32.toNatClampNeg (I0 12))).toInt ≤ 4) from by omega) (show ((I0 2).toInt = (I0 2).toInt) from by omega) (show ((I0 4).toInt = (I0 4).toInt) from by omega) (show ((I0 3).toInt = (I0 3).toInt) from by omega) (show ((I0 3).toInt ≤ (I0 4).toInt) from by omega) (show ((I0 4).toInt ≤ (I0 1).toInt) from by omega) (show ((¬ (I0 2).toInt = 0) → (I0 3).toInt < (I0 4).toInt) from by omega) (show ((¬ (I0 6).toInt = 0) → (¬ (I0 6).toInt = 0)) from by omega) (show ((I0 3).toInt ≤ (I0 3).toInt) from by omega) hP hD hS (lv_sub hl [0] rfl)
set_option maxHeartbeats 4000000 in
set_option maxRecDepth 100000 in
theorem s_X12_liking (l : Launch) (G : Gx) (g q : Nat → Nat) (I0 : Nat → Int32) (J0 : Nat → Int64) (R0 : Nat → Nat → Int32) (L0 : Nat → Nat → Int64) (hvI : InvI Wm_lo Wm_hi I0) (hvR : InvR Wm_rl R0)   (hpre0 : ((I0 3).toInt ≤ (I0 4).toInt)) (hpre1 : ((I0 4).toInt ≤ (I0 1).toInt)) (hpre2 : ((¬ (I0 2).toInt = 0) → (I0 3).toInt < (I0 4).toInt)) : CtV (S := St) l yX12_liking cX12_liking 4 none (rmD 4 0 0) G [.ref (g 45)] (Wm G g q I0 J0 R0 L0) (fun u => InvI Wm_lo Wm_hi u.1 ∧ InvR Wm_rl u.2.2.1 ∧ SmF ([2, 3, 4, 5, 6, 7] : List Nat) I0 u.1 ∧ SmF ([11] : List Nat) R0 u.2.2.1 ∧ (((u.1 6).toInt = 0 ∧ ¬ (I0 2).toInt = 0) → (I0 3).toInt < (u.1 3).toInt) ∧ ((u.1 3).toInt ≤ (u.1 4).toInt) ∧ ((u.1 4).toInt ≤ (I0 1).toInt) ∧ ((¬ (u.1 2).toInt = 0) → (u.1 3).toInt < (u.1 4).toInt) ∧ ((¬ (I0 6).toInt = 0) → (¬ (u.1 6).toInt = 0)) ∧ ((I0 3).toInt ≤ (u.1 3).toInt)) (fun u => Wm G g q u.1 u.2.1 u.2.2.1 u.2.2.2) := by
  refine ctV_of (own := RX12) (by decide +kernel) rfl (Nat.le_of_ble_eq_true rfl) ?_
  intro p e s m below meth c A ls F hr hlk hnm hK hP hD hA hS hl
  have hx := F.1
  have hb := F.2.1
  have hown := F.2.2.2.1
  have hl : lv_has ls 4 [(0, .ref (g 45))] := hl
  obtain ⟨Q, hQ⟩ : ∃ Q : State → Prop, Q = MQ below (va_Qv (S := St) (fun u => InvI Wm_lo Wm_hi u.1 ∧ InvR Wm_rl u.2.2.1 ∧ SmF ([2, 3, 4, 5, 6, 7] : List Nat) I0 u.1 ∧ SmF ([11] : List Nat) R0 u.2.2.1 ∧ (((u.1 6).toInt = 0 ∧ ¬ (I0 2).toInt = 0) → (I0 3).toInt < (u.1 3).toInt) ∧ ((u.1 3).toInt ≤ (u.1 4).toInt) ∧ ((u.1 4).toInt ≤ (I0 1).toInt) ∧ ((¬ (u.1 2).toInt = 0) → (u.1 3).toInt < (u.1 4).toInt) ∧ ((¬ (I0 6).toInt = 0) → (¬ (u.1 6).toInt = 0)) ∧ ((I0 3).toInt ≤ (u.1 3).toInt)) (BX G A (fun u => Wm G g q u.1 u.2.1 u.2.2.1 u.2.2.2)) A) [.ref (g 45)].toArray s 0 0 A := ⟨_, rfl⟩
  rw [show (MQ below (va_Qv (S := St) (fun u => InvI Wm_lo Wm_hi u.1 ∧ InvR Wm_rl u.2.2.1 ∧ SmF ([2, 3, 4, 5, 6, 7] : List Nat) I0 u.1 ∧ SmF ([11] : List Nat) R0 u.2.2.1 ∧ (((u.1 6).toInt = 0 ∧ ¬ (I0 2).toInt = 0) → (I0 3).toInt < (u.1 3).toInt) ∧ ((u.1 3).toInt ≤ (u.1 4).toInt) ∧ ((u.1 4).toInt ≤ (I0 1).toInt) ∧ ((¬ (u.1 2).toInt = 0) → (u.1 3).toInt < (u.1 4).toInt) ∧ ((¬ (I0 6).toInt = 0) → (¬ (u.1 6).toInt = 0)) ∧ ((I0 3).toInt ≤ (u.1 3).toInt)) (BX G A (fun u => Wm G g q u.1 u.2.1 u.2.2.1 u.2.2.2)) A) [.ref (g 45)].toArray s (rmD 4 0 0).cells (rmD 4 0 0).slots A) = Q from hQ.symm]
  have hsI := smF_rf ([2, 3, 4, 5, 6, 7] : List Nat) I0
  have hsR := smF_rf ([11] : List Nat) R0
  have hvI0 := hvI
  have w_I0_1 := rg (hvI 1 (by decide)) (0) (1800) rfl rfl
  have w_I0_2 := rg (hvI 2 (by decide)) (0) (3) rfl rfl
  have w_I0_3 := rg (hvI 3 (by decide)) (0) (1800) rfl rfl
  have w_I0_4 := rg (hvI 4 (by decide)) (0) (1800) rfl rfl
  have w_I0_6 := rg (hvI 6 (by decide)) (0) (5) rfl rfl
  refine lv_aload_n hx hb dX12_liking_0 rfl (lv_at hl 0 rfl) ?_
  refine lv_iconst (v := 0) hx hb dX12_liking_1 (by decide) ?_
  refine wvi (As := [.int 0]) (rest := []) (b := (g 45)) (d := 3) F hK hP hD hS hA (s_X12_counts l G g q I0 J0 R0 L0 hvI hvR  0 (by decide) (by omega) (by omega) (by omega)) kmV_X12_counts mlX12_358 clX12 rfl 0 (Wm_at0 G g q I0 J0 R0 L0) ⟨(Nat.le_of_ble_eq_true rfl), (Nat.le_of_ble_eq_true rfl)⟩ hl.1 rfl (Nat.le_of_ble_eq_true rfl) dX12_liking_2 (fun r1 u2 H locs hwr1 hP hD hS => ?_)
  obtain ⟨I3, J4, R5, L6⟩ := u2
  replace hP : va_P G.1 vwCl (Wm G g q I3 J4 R5 L6) H := hP
  replace hD : va_D A (Wm G g q I3 J4 R5 L6) := hD
  obtain ⟨hvI, hvR, tIr1, tRr1, F0r1, F1r1, F2r1, F3r1, F4r1, F5r1, F6r1⟩ := hwr1
  replace F0r1 : ((0 : Int) ≤ r1.toInt ∧ r1.toInt ≤ (1 : Int)) := F0r1
  replace F1r1 : ((r1.toInt = 1 ∧ (0 : Int) = 0 ∧ (I3 6).toInt = 0 ∧ (I0 4).toInt ≤ (I3 3).toInt) ∨ (r1.toInt = 0 ∧ ¬ (I3 6).toInt = 0)) := F1r1
  replace F2r1 : ((I3 3).toInt ≤ (I3 4).toInt) := F2r1
  replace F3r1 : ((I3 4).toInt ≤ (I0 1).toInt) := F3r1
  replace F4r1 : ((¬ (I3 2).toInt = 0) → (I3 3).toInt < (I3 4).toInt) := F4r1
  replace F5r1 : ((¬ (I0 6).toInt = 0) → (¬ (I3 6).toInt = 0)) := F5r1
  replace F6r1 : ((I0 3).toInt ≤ (I3 3).toInt) := F6r1
  replace hvI : InvI Wm_lo Wm_hi I3 := hvI
  replace hvR : InvR Wm_rl R5 := hvR
  replace tIr1 : SmF ([2, 3, 4, 5, 6, 7] : List Nat) I0 I3 := tIr1
  replace tRr1 : SmF ([] : List Nat) R0 R5 := tRr1
  have hv_I3 := hvI
  have hsI := smF_tr hsI tIr1 (by decide)
  have hsR := smF_tr hsR tRr1 (by decide)
  have u_I3_1 : (I3 1).toInt = (I0 1).toInt := congrArg Int32.toInt (tIr1 1 rfl)
  have w_I3_2 := rg (hvI 2 (by decide)) (0) (3) rfl rfl
  have w_I3_3 := rg (hvI 3 (by decide)) (0) (1800) rfl rfl
  have w_I3_4 := rg (hvI 4 (by decide)) (0) (1800) rfl rfl
  have w_I3_6 := rg (hvI 6 (by decide)) (0) (5) rfl rfl
  have nr1_0 : ((I3 3).toInt ≤ (I3 4).toInt) := by omega
  have nr1_1 : ((I3 4).toInt ≤ (I0 1).toInt) := by omega
  have nr1_2 : ((¬ (I3 2).toInt = 0) → (I3 3).toInt < (I3 4).toInt) := by omega
  have nr1_3 : ((¬ (I0 6).toInt = 0) → (¬ (I3 6).toInt = 0)) := by omega
  have nr1_4 : ((I0 3).toInt ≤ (I3 3).toInt) := by omega
  clear F2r1 F3r1 F4r1 F5r1 F6r1
  refine lv_if_ne (tgt := 9) hx hb dX12_liking_5 (by decide) (fun c7 => ?_) (fun c7 => ?_)
  · have gc7 : ¬ (r1.toInt = 0) := fun q0 => c7 (Int32.toInt_inj.mp q0)
    refine lv_bipush (v := 12) hx hb dX12_liking_9 (by decide) ?_
    refine lv_aload_n hx hb dX12_liking_11 rfl (lv_at hl 0 rfl) ?_
    refine g_get F hK hP 0 (Wm_at0 G g q I3 J4 R5 L6) clX12 44 (by decide) flX12_146 rfl dX12_liking_12 ?_
    refine cst_i (hsI 12 rfl) ?_
    have w_I0_12 := rg (hvI0 12 (by decide)) (0) (1) rfl rfl
    refine lv_imul hx hb dX12_liking_15 ?_
    refine lv_topi (fun x8 ex8 => ?_)
    have fx8 : x8.toInt = 12 * (I0 12).toInt := by rw [ex8]; exact t_mul (by show (-2147483648 : Int) ≤ 12 * (I0 12).toInt; omega) (by show 12 * (I0 12).toInt ≤ 2147483647; omega)
    refine lv_aload_n hx hb dX12_liking_16 rfl (lv_at hl 0 rfl) ?_
    refine lv_iconst (v := 2) hx hb dX12_liking_17 (by decide) ?_
    refine wvi (As := [.int 2]) (rest := [.int x8]) (b := (g 45)) (d := 3) F hK hP hD hS hA (s_X12_asked l G g q I3 J4 R5 L6 hvI hvR  2 (by decide) (by omega) (by omega) (by omega)) kmV_X12_asked mlX12_374 clX12 rfl 0 (Wm_at0 G g q I3 J4 R5 L6) ⟨(Nat.le_of_ble_eq_true rfl), (Nat.le_of_ble_eq_true rfl)⟩ hl.1 rfl (Nat.le_of_ble_eq_true rfl) dX12_liking_18 (fun r9 u10 H locs hwr9 hP hD hS => ?_)
    obtain ⟨I11, J12, R13, L14⟩ := u10
    replace hP : va_P G.1 vwCl (Wm G g q I11 J12 R13 L14) H := hP
    replace hD : va_D A (Wm G g q I11 J12 R13 L14) := hD
    obtain ⟨hvI, hvR, tIr9, tRr9, F0r9, F1r9, F2r9, F3r9, F4r9, F5r9, F6r9, F7r9⟩ := hwr9
    replace F0r9 : ((0 : Int) ≤ r9.toInt ∧ r9.toInt ≤ (11 : Int)) := F0r9
    replace F1r9 : ((2 : Int) = 0 → r9.toInt ≤ 4) := F1r9
    replace F2r9 : ((2 : Int) = 1 → r9.toInt ≤ 5) := F2r9
    replace F3r9 : ((I11 3).toInt ≤ (I11 4).toInt) := F3r9
    replace F4r9 : ((I11 4).toInt ≤ (I3 1).toInt) := F4r9
    replace F5r9 : ((¬ (I11 2).toInt = 0) → (I11 3).toInt < (I11 4).toInt) := F5r9
    replace F6r9 : ((¬ (I3 6).toInt = 0) → (¬ (I11 6).toInt = 0)) := F6r9
    replace F7r9 : ((I3 3).toInt ≤ (I11 3).toInt) := F7r9
    replace hvI : InvI Wm_lo Wm_hi I11 := hvI
    replace hvR : InvR Wm_rl R13 := hvR
    replace tIr9 : SmF ([2, 3, 4, 5, 6, 7] : List Nat) I3 I11 := tIr9
    replace tRr9 : SmF ([] : List Nat) R5 R13 := tRr9
    have hv_I11 := hvI
    have hsI := smF_tr hsI tIr9 (by decide)
    have hsR := smF_tr hsR tRr9 (by decide)
    have u_I11_1 : (I11 1).toInt = (I3 1).toInt := congrArg Int32.toInt (tIr9 1 rfl)
    have w_I11_2 := rg (hvI 2 (by decide)) (0) (3) rfl rfl
    have w_I11_3 := rg (hvI 3 (by decide)) (0) (1800) rfl rfl
    have w_I11_4 := rg (hvI 4 (by decide)) (0) (1800) rfl rfl
    have w_I11_6 := rg (hvI 6 (by decide)) (0) (5) rfl rfl
    have nr9_0 : ((I11 3).toInt ≤ (I11 4).toInt) := by omega
    have nr9_1 : ((I11 4).toInt ≤ (I0 1).toInt) := by omega
    have nr9_2 : ((¬ (I11 2).toInt = 0) → (I11 3).toInt < (I11 4).toInt) := by omega
    have nr9_3 : ((¬ (I0 6).toInt = 0) → (¬ (I11 6).toInt = 0)) := by omega
    have nr9_4 : ((I0 3).toInt ≤ (I11 3).toInt) := by omega
    have nr9_5 : ((I0 4).toInt ≤ (I11 3).toInt) := by omega
    clear nr1_0 nr1_1 nr1_2 nr1_3 nr1_4 F3r9 F4r9 F5r9 F6r9 F7r9
    refine lv_iadd hx hb dX12_liking_21 ?_
    refine lv_topi (fun x15 ex15 => ?_)
    have fx15 : x15.toInt = x8.toInt + r9.toInt := by rw [ex15]; exact t_add (by show (-2147483648 : Int) ≤ x8.toInt + r9.toInt; omega) (by show x8.toInt + r9.toInt ≤ 2147483647; omega)
    refine lv_istore_n (lv' := [(1, .int x15), (0, .ref (g 45))]) hx hb dX12_liking_22 rfl hl (by decide) rfl (fun ls hl => ?_)
    refine lv_aload_n hx hb dX12_liking_23 rfl (lv_at hl 1 rfl) ?_
    refine wvi (As := []) (rest := []) (b := (g 45)) (d := 3) F hK hP hD hS hA (s_X12_dayHere l G g q I11 J12 R13 L14 hvI hvR   (by omega) (by omega) (by omega)) kmV_X12_dayHere mlX12_377 clX12 rfl 0 (Wm_at0 G g q I11 J12 R13 L14) ⟨(Nat.le_of_ble_eq_true rfl), (Nat.le_of_ble_eq_true rfl)⟩ hl.1 rfl (Nat.le_of_ble_eq_true rfl) dX12_liking_24 (fun r16 u17 H locs hwr16 hP hD hS => ?_)
    obtain ⟨I18, J19, R20, L21⟩ := u17
    replace hP : va_P G.1 vwCl (Wm G g q I18 J19 R20 L21) H := hP
    replace hD : va_D A (Wm G g q I18 J19 R20 L21) := hD
    obtain ⟨hvI, hvR, tIr16, tRr16, F0r16, F1r16, F2r16, F3r16, F4r16, F5r16⟩ := hwr16
    replace F0r16 : ((0 : Int) ≤ r16.toInt ∧ r16.toInt ≤ (4 : Int)) := F0r16
    replace F1r16 : ((I18 3).toInt ≤ (I18 4).toInt) := F1r16
    replace F2r16 : ((I18 4).toInt ≤ (I11 1).toInt) := F2r16
    replace F3r16 : ((¬ (I18 2).toInt = 0) → (I18 3).toInt < (I18 4).toInt) := F3r16
    replace F4r16 : ((¬ (I11 6).toInt = 0) → (¬ (I18 6).toInt = 0)) := F4r16
    replace F5r16 : ((I11 3).toInt ≤ (I18 3).toInt) := F5r16
    replace hvI : InvI Wm_lo Wm_hi I18 := hvI
    replace hvR : InvR Wm_rl R20 := hvR
    replace tIr16 : SmF ([2, 3, 4, 5, 6, 7] : List Nat) I11 I18 := tIr16
    replace tRr16 : SmF ([] : List Nat) R13 R20 := tRr16
    have hv_I18 := hvI
    have hsI := smF_tr hsI tIr16 (by decide)
    have hsR := smF_tr hsR tRr16 (by decide)
    have u_I18_1 : (I18 1).toInt = (I11 1).toInt := congrArg Int32.toInt (tIr16 1 rfl)
    have w_I18_2 := rg (hvI 2 (by decide)) (0) (3) rfl rfl
    have w_I18_3 := rg (hvI 3 (by decide)) (0) (1800) rfl rfl
    have w_I18_4 := rg (hvI 4 (by decide)) (0) (1800) rfl rfl
    have w_I18_6 := rg (hvI 6 (by decide)) (0) (5) rfl rfl
    have nr16_0 : ((I18 3).toInt ≤ (I18 4).toInt) := by omega
    have nr16_1 : ((I18 4).toInt ≤ (I0 1).toInt) := by omega
    have nr16_2 : ((¬ (I18 2).toInt = 0) → (I18 3).toInt < (I18 4).toInt) := by omega
    have nr16_3 : ((¬ (I0 6).toInt = 0) → (¬ (I18 6).toInt = 0)) := by omega
    have nr16_4 : ((I0 3).toInt ≤ (I18 3).toInt) := by omega
    have nr16_5 : ((I0 4).toInt ≤ (I18 3).toInt) := by omega
    clear nr9_0 nr9_1 nr9_2 nr9_3 nr9_4 nr9_5 F1r16 F2r16 F3r16 F4r16 F5r16
    refine lv_istore_n (lv' := [(2, .int r16), (1, .int x15), (0, .ref (g 45))]) hx hb dX12_liking_27 rfl hl (by decide) rfl (fun ls hl => ?_)
    refine lv_aload_n hx hb dX12_liking_28 rfl (lv_at hl 2 rfl) ?_
    refine lv_iconst (v := 0) hx hb dX12_liking_29 (by decide) ?_
    refine lv_bipush (v := 99) hx hb dX12_liking_30 (by decide) ?_
    refine wvi (As := [.int 0, .int 99]) (rest := []) (b := (g 45)) (d := 3) F hK hP hD hS hA (s_X12_number l G g q I18 J19 R20 L21 hvI hvR  0 99 (by decide) (by decide) (by omega) (by omega) (by omega)) kmV_X12_number mlX12_370 clX12 rfl 0 (Wm_at0 G g q I18 J19 R20 L21) ⟨(Nat.le_of_ble_eq_true rfl), (Nat.le_of_ble_eq_true rfl)⟩ hl.1 rfl (Nat.le_of_ble_eq_true rfl) dX12_liking_32 (fun r22 u23 H locs hwr22 hP hD hS => ?_)
    obtain ⟨I24, J25, R26, L27⟩ := u23
    replace hP : va_P G.1 vwCl (Wm G g q I24 J25 R26 L27) H := hP
    replace hD : va_D A (Wm G g q I24 J25 R26 L27) := hD
    obtain ⟨hvI, hvR, tIr22, tRr22, F0r22, F1r22, F2r22, F3r22, F4r22, F5r22⟩ := hwr22
    replace F0r22 : ((0 : Int) ≤ r22.toInt ∧ r22.toInt ≤ (9999 : Int)) := F0r22
    replace F1r22 : ((I24 3).toInt ≤ (I24 4).toInt) := F1r22
    replace F2r22 : ((I24 4).toInt ≤ (I18 1).toInt) := F2r22
    replace F3r22 : ((¬ (I24 2).toInt = 0) → (I24 3).toInt < (I24 4).toInt) := F3r22
    replace F4r22 : ((¬ (I18 6).toInt = 0) → (¬ (I24 6).toInt = 0)) := F4r22
    replace F5r22 : ((I18 3).toInt ≤ (I24 3).toInt) := F5r22
    replace hvI : InvI Wm_lo Wm_hi I24 := hvI
    replace hvR : InvR Wm_rl R26 := hvR
    replace tIr22 : SmF ([2, 3, 4, 5, 6, 7] : List Nat) I18 I24 := tIr22
    replace tRr22 : SmF ([] : List Nat) R20 R26 := tRr22
    have hv_I24 := hvI
    have hsI := smF_tr hsI tIr22 (by decide)
    have hsR := smF_tr hsR tRr22 (by decide)
    have u_I24_1 : (I24 1).toInt = (I18 1).toInt := congrArg Int32.toInt (tIr22 1 rfl)
    have w_I24_2 := rg (hvI 2 (by decide)) (0) (3) rfl rfl
    have w_I24_3 := rg (hvI 3 (by decide)) (0) (1800) rfl rfl
    have w_I24_4 := rg (hvI 4 (by decide)) (0) (1800) rfl rfl
    have w_I24_6 := rg (hvI 6 (by decide)) (0) (5) rfl rfl
    have nr22_0 : ((I24 3).toInt ≤ (I24 4).toInt) := by omega
    have nr22_1 : ((I24 4).toInt ≤ (I0 1).toInt) := by omega
    have nr22_2 : ((¬ (I24 2).toInt = 0) → (I24 3).toInt < (I24 4).toInt) := by omega
    have nr22_3 : ((¬ (I0 6).toInt = 0) → (¬ (I24 6).toInt = 0)) := by omega
    have nr22_4 : ((I0 3).toInt ≤ (I24 3).toInt) := by omega
    have nr22_5 : ((I0 4).toInt ≤ (I24 3).toInt) := by omega
    clear nr16_0 nr16_1 nr16_2 nr16_3 nr16_4 nr16_5 F1r22 F2r22 F3r22 F4r22 F5r22
    refine lv_istore_n (lv' := [(3, .int r22), (2, .int r16), (1, .int x15), (0, .ref (g 45))]) hx hb dX12_liking_35 rfl hl (by decide) rfl (fun ls hl => ?_)
    refine lv_aload_n hx hb dX12_liking_36 rfl (lv_at hl 3 rfl) ?_
    refine g_get F hK hP 0 (Wm_at0 G g q I24 J25 R26 L27) clX12 8 (by decide) flX12_36 rfl dX12_liking_37 ?_
    have w_I24_6 := rg (hv_I24 6 (by decide)) (0) (5) rfl rfl
    refine lv_if_ne (tgt := 54) hx hb dX12_liking_40 (by decide) (fun c28 => ?_) (fun c28 => ?_)
    · have gc28 : ¬ ((I24 6).toInt = 0) := fun q0 => c28 (Int32.toInt_inj.mp q0)
      rw [hQ]
      exact q_v F hr hlk (I24, J25, R26, L27) hP hD hS ⟨hvI, hvR, hsI, hsR, (show (((I24 6).toInt = 0 ∧ ¬ (I0 2).toInt = 0) → (I0 3).toInt < (I24 3).toInt) from by omega), (show ((I24 3).toInt ≤ (I24 4).toInt) from by omega), (show ((I24 4).toInt ≤ (I0 1).toInt) from by omega), (show ((¬ (I24 2).toInt = 0) → (I24 3).toInt < (I24 4).toInt) from by omega), (show ((¬ (I0 6).toInt = 0) → (¬ (I24 6).toInt = 0)) from by omega), (show ((I0 3).toInt ≤ (I24 3).toInt) from by omega)⟩ dX12_liking_54 (Nat.le_of_ble_eq_true rfl) (Nat.le_of_ble_eq_true rfl)
    · have gc28 : (I24 6).toInt = 0 := congrArg Int32.toInt c28
      refine lv_aload_n hx hb dX12_liking_43 rfl (lv_at hl 3 rfl) ?_
      refine g_get F hK hP 0 (Wm_at0 G g q I24 J25 R26 L27) clX12 26 (by decide) flX12_92 rfl dX12_liking_44 ?_
      refine lv_iconst (v := 5) hx hb dX12_liking_47 (by decide) ?_
      refine lv_iload_n hx hb dX12_liking_48 rfl (lv_at hl 2 rfl) ?_
      refine lv_imul hx hb dX12_liking_49 ?_
      refine lv_topi (fun x29 ex29 => ?_)
      have fx29 : x29.toInt = 5 * x15.toInt := by rw [ex29]; exact t_mul (by show (-2147483648 : Int) ≤ 5 * x15.toInt; omega) (by show 5 * x15.toInt ≤ 2147483647; omega)
      refine lv_iload_n hx hb dX12_liking_50 rfl (lv_at hl 1 rfl) ?_
      refine lv_iadd hx hb dX12_liking_51 ?_
      refine lv_topi (fun x30 ex30 => ?_)
      have fx30 : x30.toInt = x29.toInt + r16.toInt := by rw [ex30]; exact t_add (by show (-2147483648 : Int) ≤ x29.toInt + r16.toInt; omega) (by show x29.toInt + r16.toInt ≤ 2147483647; omega)
      refine lv_iload_n hx hb dX12_liking_52 rfl (lv_at hl 0 rfl) ?_
      refine p_row (W1 := fun y => Wm G g q I24 J25 y L27) (n := 11) F hK hP hD hS 15 (Wm_at15 G g q I24 J25 R26 L27) (in_of (by omega)) dX12_liking_53 (Wm_rowR11 G g q I24 J25 R26 L27) (fun R31 H locs eR31 hP hD hS => ?_)
      have hvR : InvR Wm_rl R31 := inv_upR hvR 11 eR31 (upd_in (hvR 11 (by decide)) (full _))
      have hsR := smF_up hsR eR31 (by decide)
      rw [hQ]
      exact q_v F hr hlk (I24, J25, R31, L27) hP hD hS ⟨hvI, hvR, hsI, hsR, (show (((I24 6).toInt = 0 ∧ ¬ (I0 2).toInt = 0) → (I0 3).toInt < (I24 3).toInt) from by omega), (show ((I24 3).toInt ≤ (I24 4).toInt) from by omega), (show ((I24 4).toInt ≤ (I0 1).toInt) from by omega), (show ((¬ (I24 2).toInt = 0) → (I24 3).toInt < (I24 4).toInt) from by omega), (show ((¬ (I0 6).toInt = 0) → (¬ (I24 6).toInt = 0)) from by omega), (show ((I0 3).toInt ≤ (I24 3).toInt) from by omega)⟩ dX12_liking_54 (Nat.le_of_ble_eq_true rfl) (Nat.le_of_ble_eq_true rfl)
  · have gc7 : r1.toInt = 0 := congrArg Int32.toInt c7
    rw [hQ]
    exact q_v F hr hlk (I3, J4, R5, L6) hP hD hS ⟨hvI, hvR, hsI, hsR, (show (((I3 6).toInt = 0 ∧ ¬ (I0 2).toInt = 0) → (I0 3).toInt < (I3 3).toInt) from by omega), (show ((I3 3).toInt ≤ (I3 4).toInt) from by omega), (show ((I3 4).toInt ≤ (I0 1).toInt) from by omega), (show ((¬ (I3 2).toInt = 0) → (I3 3).toInt < (I3 4).toInt) from by omega), (show ((¬ (I0 6).toInt = 0) → (¬ (I3 6).toInt = 0)) from by omega), (show ((I0 3).toInt ≤ (I3 3).toInt) from by omega)⟩ dX12_liking_8 (Nat.le_of_ble_eq_true rfl) (Nat.le_of_ble_eq_true rfl)
set_option maxHeartbeats 4000000 in
set_option maxRecDepth 100000 in
theorem s_X12_meeting (l : Launch) (G : Gx) (g q : Nat → Nat) (I0 : Nat → Int32) (J0 : Nat → Int64) (R0 : Nat → Nat → Int32) (L0 : Nat → Nat → Int64) (hvI : InvI Wm_lo Wm_hi I0) (hvR : InvR Wm_rl R0)   (hpre0 : ((I0 3).toInt ≤ (I0 4).toInt)) (hpre1 : ((I0 4).toInt ≤ (I0 1).toInt)) (hpre2 : ((¬ (I0 2).toInt = 0) → (I0 3).toInt < (I0 4).toInt)) : CtV (S := St) l yX12_meeting cX12_meeting 2 none (rmD 4 0 0) G [.ref (g 45)] (Wm G g q I0 J0 R0 L0) (fun u => InvI Wm_lo Wm_hi u.1 ∧ InvR Wm_rl u.2.2.1 ∧ SmF ([2, 3, 4, 5, 6, 7] : List Nat) I0 u.1 ∧ SmF ([6] : List Nat) R0 u.2.2.1 ∧ (((u.1 6).toInt = 0 ∧ ¬ (I0 2).toInt = 0) → (I0 3).toInt < (u.1 3).toInt) ∧ ((u.1 3).toInt ≤ (u.1 4).toInt) ∧ ((u.1 4).toInt ≤ (I0 1).toInt) ∧ ((¬ (u.1 2).toInt = 0) → (u.1 3).toInt < (u.1 4).toInt) ∧ ((¬ (I0 6).toInt = 0) → (¬ (u.1 6).toInt = 0)) ∧ ((I0 3).toInt ≤ (u.1 3).toInt)) (fun u => Wm G g q u.1 u.2.1 u.2.2.1 u.2.2.2) := by
  refine ctV_of (own := RX12) (by decide +kernel) rfl (Nat.le_of_ble_eq_true rfl) ?_
  intro p e s m below meth c A ls F hr hlk hnm hK hP hD hA hS hl
  have hx := F.1
  have hb := F.2.1
  have hown := F.2.2.2.1
  have hl : lv_has ls 2 [(0, .ref (g 45))] := hl
  obtain ⟨Q, hQ⟩ : ∃ Q : State → Prop, Q = MQ below (va_Qv (S := St) (fun u => InvI Wm_lo Wm_hi u.1 ∧ InvR Wm_rl u.2.2.1 ∧ SmF ([2, 3, 4, 5, 6, 7] : List Nat) I0 u.1 ∧ SmF ([6] : List Nat) R0 u.2.2.1 ∧ (((u.1 6).toInt = 0 ∧ ¬ (I0 2).toInt = 0) → (I0 3).toInt < (u.1 3).toInt) ∧ ((u.1 3).toInt ≤ (u.1 4).toInt) ∧ ((u.1 4).toInt ≤ (I0 1).toInt) ∧ ((¬ (u.1 2).toInt = 0) → (u.1 3).toInt < (u.1 4).toInt) ∧ ((¬ (I0 6).toInt = 0) → (¬ (u.1 6).toInt = 0)) ∧ ((I0 3).toInt ≤ (u.1 3).toInt)) (BX G A (fun u => Wm G g q u.1 u.2.1 u.2.2.1 u.2.2.2)) A) [.ref (g 45)].toArray s 0 0 A := ⟨_, rfl⟩
  rw [show (MQ below (va_Qv (S := St) (fun u => InvI Wm_lo Wm_hi u.1 ∧ InvR Wm_rl u.2.2.1 ∧ SmF ([2, 3, 4, 5, 6, 7] : List Nat) I0 u.1 ∧ SmF ([6] : List Nat) R0 u.2.2.1 ∧ (((u.1 6).toInt = 0 ∧ ¬ (I0 2).toInt = 0) → (I0 3).toInt < (u.1 3).toInt) ∧ ((u.1 3).toInt ≤ (u.1 4).toInt) ∧ ((u.1 4).toInt ≤ (I0 1).toInt) ∧ ((¬ (u.1 2).toInt = 0) → (u.1 3).toInt < (u.1 4).toInt) ∧ ((¬ (I0 6).toInt = 0) → (¬ (u.1 6).toInt = 0)) ∧ ((I0 3).toInt ≤ (u.1 3).toInt)) (BX G A (fun u => Wm G g q u.1 u.2.1 u.2.2.1 u.2.2.2)) A) [.ref (g 45)].toArray s (rmD 4 0 0).cells (rmD 4 0 0).slots A) = Q from hQ.symm]
  have hsI := smF_rf ([2, 3, 4, 5, 6, 7] : List Nat) I0
  have hsR := smF_rf ([6] : List Nat) R0
  have hvI0 := hvI
  have w_I0_1 := rg (hvI 1 (by decide)) (0) (1800) rfl rfl
  have w_I0_2 := rg (hvI 2 (by decide)) (0) (3) rfl rfl
  have w_I0_3 := rg (hvI 3 (by decide)) (0) (1800) rfl rfl
  have w_I0_4 := rg (hvI 4 (by decide)) (0) (1800) rfl rfl
  have w_I0_6 := rg (hvI 6 (by decide)) (0) (5) rfl rfl
  refine lv_aload_n hx hb dX12_meeting_0 rfl (lv_at hl 0 rfl) ?_
  refine lv_iconst (v := 0) hx hb dX12_meeting_1 (by decide) ?_
  refine wvi (As := [.int 0]) (rest := []) (b := (g 45)) (d := 3) F hK hP hD hS hA (s_X12_counts l G g q I0 J0 R0 L0 hvI hvR  0 (by decide) (by omega) (by omega) (by omega)) kmV_X12_counts mlX12_358 clX12 rfl 0 (Wm_at0 G g q I0 J0 R0 L0) ⟨(Nat.le_of_ble_eq_true rfl), (Nat.le_of_ble_eq_true rfl)⟩ hl.1 rfl (Nat.le_of_ble_eq_true rfl) dX12_meeting_2 (fun r1 u2 H locs hwr1 hP hD hS => ?_)
  obtain ⟨I3, J4, R5, L6⟩ := u2
  replace hP : va_P G.1 vwCl (Wm G g q I3 J4 R5 L6) H := hP
  replace hD : va_D A (Wm G g q I3 J4 R5 L6) := hD
  obtain ⟨hvI, hvR, tIr1, tRr1, F0r1, F1r1, F2r1, F3r1, F4r1, F5r1, F6r1⟩ := hwr1
  replace F0r1 : ((0 : Int) ≤ r1.toInt ∧ r1.toInt ≤ (1 : Int)) := F0r1
  replace F1r1 : ((r1.toInt = 1 ∧ (0 : Int) = 0 ∧ (I3 6).toInt = 0 ∧ (I0 4).toInt ≤ (I3 3).toInt) ∨ (r1.toInt = 0 ∧ ¬ (I3 6).toInt = 0)) := F1r1
  replace F2r1 : ((I3 3).toInt ≤ (I3 4).toInt) := F2r1
  replace F3r1 : ((I3 4).toInt ≤ (I0 1).toInt) := F3r1
  replace F4r1 : ((¬ (I3 2).toInt = 0) → (I3 3).toInt < (I3 4).toInt) := F4r1
  replace F5r1 : ((¬ (I0 6).toInt = 0) → (¬ (I3 6).toInt = 0)) := F5r1
  replace F6r1 : ((I0 3).toInt ≤ (I3 3).toInt) := F6r1
  replace hvI : InvI Wm_lo Wm_hi I3 := hvI
  replace hvR : InvR Wm_rl R5 := hvR
  replace tIr1 : SmF ([2, 3, 4, 5, 6, 7] : List Nat) I0 I3 := tIr1
  replace tRr1 : SmF ([] : List Nat) R0 R5 := tRr1
  have hv_I3 := hvI
  have hsI := smF_tr hsI tIr1 (by decide)
  have hsR := smF_tr hsR tRr1 (by decide)
  have u_I3_1 : (I3 1).toInt = (I0 1).toInt := congrArg Int32.toInt (tIr1 1 rfl)
  have w_I3_2 := rg (hvI 2 (by decide)) (0) (3) rfl rfl
  have w_I3_3 := rg (hvI 3 (by decide)) (0) (1800) rfl rfl
  have w_I3_4 := rg (hvI 4 (by decide)) (0) (1800) rfl rfl
  have w_I3_6 := rg (hvI 6 (by decide)) (0) (5) rfl rfl
  have nr1_0 : ((I3 3).toInt ≤ (I3 4).toInt) := by omega
  have nr1_1 : ((I3 4).toInt ≤ (I0 1).toInt) := by omega
  have nr1_2 : ((¬ (I3 2).toInt = 0) → (I3 3).toInt < (I3 4).toInt) := by omega
  have nr1_3 : ((¬ (I0 6).toInt = 0) → (¬ (I3 6).toInt = 0)) := by omega
  have nr1_4 : ((I0 3).toInt ≤ (I3 3).toInt) := by omega
  clear F2r1 F3r1 F4r1 F5r1 F6r1
  refine lv_if_ne (tgt := 9) hx hb dX12_meeting_5 (by decide) (fun c7 => ?_) (fun c7 => ?_)
  · have gc7 : ¬ (r1.toInt = 0) := fun q0 => c7 (Int32.toInt_inj.mp q0)
    refine lv_aload_n hx hb dX12_meeting_9 rfl (lv_at hl 0 rfl) ?_
    refine lv_iconst (v := 1) hx hb dX12_meeting_10 (by decide) ?_
    refine wvi (As := [.int 1]) (rest := []) (b := (g 45)) (d := 3) F hK hP hD hS hA (s_X12_asked l G g q I3 J4 R5 L6 hvI hvR  1 (by decide) (by omega) (by omega) (by omega)) kmV_X12_asked mlX12_374 clX12 rfl 0 (Wm_at0 G g q I3 J4 R5 L6) ⟨(Nat.le_of_ble_eq_true rfl), (Nat.le_of_ble_eq_true rfl)⟩ hl.1 rfl (Nat.le_of_ble_eq_true rfl) dX12_meeting_11 (fun r8 u9 H locs hwr8 hP hD hS => ?_)
    obtain ⟨I10, J11, R12, L13⟩ := u9
    replace hP : va_P G.1 vwCl (Wm G g q I10 J11 R12 L13) H := hP
    replace hD : va_D A (Wm G g q I10 J11 R12 L13) := hD
    obtain ⟨hvI, hvR, tIr8, tRr8, F0r8, F1r8, F2r8, F3r8, F4r8, F5r8, F6r8, F7r8⟩ := hwr8
    replace F0r8 : ((0 : Int) ≤ r8.toInt ∧ r8.toInt ≤ (11 : Int)) := F0r8
    replace F1r8 : ((1 : Int) = 0 → r8.toInt ≤ 4) := F1r8
    replace F2r8 : ((1 : Int) = 1 → r8.toInt ≤ 5) := F2r8
    replace F3r8 : ((I10 3).toInt ≤ (I10 4).toInt) := F3r8
    replace F4r8 : ((I10 4).toInt ≤ (I3 1).toInt) := F4r8
    replace F5r8 : ((¬ (I10 2).toInt = 0) → (I10 3).toInt < (I10 4).toInt) := F5r8
    replace F6r8 : ((¬ (I3 6).toInt = 0) → (¬ (I10 6).toInt = 0)) := F6r8
    replace F7r8 : ((I3 3).toInt ≤ (I10 3).toInt) := F7r8
    replace hvI : InvI Wm_lo Wm_hi I10 := hvI
    replace hvR : InvR Wm_rl R12 := hvR
    replace tIr8 : SmF ([2, 3, 4, 5, 6, 7] : List Nat) I3 I10 := tIr8
    replace tRr8 : SmF ([] : List Nat) R5 R12 := tRr8
    have hv_I10 := hvI
    have hsI := smF_tr hsI tIr8 (by decide)
    have hsR := smF_tr hsR tRr8 (by decide)
    have u_I10_1 : (I10 1).toInt = (I3 1).toInt := congrArg Int32.toInt (tIr8 1 rfl)
    have w_I10_2 := rg (hvI 2 (by decide)) (0) (3) rfl rfl
    have w_I10_3 := rg (hvI 3 (by decide)) (0) (1800) rfl rfl
    have w_I10_4 := rg (hvI 4 (by decide)) (0) (1800) rfl rfl
    have w_I10_6 := rg (hvI 6 (by decide)) (0) (5) rfl rfl
    have nr8_0 : ((I10 3).toInt ≤ (I10 4).toInt) := by omega
    have nr8_1 : ((I10 4).toInt ≤ (I0 1).toInt) := by omega
    have nr8_2 : ((¬ (I10 2).toInt = 0) → (I10 3).toInt < (I10 4).toInt) := by omega
    have nr8_3 : ((¬ (I0 6).toInt = 0) → (¬ (I10 6).toInt = 0)) := by omega
    have nr8_4 : ((I0 3).toInt ≤ (I10 3).toInt) := by omega
    have nr8_5 : ((I0 4).toInt ≤ (I10 3).toInt) := by omega
    clear nr1_0 nr1_1 nr1_2 nr1_3 nr1_4 F3r8 F4r8 F5r8 F6r8 F7r8
    refine lv_istore_n (lv' := [(1, .int r8), (0, .ref (g 45))]) hx hb dX12_meeting_14 rfl hl (by decide) rfl (fun ls hl => ?_)
    refine lv_aload_n hx hb dX12_meeting_15 rfl (lv_at hl 1 rfl) ?_
    refine g_get F hK hP 0 (Wm_at0 G g q I10 J11 R12 L13) clX12 8 (by decide) flX12_36 rfl dX12_meeting_16 ?_
    have w_I10_6 := rg (hv_I10 6 (by decide)) (0) (5) rfl rfl
    refine lv_if_ne (tgt := 37) hx hb dX12_meeting_19 (by decide) (fun c14 => ?_) (fun c14 => ?_)
    · have gc14 : ¬ ((I10 6).toInt = 0) := fun q0 => c14 (Int32.toInt_inj.mp q0)
      rw [hQ]
      exact q_v F hr hlk (I10, J11, R12, L13) hP hD hS ⟨hvI, hvR, hsI, hsR, (show (((I10 6).toInt = 0 ∧ ¬ (I0 2).toInt = 0) → (I0 3).toInt < (I10 3).toInt) from by omega), (show ((I10 3).toInt ≤ (I10 4).toInt) from by omega), (show ((I10 4).toInt ≤ (I0 1).toInt) from by omega), (show ((¬ (I10 2).toInt = 0) → (I10 3).toInt < (I10 4).toInt) from by omega), (show ((¬ (I0 6).toInt = 0) → (¬ (I10 6).toInt = 0)) from by omega), (show ((I0 3).toInt ≤ (I10 3).toInt) from by omega)⟩ dX12_meeting_37 (Nat.le_of_ble_eq_true rfl) (Nat.le_of_ble_eq_true rfl)
    · have gc14 : (I10 6).toInt = 0 := congrArg Int32.toInt c14
      refine lv_aload_n hx hb dX12_meeting_22 rfl (lv_at hl 1 rfl) ?_
      refine g_get F hK hP 0 (Wm_at0 G g q I10 J11 R12 L13) clX12 20 (by decide) flX12_73 rfl dX12_meeting_23 ?_
      refine lv_bipush (v := 6) hx hb dX12_meeting_26 (by decide) ?_
      refine lv_aload_n hx hb dX12_meeting_28 rfl (lv_at hl 1 rfl) ?_
      refine g_get F hK hP 0 (Wm_at0 G g q I10 J11 R12 L13) clX12 44 (by decide) flX12_146 rfl dX12_meeting_29 ?_
      refine cst_i (hsI 12 rfl) ?_
      have w_I0_12 := rg (hvI0 12 (by decide)) (0) (1) rfl rfl
      refine lv_imul hx hb dX12_meeting_32 ?_
      refine lv_topi (fun x15 ex15 => ?_)
      have fx15 : x15.toInt = 6 * (I0 12).toInt := by rw [ex15]; exact t_mul (by show (-2147483648 : Int) ≤ 6 * (I0 12).toInt; omega) (by show 6 * (I0 12).toInt ≤ 2147483647; omega)
      refine lv_iload_n hx hb dX12_meeting_33 rfl (lv_at hl 0 rfl) ?_
      refine lv_iadd hx hb dX12_meeting_34 ?_
      refine lv_topi (fun x16 ex16 => ?_)
      have fx16 : x16.toInt = x15.toInt + r8.toInt := by rw [ex16]; exact t_add (by show (-2147483648 : Int) ≤ x15.toInt + r8.toInt; omega) (by show x15.toInt + r8.toInt ≤ 2147483647; omega)
      refine lv_iconst (v := 1) hx hb dX12_meeting_35 (by decide) ?_
      refine p_zrow (W1 := fun y => Wm G g q I10 J11 y L13) (n := 6) F hK hP hD hS 9 (Wm_at9 G g q I10 J11 R12 L13) (narz (by decide)) (in_of (by omega)) dX12_meeting_36 (Wm_rowR6 G g q I10 J11 R12 L13) (fun R17 H locs eR17 hP hD hS => ?_)
      have hvR : InvR Wm_rl R17 := inv_upR hvR 6 eR17 (upd_in (hvR 6 (by decide)) (by decide))
      have hsR := smF_up hsR eR17 (by decide)
      rw [hQ]
      exact q_v F hr hlk (I10, J11, R17, L13) hP hD hS ⟨hvI, hvR, hsI, hsR, (show (((I10 6).toInt = 0 ∧ ¬ (I0 2).toInt = 0) → (I0 3).toInt < (I10 3).toInt) from by omega), (show ((I10 3).toInt ≤ (I10 4).toInt) from by omega), (show ((I10 4).toInt ≤ (I0 1).toInt) from by omega), (show ((¬ (I10 2).toInt = 0) → (I10 3).toInt < (I10 4).toInt) from by omega), (show ((¬ (I0 6).toInt = 0) → (¬ (I10 6).toInt = 0)) from by omega), (show ((I0 3).toInt ≤ (I10 3).toInt) from by omega)⟩ dX12_meeting_37 (Nat.le_of_ble_eq_true rfl) (Nat.le_of_ble_eq_true rfl)
  · have gc7 : r1.toInt = 0 := congrArg Int32.toInt c7
    rw [hQ]
    exact q_v F hr hlk (I3, J4, R5, L6) hP hD hS ⟨hvI, hvR, hsI, hsR, (show (((I3 6).toInt = 0 ∧ ¬ (I0 2).toInt = 0) → (I0 3).toInt < (I3 3).toInt) from by omega), (show ((I3 3).toInt ≤ (I3 4).toInt) from by omega), (show ((I3 4).toInt ≤ (I0 1).toInt) from by omega), (show ((¬ (I3 2).toInt = 0) → (I3 3).toInt < (I3 4).toInt) from by omega), (show ((¬ (I0 6).toInt = 0) → (¬ (I3 6).toInt = 0)) from by omega), (show ((I0 3).toInt ≤ (I3 3).toInt) from by omega)⟩ dX12_meeting_8 (Nat.le_of_ble_eq_true rfl) (Nat.le_of_ble_eq_true rfl)
set_option maxHeartbeats 4000000 in
set_option maxRecDepth 100000 in
theorem s_X12_standing (l : Launch) (G : Gx) (g q : Nat → Nat) (I0 : Nat → Int32) (J0 : Nat → Int64) (R0 : Nat → Nat → Int32) (L0 : Nat → Nat → Int64) (hvI : InvI Wm_lo Wm_hi I0) (hvR : InvR Wm_rl R0)   (hpre0 : ((I0 3).toInt ≤ (I0 4).toInt)) (hpre1 : ((I0 4).toInt ≤ (I0 1).toInt)) (hpre2 : ((¬ (I0 2).toInt = 0) → (I0 3).toInt < (I0 4).toInt)) : CtV (S := St) l yX12_standing cX12_standing 1 none (rmD 4 0 0) G [.ref (g 45)] (Wm G g q I0 J0 R0 L0) (fun u => InvI Wm_lo Wm_hi u.1 ∧ InvR Wm_rl u.2.2.1 ∧ SmF ([2, 3, 4, 5, 6, 7] : List Nat) I0 u.1 ∧ SmF ([21] : List Nat) R0 u.2.2.1 ∧ (((u.1 6).toInt = 0 ∧ ¬ (I0 2).toInt = 0) → (I0 3).toInt < (u.1 3).toInt) ∧ ((u.1 3).toInt ≤ (u.1 4).toInt) ∧ ((u.1 4).toInt ≤ (I0 1).toInt) ∧ ((¬ (u.1 2).toInt = 0) → (u.1 3).toInt < (u.1 4).toInt) ∧ ((¬ (I0 6).toInt = 0) → (¬ (u.1 6).toInt = 0)) ∧ ((I0 3).toInt ≤ (u.1 3).toInt)) (fun u => Wm G g q u.1 u.2.1 u.2.2.1 u.2.2.2) := by
  refine ctV_of (own := RX12) (by decide +kernel) rfl (Nat.le_of_ble_eq_true rfl) ?_
  intro p e s m below meth c A ls F hr hlk hnm hK hP hD hA hS hl
  have hx := F.1
  have hb := F.2.1
  have hown := F.2.2.2.1
  have hl : lv_has ls 1 [(0, .ref (g 45))] := hl
  obtain ⟨Q, hQ⟩ : ∃ Q : State → Prop, Q = MQ below (va_Qv (S := St) (fun u => InvI Wm_lo Wm_hi u.1 ∧ InvR Wm_rl u.2.2.1 ∧ SmF ([2, 3, 4, 5, 6, 7] : List Nat) I0 u.1 ∧ SmF ([21] : List Nat) R0 u.2.2.1 ∧ (((u.1 6).toInt = 0 ∧ ¬ (I0 2).toInt = 0) → (I0 3).toInt < (u.1 3).toInt) ∧ ((u.1 3).toInt ≤ (u.1 4).toInt) ∧ ((u.1 4).toInt ≤ (I0 1).toInt) ∧ ((¬ (u.1 2).toInt = 0) → (u.1 3).toInt < (u.1 4).toInt) ∧ ((¬ (I0 6).toInt = 0) → (¬ (u.1 6).toInt = 0)) ∧ ((I0 3).toInt ≤ (u.1 3).toInt)) (BX G A (fun u => Wm G g q u.1 u.2.1 u.2.2.1 u.2.2.2)) A) [.ref (g 45)].toArray s 0 0 A := ⟨_, rfl⟩
  rw [show (MQ below (va_Qv (S := St) (fun u => InvI Wm_lo Wm_hi u.1 ∧ InvR Wm_rl u.2.2.1 ∧ SmF ([2, 3, 4, 5, 6, 7] : List Nat) I0 u.1 ∧ SmF ([21] : List Nat) R0 u.2.2.1 ∧ (((u.1 6).toInt = 0 ∧ ¬ (I0 2).toInt = 0) → (I0 3).toInt < (u.1 3).toInt) ∧ ((u.1 3).toInt ≤ (u.1 4).toInt) ∧ ((u.1 4).toInt ≤ (I0 1).toInt) ∧ ((¬ (u.1 2).toInt = 0) → (u.1 3).toInt < (u.1 4).toInt) ∧ ((¬ (I0 6).toInt = 0) → (¬ (u.1 6).toInt = 0)) ∧ ((I0 3).toInt ≤ (u.1 3).toInt)) (BX G A (fun u => Wm G g q u.1 u.2.1 u.2.2.1 u.2.2.2)) A) [.ref (g 45)].toArray s (rmD 4 0 0).cells (rmD 4 0 0).slots A) = Q from hQ.symm]
  have hsI := smF_rf ([2, 3, 4, 5, 6, 7] : List Nat) I0
  have hsR := smF_rf ([21] : List Nat) R0
  have hvI0 := hvI
  have w_I0_1 := rg (hvI 1 (by decide)) (0) (1800) rfl rfl
  have w_I0_2 := rg (hvI 2 (by decide)) (0) (3) rfl rfl
  have w_I0_3 := rg (hvI 3 (by decide)) (0) (1800) rfl rfl
  have w_I0_4 := rg (hvI 4 (by decide)) (0) (1800) rfl rfl
  have w_I0_6 := rg (hvI 6 (by decide)) (0) (5) rfl rfl
  refine lv_aload_n hx hb dX12_standing_0 rfl (lv_at hl 0 rfl) ?_
  refine lv_iconst (v := 0) hx hb dX12_standing_1 (by decide) ?_
  refine wvi (As := [.int 0]) (rest := []) (b := (g 45)) (d := 3) F hK hP hD hS hA (s_X12_counts l G g q I0 J0 R0 L0 hvI hvR  0 (by decide) (by omega) (by omega) (by omega)) kmV_X12_counts mlX12_358 clX12 rfl 0 (Wm_at0 G g q I0 J0 R0 L0) ⟨(Nat.le_of_ble_eq_true rfl), (Nat.le_of_ble_eq_true rfl)⟩ hl.1 rfl (Nat.le_of_ble_eq_true rfl) dX12_standing_2 (fun r1 u2 H locs hwr1 hP hD hS => ?_)
  obtain ⟨I3, J4, R5, L6⟩ := u2
  replace hP : va_P G.1 vwCl (Wm G g q I3 J4 R5 L6) H := hP
  replace hD : va_D A (Wm G g q I3 J4 R5 L6) := hD
  obtain ⟨hvI, hvR, tIr1, tRr1, F0r1, F1r1, F2r1, F3r1, F4r1, F5r1, F6r1⟩ := hwr1
  replace F0r1 : ((0 : Int) ≤ r1.toInt ∧ r1.toInt ≤ (1 : Int)) := F0r1
  replace F1r1 : ((r1.toInt = 1 ∧ (0 : Int) = 0 ∧ (I3 6).toInt = 0 ∧ (I0 4).toInt ≤ (I3 3).toInt) ∨ (r1.toInt = 0 ∧ ¬ (I3 6).toInt = 0)) := F1r1
  replace F2r1 : ((I3 3).toInt ≤ (I3 4).toInt) := F2r1
  replace F3r1 : ((I3 4).toInt ≤ (I0 1).toInt) := F3r1
  replace F4r1 : ((¬ (I3 2).toInt = 0) → (I3 3).toInt < (I3 4).toInt) := F4r1
  replace F5r1 : ((¬ (I0 6).toInt = 0) → (¬ (I3 6).toInt = 0)) := F5r1
  replace F6r1 : ((I0 3).toInt ≤ (I3 3).toInt) := F6r1
  replace hvI : InvI Wm_lo Wm_hi I3 := hvI
  replace hvR : InvR Wm_rl R5 := hvR
  replace tIr1 : SmF ([2, 3, 4, 5, 6, 7] : List Nat) I0 I3 := tIr1
  replace tRr1 : SmF ([] : List Nat) R0 R5 := tRr1
  have hv_I3 := hvI
  have hsI := smF_tr hsI tIr1 (by decide)
  have hsR := smF_tr hsR tRr1 (by decide)
  have u_I3_1 : (I3 1).toInt = (I0 1).toInt := congrArg Int32.toInt (tIr1 1 rfl)
  have w_I3_2 := rg (hvI 2 (by decide)) (0) (3) rfl rfl
  have w_I3_3 := rg (hvI 3 (by decide)) (0) (1800) rfl rfl
  have w_I3_4 := rg (hvI 4 (by decide)) (0) (1800) rfl rfl
  have w_I3_6 := rg (hvI 6 (by decide)) (0) (5) rfl rfl
  have nr1_0 : ((I3 3).toInt ≤ (I3 4).toInt) := by omega
  have nr1_1 : ((I3 4).toInt ≤ (I0 1).toInt) := by omega
  have nr1_2 : ((¬ (I3 2).toInt = 0) → (I3 3).toInt < (I3 4).toInt) := by omega
  have nr1_3 : ((¬ (I0 6).toInt = 0) → (¬ (I3 6).toInt = 0)) := by omega
  have nr1_4 : ((I0 3).toInt ≤ (I3 3).toInt) := by omega
  clear F2r1 F3r1 F4r1 F5r1 F6r1
  refine lv_if_ne (tgt := 9) hx hb dX12_standing_5 (by decide) (fun c7 => ?_) (fun c7 => ?_)
  · have gc7 : ¬ (r1.toInt = 0) := fun q0 => c7 (Int32.toInt_inj.mp q0)
    refine lv_aload_n hx hb dX12_standing_9 rfl (lv_at hl 0 rfl) ?_
    refine g_get F hK hP 0 (Wm_at0 G g q I3 J4 R5 L6) clX12 36 (by decide) flX12_122 rfl dX12_standing_10 ?_
    refine lv_aload_n hx hb dX12_standing_13 rfl (lv_at hl 0 rfl) ?_
    refine g_get F hK hP 0 (Wm_at0 G g q I3 J4 R5 L6) clX12 44 (by decide) flX12_146 rfl dX12_standing_14 ?_
    refine cst_i (hsI 12 rfl) ?_
    have w_I0_12 := rg (hvI0 12 (by decide)) (0) (1) rfl rfl
    refine lv_aload_n hx hb dX12_standing_17 rfl (lv_at hl 0 rfl) ?_
    refine lv_iconst (v := 0) hx hb dX12_standing_18 (by decide) ?_
    refine lv_sipush (v := 999) hx hb dX12_standing_19 (by decide) ?_
    refine wvi (As := [.int 0, .int 999]) (rest := [.int (I0 12), .ref (g 24)]) (b := (g 45)) (d := 3) F hK hP hD hS hA (s_X12_number l G g q I3 J4 R5 L6 hvI hvR  0 999 (by decide) (by decide) (by omega) (by omega) (by omega)) kmV_X12_number mlX12_370 clX12 rfl 0 (Wm_at0 G g q I3 J4 R5 L6) ⟨(Nat.le_of_ble_eq_true rfl), (Nat.le_of_ble_eq_true rfl)⟩ hl.1 rfl (Nat.le_of_ble_eq_true rfl) dX12_standing_22 (fun r8 u9 H locs hwr8 hP hD hS => ?_)
    obtain ⟨I10, J11, R12, L13⟩ := u9
    replace hP : va_P G.1 vwCl (Wm G g q I10 J11 R12 L13) H := hP
    replace hD : va_D A (Wm G g q I10 J11 R12 L13) := hD
    obtain ⟨hvI, hvR, tIr8, tRr8, F0r8, F1r8, F2r8, F3r8, F4r8, F5r8⟩ := hwr8
    replace F0r8 : ((0 : Int) ≤ r8.toInt ∧ r8.toInt ≤ (9999 : Int)) := F0r8
    replace F1r8 : ((I10 3).toInt ≤ (I10 4).toInt) := F1r8
    replace F2r8 : ((I10 4).toInt ≤ (I3 1).toInt) := F2r8
    replace F3r8 : ((¬ (I10 2).toInt = 0) → (I10 3).toInt < (I10 4).toInt) := F3r8
    replace F4r8 : ((¬ (I3 6).toInt = 0) → (¬ (I10 6).toInt = 0)) := F4r8
    replace F5r8 : ((I3 3).toInt ≤ (I10 3).toInt) := F5r8
    replace hvI : InvI Wm_lo Wm_hi I10 := hvI
    replace hvR : InvR Wm_rl R12 := hvR
    replace tIr8 : SmF ([2, 3, 4, 5, 6, 7] : List Nat) I3 I10 := tIr8
    replace tRr8 : SmF ([] : List Nat) R5 R12 := tRr8
    have hv_I10 := hvI
    have hsI := smF_tr hsI tIr8 (by decide)
    have hsR := smF_tr hsR tRr8 (by decide)
    have u_I10_1 : (I10 1).toInt = (I3 1).toInt := congrArg Int32.toInt (tIr8 1 rfl)
    have w_I10_2 := rg (hvI 2 (by decide)) (0) (3) rfl rfl
    have w_I10_3 := rg (hvI 3 (by decide)) (0) (1800) rfl rfl
    have w_I10_4 := rg (hvI 4 (by decide)) (0) (1800) rfl rfl
    have w_I10_6 := rg (hvI 6 (by decide)) (0) (5) rfl rfl
    have nr8_0 : ((I10 3).toInt ≤ (I10 4).toInt) := by omega
    have nr8_1 : ((I10 4).toInt ≤ (I0 1).toInt) := by omega
    have nr8_2 : ((¬ (I10 2).toInt = 0) → (I10 3).toInt < (I10 4).toInt) := by omega
    have nr8_3 : ((¬ (I0 6).toInt = 0) → (¬ (I10 6).toInt = 0)) := by omega
    have nr8_4 : ((I0 3).toInt ≤ (I10 3).toInt) := by omega
    have nr8_5 : ((I0 4).toInt ≤ (I10 3).toInt) := by omega
    clear nr1_0 nr1_1 nr1_2 nr1_3 nr1_4 F1r8 F2r8 F3r8 F4r8 F5r8
    refine p_row (W1 := fun y => Wm G g q I10 J11 y L13) (n := 21) F hK hP hD hS 25 (Wm_at25 G g q I10 J11 R12 L13) (in_of (by omega)) dX12_standing_25 (Wm_rowR21 G g q I10 J11 R12 L13) (fun R14 H locs eR14 hP hD hS => ?_)
    have hvR : InvR Wm_rl R14 := inv_upR hvR 21 eR14 (upd_in (hvR 21 (by decide)) (full _))
    have hsR := smF_up hsR eR14 (by decide)
    rw [hQ]
    exact q_v F hr hlk (I10, J11, R14, L13) hP hD hS ⟨hvI, hvR, hsI, hsR, (show (((I10 6).toInt = 0 ∧ ¬ (I0 2).toInt = 0) → (I0 3).toInt < (I10 3).toInt) from by omega), (show ((I10 3).toInt ≤ (I10 4).toInt) from by omega), (show ((I10 4).toInt ≤ (I0 1).toInt) from by omega), (show ((¬ (I10 2).toInt = 0) → (I10 3).toInt < (I10 4).toInt) from by omega), (show ((¬ (I0 6).toInt = 0) → (¬ (I10 6).toInt = 0)) from by omega), (show ((I0 3).toInt ≤ (I10 3).toInt) from by omega)⟩ dX12_standing_26 (Nat.le_of_ble_eq_true rfl) (Nat.le_of_ble_eq_true rfl)
  · have gc7 : r1.toInt = 0 := congrArg Int32.toInt c7
    rw [hQ]
    exact q_v F hr hlk (I3, J4, R5, L6) hP hD hS ⟨hvI, hvR, hsI, hsR, (show (((I3 6).toInt = 0 ∧ ¬ (I0 2).toInt = 0) → (I0 3).toInt < (I3 3).toInt) from by omega), (show ((I3 3).toInt ≤ (I3 4).toInt) from by omega), (show ((I3 4).toInt ≤ (I0 1).toInt) from by omega), (show ((¬ (I3 2).toInt = 0) → (I3 3).toInt < (I3 4).toInt) from by omega), (show ((¬ (I0 6).toInt = 0) → (¬ (I3 6).toInt = 0)) from by omega), (show ((I0 3).toInt ≤ (I3 3).toInt) from by omega)⟩ dX12_standing_8 (Nat.le_of_ble_eq_true rfl) (Nat.le_of_ble_eq_true rfl)
set_option maxHeartbeats 4000000 in
set_option maxRecDepth 100000 in
theorem s_X12_turning (l : Launch) (G : Gx) (g q : Nat → Nat) (I0 : Nat → Int32) (J0 : Nat → Int64) (R0 : Nat → Nat → Int32) (L0 : Nat → Nat → Int64) (hvI : InvI Wm_lo Wm_hi I0) (hvR : InvR Wm_rl R0)   (hpre0 : ((I0 3).toInt ≤ (I0 4).toInt)) (hpre1 : ((I0 4).toInt ≤ (I0 1).toInt)) (hpre2 : ((¬ (I0 2).toInt = 0) → (I0 3).toInt < (I0 4).toInt)) : CtV (S := St) l yX12_turning cX12_turning 3 none (rmD 4 0 0) G [.ref (g 45)] (Wm G g q I0 J0 R0 L0) (fun u => InvI Wm_lo Wm_hi u.1 ∧ InvR Wm_rl u.2.2.1 ∧ SmF ([2, 3, 4, 5, 6, 7] : List Nat) I0 u.1 ∧ SmF ([14] : List Nat) R0 u.2.2.1 ∧ (((u.1 6).toInt = 0 ∧ ¬ (I0 2).toInt = 0) → (I0 3).toInt < (u.1 3).toInt) ∧ ((u.1 3).toInt ≤ (u.1 4).toInt) ∧ ((u.1 4).toInt ≤ (I0 1).toInt) ∧ ((¬ (u.1 2).toInt = 0) → (u.1 3).toInt < (u.1 4).toInt) ∧ ((¬ (I0 6).toInt = 0) → (¬ (u.1 6).toInt = 0)) ∧ ((I0 3).toInt ≤ (u.1 3).toInt)) (fun u => Wm G g q u.1 u.2.1 u.2.2.1 u.2.2.2) := by
  refine ctV_of (own := RX12) (by decide +kernel) rfl (Nat.le_of_ble_eq_true rfl) ?_
  intro p e s m below meth c A ls F hr hlk hnm hK hP hD hA hS hl
  have hx := F.1
  have hb := F.2.1
  have hown := F.2.2.2.1
  have hl : lv_has ls 3 [(0, .ref (g 45))] := hl
  obtain ⟨Q, hQ⟩ : ∃ Q : State → Prop, Q = MQ below (va_Qv (S := St) (fun u => InvI Wm_lo Wm_hi u.1 ∧ InvR Wm_rl u.2.2.1 ∧ SmF ([2, 3, 4, 5, 6, 7] : List Nat) I0 u.1 ∧ SmF ([14] : List Nat) R0 u.2.2.1 ∧ (((u.1 6).toInt = 0 ∧ ¬ (I0 2).toInt = 0) → (I0 3).toInt < (u.1 3).toInt) ∧ ((u.1 3).toInt ≤ (u.1 4).toInt) ∧ ((u.1 4).toInt ≤ (I0 1).toInt) ∧ ((¬ (u.1 2).toInt = 0) → (u.1 3).toInt < (u.1 4).toInt) ∧ ((¬ (I0 6).toInt = 0) → (¬ (u.1 6).toInt = 0)) ∧ ((I0 3).toInt ≤ (u.1 3).toInt)) (BX G A (fun u => Wm G g q u.1 u.2.1 u.2.2.1 u.2.2.2)) A) [.ref (g 45)].toArray s 0 0 A := ⟨_, rfl⟩
  rw [show (MQ below (va_Qv (S := St) (fun u => InvI Wm_lo Wm_hi u.1 ∧ InvR Wm_rl u.2.2.1 ∧ SmF ([2, 3, 4, 5, 6, 7] : List Nat) I0 u.1 ∧ SmF ([14] : List Nat) R0 u.2.2.1 ∧ (((u.1 6).toInt = 0 ∧ ¬ (I0 2).toInt = 0) → (I0 3).toInt < (u.1 3).toInt) ∧ ((u.1 3).toInt ≤ (u.1 4).toInt) ∧ ((u.1 4).toInt ≤ (I0 1).toInt) ∧ ((¬ (u.1 2).toInt = 0) → (u.1 3).toInt < (u.1 4).toInt) ∧ ((¬ (I0 6).toInt = 0) → (¬ (u.1 6).toInt = 0)) ∧ ((I0 3).toInt ≤ (u.1 3).toInt)) (BX G A (fun u => Wm G g q u.1 u.2.1 u.2.2.1 u.2.2.2)) A) [.ref (g 45)].toArray s (rmD 4 0 0).cells (rmD 4 0 0).slots A) = Q from hQ.symm]
  have hsI := smF_rf ([2, 3, 4, 5, 6, 7] : List Nat) I0
  have hsR := smF_rf ([14] : List Nat) R0
  have hvI0 := hvI
  have w_I0_1 := rg (hvI 1 (by decide)) (0) (1800) rfl rfl
  have w_I0_2 := rg (hvI 2 (by decide)) (0) (3) rfl rfl
  have w_I0_3 := rg (hvI 3 (by decide)) (0) (1800) rfl rfl
  have w_I0_4 := rg (hvI 4 (by decide)) (0) (1800) rfl rfl
  have w_I0_6 := rg (hvI 6 (by decide)) (0) (5) rfl rfl
  refine lv_aload_n hx hb dX12_turning_0 rfl (lv_at hl 0 rfl) ?_
  refine lv_iconst (v := 0) hx hb dX12_turning_1 (by decide) ?_
  refine wvi (As := [.int 0]) (rest := []) (b := (g 45)) (d := 3) F hK hP hD hS hA (s_X12_counts l G g q I0 J0 R0 L0 hvI hvR  0 (by decide) (by omega) (by omega) (by omega)) kmV_X12_counts mlX12_358 clX12 rfl 0 (Wm_at0 G g q I0 J0 R0 L0) ⟨(Nat.le_of_ble_eq_true rfl), (Nat.le_of_ble_eq_true rfl)⟩ hl.1 rfl (Nat.le_of_ble_eq_true rfl) dX12_turning_2 (fun r1 u2 H locs hwr1 hP hD hS => ?_)
  obtain ⟨I3, J4, R5, L6⟩ := u2
  replace hP : va_P G.1 vwCl (Wm G g q I3 J4 R5 L6) H := hP
  replace hD : va_D A (Wm G g q I3 J4 R5 L6) := hD
  obtain ⟨hvI, hvR, tIr1, tRr1, F0r1, F1r1, F2r1, F3r1, F4r1, F5r1, F6r1⟩ := hwr1
  replace F0r1 : ((0 : Int) ≤ r1.toInt ∧ r1.toInt ≤ (1 : Int)) := F0r1
  replace F1r1 : ((r1.toInt = 1 ∧ (0 : Int) = 0 ∧ (I3 6).toInt = 0 ∧ (I0 4).toInt ≤ (I3 3).toInt) ∨ (r1.toInt = 0 ∧ ¬ (I3 6).toInt = 0)) := F1r1
  replace F2r1 : ((I3 3).toInt ≤ (I3 4).toInt) := F2r1
  replace F3r1 : ((I3 4).toInt ≤ (I0 1).toInt) := F3r1
  replace F4r1 : ((¬ (I3 2).toInt = 0) → (I3 3).toInt < (I3 4).toInt) := F4r1
  replace F5r1 : ((¬ (I0 6).toInt = 0) → (¬ (I3 6).toInt = 0)) := F5r1
  replace F6r1 : ((I0 3).toInt ≤ (I3 3).toInt) := F6r1
  replace hvI : InvI Wm_lo Wm_hi I3 := hvI
  replace hvR : InvR Wm_rl R5 := hvR
  replace tIr1 : SmF ([2, 3, 4, 5, 6, 7] : List Nat) I0 I3 := tIr1
  replace tRr1 : SmF ([] : List Nat) R0 R5 := tRr1
  have hv_I3 := hvI
  have hsI := smF_tr hsI tIr1 (by decide)
  have hsR := smF_tr hsR tRr1 (by decide)
  have u_I3_1 : (I3 1).toInt = (I0 1).toInt := congrArg Int32.toInt (tIr1 1 rfl)
  have w_I3_2 := rg (hvI 2 (by decide)) (0) (3) rfl rfl
  have w_I3_3 := rg (hvI 3 (by decide)) (0) (1800) rfl rfl
  have w_I3_4 := rg (hvI 4 (by decide)) (0) (1800) rfl rfl
  have w_I3_6 := rg (hvI 6 (by decide)) (0) (5) rfl rfl
  have nr1_0 : ((I3 3).toInt ≤ (I3 4).toInt) := by omega
  have nr1_1 : ((I3 4).toInt ≤ (I0 1).toInt) := by omega
  have nr1_2 : ((¬ (I3 2).toInt = 0) → (I3 3).toInt < (I3 4).toInt) := by omega
  have nr1_3 : ((¬ (I0 6).toInt = 0) → (¬ (I3 6).toInt = 0)) := by omega
  have nr1_4 : ((I0 3).toInt ≤ (I3 3).toInt) := by omega
  clear F2r1 F3r1 F4r1 F5r1 F6r1
  refine lv_if_ne (tgt := 9) hx hb dX12_turning_5 (by decide) (fun c7 => ?_) (fun c7 => ?_)
  · have gc7 : ¬ (r1.toInt = 0) := fun q0 => c7 (Int32.toInt_inj.mp q0)
    refine lv_bipush (v := 12) hx hb dX12_turning_9 (by decide) ?_
    refine lv_aload_n hx hb dX12_turning_11 rfl (lv_at hl 0 rfl) ?_
    refine g_get F hK hP 0 (Wm_at0 G g q I3 J4 R5 L6) clX12 44 (by decide) flX12_146 rfl dX12_turning_12 ?_
    refine cst_i (hsI 12 rfl) ?_
    have w_I0_12 := rg (hvI0 12 (by decide)) (0) (1) rfl rfl
    refine lv_imul hx hb dX12_turning_15 ?_
    refine lv_topi (fun x8 ex8 => ?_)
    have fx8 : x8.toInt = 12 * (I0 12).toInt := by rw [ex8]; exact t_mul (by show (-2147483648 : Int) ≤ 12 * (I0 12).toInt; omega) (by show 12 * (I0 12).toInt ≤ 2147483647; omega)
    refine lv_aload_n hx hb dX12_turning_16 rfl (lv_at hl 0 rfl) ?_
    refine lv_iconst (v := 2) hx hb dX12_turning_17 (by decide) ?_
    refine wvi (As := [.int 2]) (rest := [.int x8]) (b := (g 45)) (d := 3) F hK hP hD hS hA (s_X12_asked l G g q I3 J4 R5 L6 hvI hvR  2 (by decide) (by omega) (by omega) (by omega)) kmV_X12_asked mlX12_374 clX12 rfl 0 (Wm_at0 G g q I3 J4 R5 L6) ⟨(Nat.le_of_ble_eq_true rfl), (Nat.le_of_ble_eq_true rfl)⟩ hl.1 rfl (Nat.le_of_ble_eq_true rfl) dX12_turning_18 (fun r9 u10 H locs hwr9 hP hD hS => ?_)
    obtain ⟨I11, J12, R13, L14⟩ := u10
    replace hP : va_P G.1 vwCl (Wm G g q I11 J12 R13 L14) H := hP
    replace hD : va_D A (Wm G g q I11 J12 R13 L14) := hD
    obtain ⟨hvI, hvR, tIr9, tRr9, F0r9, F1r9, F2r9, F3r9, F4r9, F5r9, F6r9, F7r9⟩ := hwr9
    replace F0r9 : ((0 : Int) ≤ r9.toInt ∧ r9.toInt ≤ (11 : Int)) := F0r9
    replace F1r9 : ((2 : Int) = 0 → r9.toInt ≤ 4) := F1r9
    replace F2r9 : ((2 : Int) = 1 → r9.toInt ≤ 5) := F2r9
    replace F3r9 : ((I11 3).toInt ≤ (I11 4).toInt) := F3r9
    replace F4r9 : ((I11 4).toInt ≤ (I3 1).toInt) := F4r9
    replace F5r9 : ((¬ (I11 2).toInt = 0) → (I11 3).toInt < (I11 4).toInt) := F5r9
    replace F6r9 : ((¬ (I3 6).toInt = 0) → (¬ (I11 6).toInt = 0)) := F6r9
    replace F7r9 : ((I3 3).toInt ≤ (I11 3).toInt) := F7r9
    replace hvI : InvI Wm_lo Wm_hi I11 := hvI
    replace hvR : InvR Wm_rl R13 := hvR
    replace tIr9 : SmF ([2, 3, 4, 5, 6, 7] : List Nat) I3 I11 := tIr9
    replace tRr9 : SmF ([] : List Nat) R5 R13 := tRr9
    have hv_I11 := hvI
    have hsI := smF_tr hsI tIr9 (by decide)
    have hsR := smF_tr hsR tRr9 (by decide)
    have u_I11_1 : (I11 1).toInt = (I3 1).toInt := congrArg Int32.toInt (tIr9 1 rfl)
    have w_I11_2 := rg (hvI 2 (by decide)) (0) (3) rfl rfl
    have w_I11_3 := rg (hvI 3 (by decide)) (0) (1800) rfl rfl
    have w_I11_4 := rg (hvI 4 (by decide)) (0) (1800) rfl rfl
    have w_I11_6 := rg (hvI 6 (by decide)) (0) (5) rfl rfl
    have nr9_0 : ((I11 3).toInt ≤ (I11 4).toInt) := by omega
    have nr9_1 : ((I11 4).toInt ≤ (I0 1).toInt) := by omega
    have nr9_2 : ((¬ (I11 2).toInt = 0) → (I11 3).toInt < (I11 4).toInt) := by omega
    have nr9_3 : ((¬ (I0 6).toInt = 0) → (¬ (I11 6).toInt = 0)) := by omega
    have nr9_4 : ((I0 3).toInt ≤ (I11 3).toInt) := by omega
    have nr9_5 : ((I0 4).toInt ≤ (I11 3).toInt) := by omega
    clear nr1_0 nr1_1 nr1_2 nr1_3 nr1_4 F3r9 F4r9 F5r9 F6r9 F7r9
    refine lv_iadd hx hb dX12_turning_21 ?_
    refine lv_topi (fun x15 ex15 => ?_)
    have fx15 : x15.toInt = x8.toInt + r9.toInt := by rw [ex15]; exact t_add (by show (-2147483648 : Int) ≤ x8.toInt + r9.toInt; omega) (by show x8.toInt + r9.toInt ≤ 2147483647; omega)
    refine lv_istore_n (lv' := [(1, .int x15), (0, .ref (g 45))]) hx hb dX12_turning_22 rfl hl (by decide) rfl (fun ls hl => ?_)
    refine lv_aload_n hx hb dX12_turning_23 rfl (lv_at hl 1 rfl) ?_
    refine lv_iconst (v := 0) hx hb dX12_turning_24 (by decide) ?_
    refine lv_iconst (v := 4) hx hb dX12_turning_25 (by decide) ?_
    refine wvi (As := [.int 0, .int 4]) (rest := []) (b := (g 45)) (d := 3) F hK hP hD hS hA (s_X12_number l G g q I11 J12 R13 L14 hvI hvR  0 4 (by decide) (by decide) (by omega) (by omega) (by omega)) kmV_X12_number mlX12_370 clX12 rfl 0 (Wm_at0 G g q I11 J12 R13 L14) ⟨(Nat.le_of_ble_eq_true rfl), (Nat.le_of_ble_eq_true rfl)⟩ hl.1 rfl (Nat.le_of_ble_eq_true rfl) dX12_turning_26 (fun r16 u17 H locs hwr16 hP hD hS => ?_)
    obtain ⟨I18, J19, R20, L21⟩ := u17
    replace hP : va_P G.1 vwCl (Wm G g q I18 J19 R20 L21) H := hP
    replace hD : va_D A (Wm G g q I18 J19 R20 L21) := hD
    obtain ⟨hvI, hvR, tIr16, tRr16, F0r16, F1r16, F2r16, F3r16, F4r16, F5r16⟩ := hwr16
    replace F0r16 : ((0 : Int) ≤ r16.toInt ∧ r16.toInt ≤ (9999 : Int)) := F0r16
    replace F1r16 : ((I18 3).toInt ≤ (I18 4).toInt) := F1r16
    replace F2r16 : ((I18 4).toInt ≤ (I11 1).toInt) := F2r16
    replace F3r16 : ((¬ (I18 2).toInt = 0) → (I18 3).toInt < (I18 4).toInt) := F3r16
    replace F4r16 : ((¬ (I11 6).toInt = 0) → (¬ (I18 6).toInt = 0)) := F4r16
    replace F5r16 : ((I11 3).toInt ≤ (I18 3).toInt) := F5r16
    replace hvI : InvI Wm_lo Wm_hi I18 := hvI
    replace hvR : InvR Wm_rl R20 := hvR
    replace tIr16 : SmF ([2, 3, 4, 5, 6, 7] : List Nat) I11 I18 := tIr16
    replace tRr16 : SmF ([] : List Nat) R13 R20 := tRr16
    have hv_I18 := hvI
    have hsI := smF_tr hsI tIr16 (by decide)
    have hsR := smF_tr hsR tRr16 (by decide)
    have u_I18_1 : (I18 1).toInt = (I11 1).toInt := congrArg Int32.toInt (tIr16 1 rfl)
    have w_I18_2 := rg (hvI 2 (by decide)) (0) (3) rfl rfl
    have w_I18_3 := rg (hvI 3 (by decide)) (0) (1800) rfl rfl
    have w_I18_4 := rg (hvI 4 (by decide)) (0) (1800) rfl rfl
    have w_I18_6 := rg (hvI 6 (by decide)) (0) (5) rfl rfl
    have nr16_0 : ((I18 3).toInt ≤ (I18 4).toInt) := by omega
    have nr16_1 : ((I18 4).toInt ≤ (I0 1).toInt) := by omega
    have nr16_2 : ((¬ (I18 2).toInt = 0) → (I18 3).toInt < (I18 4).toInt) := by omega
    have nr16_3 : ((¬ (I0 6).toInt = 0) → (¬ (I18 6).toInt = 0)) := by omega
    have nr16_4 : ((I0 3).toInt ≤ (I18 3).toInt) := by omega
    have nr16_5 : ((I0 4).toInt ≤ (I18 3).toInt) := by omega
    clear nr9_0 nr9_1 nr9_2 nr9_3 nr9_4 nr9_5 F1r16 F2r16 F3r16 F4r16 F5r16
    refine lv_istore_n (lv' := [(2, .int r16), (1, .int x15), (0, .ref (g 45))]) hx hb dX12_turning_29 rfl hl (by decide) rfl (fun ls hl => ?_)
    refine lv_aload_n hx hb dX12_turning_30 rfl (lv_at hl 2 rfl) ?_
    refine g_get F hK hP 0 (Wm_at0 G g q I18 J19 R20 L21) clX12 8 (by decide) flX12_36 rfl dX12_turning_31 ?_
    have w_I18_6 := rg (hv_I18 6 (by decide)) (0) (5) rfl rfl
    refine lv_if_ne (tgt := 44) hx hb dX12_turning_34 (by decide) (fun c22 => ?_) (fun c22 => ?_)
    · have gc22 : ¬ ((I18 6).toInt = 0) := fun q0 => c22 (Int32.toInt_inj.mp q0)
      rw [hQ]
      exact q_v F hr hlk (I18, J19, R20, L21) hP hD hS ⟨hvI, hvR, hsI, hsR, (show (((I18 6).toInt = 0 ∧ ¬ (I0 2).toInt = 0) → (I0 3).toInt < (I18 3).toInt) from by omega), (show ((I18 3).toInt ≤ (I18 4).toInt) from by omega), (show ((I18 4).toInt ≤ (I0 1).toInt) from by omega), (show ((¬ (I18 2).toInt = 0) → (I18 3).toInt < (I18 4).toInt) from by omega), (show ((¬ (I0 6).toInt = 0) → (¬ (I18 6).toInt = 0)) from by omega), (show ((I0 3).toInt ≤ (I18 3).toInt) from by omega)⟩ dX12_turning_44 (Nat.le_of_ble_eq_true rfl) (Nat.le_of_ble_eq_true rfl)
    · have gc22 : (I18 6).toInt = 0 := congrArg Int32.toInt c22
      refine lv_aload_n hx hb dX12_turning_37 rfl (lv_at hl 2 rfl) ?_
      refine g_get F hK hP 0 (Wm_at0 G g q I18 J19 R20 L21) clX12 29 (by decide) flX12_101 rfl dX12_turning_38 ?_
      refine lv_iload_n hx hb dX12_turning_41 rfl (lv_at hl 1 rfl) ?_
      refine lv_iload_n hx hb dX12_turning_42 rfl (lv_at hl 0 rfl) ?_
      refine p_row (W1 := fun y => Wm G g q I18 J19 y L21) (n := 14) F hK hP hD hS 18 (Wm_at18 G g q I18 J19 R20 L21) (in_of (by omega)) dX12_turning_43 (Wm_rowR14 G g q I18 J19 R20 L21) (fun R23 H locs eR23 hP hD hS => ?_)
      have hvR : InvR Wm_rl R23 := inv_upR hvR 14 eR23 (upd_in (hvR 14 (by decide)) (full _))
      have hsR := smF_up hsR eR23 (by decide)
      rw [hQ]
      exact q_v F hr hlk (I18, J19, R23, L21) hP hD hS ⟨hvI, hvR, hsI, hsR, (show (((I18 6).toInt = 0 ∧ ¬ (I0 2).toInt = 0) → (I0 3).toInt < (I18 3).toInt) from by omega), (show ((I18 3).toInt ≤ (I18 4).toInt) from by omega), (show ((I18 4).toInt ≤ (I0 1).toInt) from by omega), (show ((¬ (I18 2).toInt = 0) → (I18 3).toInt < (I18 4).toInt) from by omega), (show ((¬ (I0 6).toInt = 0) → (¬ (I18 6).toInt = 0)) from by omega), (show ((I0 3).toInt ≤ (I18 3).toInt) from by omega)⟩ dX12_turning_44 (Nat.le_of_ble_eq_true rfl) (Nat.le_of_ble_eq_true rfl)
  · have gc7 : r1.toInt = 0 := congrArg Int32.toInt c7
    rw [hQ]
    exact q_v F hr hlk (I3, J4, R5, L6) hP hD hS ⟨hvI, hvR, hsI, hsR, (show (((I3 6).toInt = 0 ∧ ¬ (I0 2).toInt = 0) → (I0 3).toInt < (I3 3).toInt) from by omega), (show ((I3 3).toInt ≤ (I3 4).toInt) from by omega), (show ((I3 4).toInt ≤ (I0 1).toInt) from by omega), (show ((¬ (I3 2).toInt = 0) → (I3 3).toInt < (I3 4).toInt) from by omega), (show ((¬ (I0 6).toInt = 0) → (¬ (I3 6).toInt = 0)) from by omega), (show ((I0 3).toInt ≤ (I3 3).toInt) from by omega)⟩ dX12_turning_8 (Nat.le_of_ble_eq_true rfl) (Nat.le_of_ble_eq_true rfl)
set_option maxHeartbeats 4000000 in
set_option maxRecDepth 100000 in
theorem s_X12_team (l : Launch) (G : Gx) (g q : Nat → Nat) (I0 : Nat → Int32) (J0 : Nat → Int64) (R0 : Nat → Nat → Int32) (L0 : Nat → Nat → Int64) (hvI : InvI Wm_lo Wm_hi I0) (hvR : InvR Wm_rl R0)   (hpre0 : ((I0 3).toInt ≤ (I0 4).toInt)) (hpre1 : ((I0 4).toInt ≤ (I0 1).toInt)) (hpre2 : ((¬ (I0 2).toInt = 0) → (I0 3).toInt < (I0 4).toInt)) : CtV (S := St) l yX12_team cX12_team 2 none (rmD 4 0 0) G [.ref (g 45)] (Wm G g q I0 J0 R0 L0) (fun u => InvI Wm_lo Wm_hi u.1 ∧ InvR Wm_rl u.2.2.1 ∧ SmF ([2, 3, 4, 5, 6, 7] : List Nat) I0 u.1 ∧ SmF ([5, 6] : List Nat) R0 u.2.2.1 ∧ (((u.1 6).toInt = 0 ∧ ¬ (I0 2).toInt = 0) → (I0 3).toInt < (u.1 3).toInt) ∧ ((u.1 3).toInt ≤ (u.1 4).toInt) ∧ ((u.1 4).toInt ≤ (I0 1).toInt) ∧ ((¬ (u.1 2).toInt = 0) → (u.1 3).toInt < (u.1 4).toInt) ∧ ((¬ (I0 6).toInt = 0) → (¬ (u.1 6).toInt = 0)) ∧ ((I0 3).toInt ≤ (u.1 3).toInt)) (fun u => Wm G g q u.1 u.2.1 u.2.2.1 u.2.2.2) := by
  refine ctV_of (own := RX12) (by decide +kernel) rfl (Nat.le_of_ble_eq_true rfl) ?_
  intro p e s m below meth c A ls F hr hlk hnm hK hP hD hA hS hl
  have hx := F.1
  have hb := F.2.1
  have hown := F.2.2.2.1
  have hl : lv_has ls 2 [(0, .ref (g 45))] := hl
  obtain ⟨Q, hQ⟩ : ∃ Q : State → Prop, Q = MQ below (va_Qv (S := St) (fun u => InvI Wm_lo Wm_hi u.1 ∧ InvR Wm_rl u.2.2.1 ∧ SmF ([2, 3, 4, 5, 6, 7] : List Nat) I0 u.1 ∧ SmF ([5, 6] : List Nat) R0 u.2.2.1 ∧ (((u.1 6).toInt = 0 ∧ ¬ (I0 2).toInt = 0) → (I0 3).toInt < (u.1 3).toInt) ∧ ((u.1 3).toInt ≤ (u.1 4).toInt) ∧ ((u.1 4).toInt ≤ (I0 1).toInt) ∧ ((¬ (u.1 2).toInt = 0) → (u.1 3).toInt < (u.1 4).toInt) ∧ ((¬ (I0 6).toInt = 0) → (¬ (u.1 6).toInt = 0)) ∧ ((I0 3).toInt ≤ (u.1 3).toInt)) (BX G A (fun u => Wm G g q u.1 u.2.1 u.2.2.1 u.2.2.2)) A) [.ref (g 45)].toArray s 0 0 A := ⟨_, rfl⟩
  rw [show (MQ below (va_Qv (S := St) (fun u => InvI Wm_lo Wm_hi u.1 ∧ InvR Wm_rl u.2.2.1 ∧ SmF ([2, 3, 4, 5, 6, 7] : List Nat) I0 u.1 ∧ SmF ([5, 6] : List Nat) R0 u.2.2.1 ∧ (((u.1 6).toInt = 0 ∧ ¬ (I0 2).toInt = 0) → (I0 3).toInt < (u.1 3).toInt) ∧ ((u.1 3).toInt ≤ (u.1 4).toInt) ∧ ((u.1 4).toInt ≤ (I0 1).toInt) ∧ ((¬ (u.1 2).toInt = 0) → (u.1 3).toInt < (u.1 4).toInt) ∧ ((¬ (I0 6).toInt = 0) → (¬ (u.1 6).toInt = 0)) ∧ ((I0 3).toInt ≤ (u.1 3).toInt)) (BX G A (fun u => Wm G g q u.1 u.2.1 u.2.2.1 u.2.2.2)) A) [.ref (g 45)].toArray s (rmD 4 0 0).cells (rmD 4 0 0).slots A) = Q from hQ.symm]
  have hsI := smF_rf ([2, 3, 4, 5, 6, 7] : List Nat) I0
  have hsR := smF_rf ([5, 6] : List Nat) R0
  have hvI0 := hvI
  have lab_20 : ∀ (b0_20 : Int32) (I_20 : Nat → Int32) (J_20 : Nat → Int64) (R_20 : Nat → Nat → Int32) (L_20 : Nat → Nat → Int64) (H : Heap) (locs : List Loc) (ls : Array Slot), InvI Wm_lo Wm_hi I_20 → InvR Wm_rl R_20 → SmF ([2, 3, 4, 5, 6, 7] : List Nat) I0 I_20 → SmF ([5, 6] : List Nat) R0 R_20 → ((0 : Int) ≤ b0_20.toInt ∧ b0_20.toInt ≤ (1 : Int)) → (b0_20.toInt = 0 → (R_20 5 (Int32.toNatClampNeg (I0 12))).toInt ≤ 5) → ((I_20 2).toInt = (I0 2).toInt) → ((I_20 4).toInt = (I0 4).toInt) → ((I_20 3).toInt = (I0 3).toInt) → ((I_20 3).toInt ≤ (I_20 4).toInt) → ((I_20 4).toInt ≤ (I0 1).toInt) → ((¬ (I_20 2).toInt = 0) → (I_20 3).toInt < (I_20 4).toInt) → ((¬ (I0 6).toInt = 0) → (¬ (I_20 6).toInt = 0)) → ((I0 3).toInt ≤ (I_20 3).toInt) → va_P G.1 vwCl (Wm G g q I_20 J_20 R_20 L_20) H → va_D A (Wm G g q I_20 J_20 R_20 L_20) → va_S A s.heap H locs → lv_has ls 2 [(0, .ref (g 45))] → W p l e (rmD 4 0 0) s m [.ref (g 45)].toArray below meth c H locs 0 0 Q (F0 m 20 ls [.int b0_20, .ref (g 45)]) := by
    intro b0_20 I_20 J_20 R_20 L_20 H locs ls hvI hvR hsI hsR y0_20 z0_20 z1_20 z2_20 z3_20 z4_20 z5_20 z6_20 z7_20 z8_20 hP hD hS hl
    have hv_I_20 := hvI
    have w_I_20_1 := rg (hvI 1 (by decide)) (0) (1800) rfl rfl
    have v_I_20_1 : (I_20 1).toInt = (I0 1).toInt := congrArg Int32.toInt (hsI 1 rfl)
    have w_I_20_2 := rg (hvI 2 (by decide)) (0) (3) rfl rfl
    have w_I_20_3 := rg (hvI 3 (by decide)) (0) (1800) rfl rfl
    have w_I_20_4 := rg (hvI 4 (by decide)) (0) (1800) rfl rfl
    have w_I_20_6 := rg (hvI 6 (by decide)) (0) (5) rfl rfl
    have w_I_20_12 := rg (hvI 12 (by decide)) (0) (1) rfl rfl
    have v_I_20_12 : (I_20 12).toInt = (I0 12).toInt := congrArg Int32.toInt (hsI 12 rfl)
    refine wvi (As := [.int b0_20]) (rest := []) (b := (g 45)) (d := 3) F hK hP hD hS hA (s_X12_counts l G g q I_20 J_20 R_20 L_20 hvI hvR  b0_20 (show ((0 : Int) ≤ b0_20.toInt ∧ b0_20.toInt ≤ (1 : Int)) from by omega) (by omega) (by omega) (by omega)) kmV_X12_counts mlX12_358 clX12 rfl 0 (Wm_at0 G g q I_20 J_20 R_20 L_20) ⟨(Nat.le_of_ble_eq_true rfl), (Nat.le_of_ble_eq_true rfl)⟩ hl.1 rfl (Nat.le_of_ble_eq_true rfl) dX12_team_20 (fun r1 u2 H locs hwr1 hP hD hS => ?_)
    obtain ⟨I3, J4, R5, L6⟩ := u2
    replace hP : va_P G.1 vwCl (Wm G g q I3 J4 R5 L6) H := hP
    replace hD : va_D A (Wm G g q I3 J4 R5 L6) := hD
    obtain ⟨hvI, hvR, tIr1, tRr1, F0r1, F1r1, F2r1, F3r1, F4r1, F5r1, F6r1⟩ := hwr1
    replace F0r1 : ((0 : Int) ≤ r1.toInt ∧ r1.toInt ≤ (1 : Int)) := F0r1
    replace F1r1 : ((r1.toInt = 1 ∧ b0_20.toInt = 0 ∧ (I3 6).toInt = 0 ∧ (I_20 4).toInt ≤ (I3 3).toInt) ∨ (r1.toInt = 0 ∧ ¬ (I3 6).toInt = 0)) := F1r1
    replace F2r1 : ((I3 3).toInt ≤ (I3 4).toInt) := F2r1
    replace F3r1 : ((I3 4).toInt ≤ (I_20 1).toInt) := F3r1
    replace F4r1 : ((¬ (I3 2).toInt = 0) → (I3 3).toInt < (I3 4).toInt) := F4r1
    replace F5r1 : ((¬ (I_20 6).toInt = 0) → (¬ (I3 6).toInt = 0)) := F5r1
    replace F6r1 : ((I_20 3).toInt ≤ (I3 3).toInt) := F6r1
    replace hvI : InvI Wm_lo Wm_hi I3 := hvI
    replace hvR : InvR Wm_rl R5 := hvR
    replace tIr1 : SmF ([2, 3, 4, 5, 6, 7] : List Nat) I_20 I3 := tIr1
    replace tRr1 : SmF ([] : List Nat) R_20 R5 := tRr1
    have hv_I3 := hvI
    have hsI := smF_tr hsI tIr1 (by decide)
    have hsR := smF_tr hsR tRr1 (by decide)
    have u_I3_1 : (I3 1).toInt = (I_20 1).toInt := congrArg Int32.toInt (tIr1 1 rfl)
    have w_I3_2 := rg (hvI 2 (by decide)) (0) (3) rfl rfl
    have w_I3_3 := rg (hvI 3 (by decide)) (0) (1800) rfl rfl
    have w_I3_4 := rg (hvI 4 (by decide)) (0) (1800) rfl rfl
    have w_I3_6 := rg (hvI 6 (by decide)) (0) (5) rfl rfl
    have u_I3_12 : (I3 12).toInt = (I_20 12).toInt := congrArg Int32.toInt (tIr1 12 rfl)
    have nr1_0 : ((I3 3).toInt ≤ (I3 4).toInt) := by omega
    have nr1_1 : ((I3 4).toInt ≤ (I0 1).toInt) := by omega
    have nr1_2 : ((¬ (I3 2).toInt = 0) → (I3 3).toInt < (I3 4).toInt) := by omega
    have nr1_3 : ((¬ (I0 6).toInt = 0) → (¬ (I3 6).toInt = 0)) := by omega
    have nr1_4 : ((I0 3).toInt ≤ (I3 3).toInt) := by omega
    clear z4_20 z5_20 z6_20 z7_20 z8_20 F2r1 F3r1 F4r1 F5r1 F6r1
    refine lv_if_ne (tgt := 27) hx hb dX12_team_23 (by decide) (fun c7 => ?_) (fun c7 => ?_)
    · have gc7 : ¬ (r1.toInt = 0) := fun q0 => c7 (Int32.toInt_inj.mp q0)
      refine lv_bipush (v := 6) hx hb dX12_team_27 (by decide) ?_
      refine lv_aload_n hx hb dX12_team_29 rfl (lv_at hl 0 rfl) ?_
      refine g_get F hK hP 0 (Wm_at0 G g q I3 J4 R5 L6) clX12 44 (by decide) flX12_146 rfl dX12_team_30 ?_
      refine cst_i (hsI 12 rfl) ?_
      have w_I0_12 := rg (hvI0 12 (by decide)) (0) (1) rfl rfl
      refine lv_imul hx hb dX12_team_33 ?_
      refine lv_topi (fun x8 ex8 => ?_)
      have fx8 : x8.toInt = 6 * (I0 12).toInt := by rw [ex8]; exact t_mul (by show (-2147483648 : Int) ≤ 6 * (I0 12).toInt; omega) (by show 6 * (I0 12).toInt ≤ 2147483647; omega)
      refine lv_aload_n hx hb dX12_team_34 rfl (lv_at hl 0 rfl) ?_
      refine g_get F hK hP 0 (Wm_at0 G g q I3 J4 R5 L6) clX12 18 (by decide) flX12_67 rfl dX12_team_35 ?_
      refine lv_aload_n hx hb dX12_team_38 rfl (lv_at hl 0 rfl) ?_
      refine g_get F hK hP 0 (Wm_at0 G g q I3 J4 R5 L6) clX12 44 (by decide) flX12_146 rfl dX12_team_39 ?_
      refine cst_i (hsI 12 rfl) ?_
      refine g_iald F hK hP 7 (Wm_at7 G g q I3 J4 R5 L6) (in_of (by omega)) dX12_team_42 rfl ?_
      refine lv_topi (fun x9 ex9 => ?_)
      have gx9 : x9.toInt = (R_20 5 (Int32.toNatClampNeg (I0 12))).toInt := congrArg Int32.toInt ((ex9).trans (congrFun (tRr1 5 rfl) _))
      have fx9 : ((0 : Int) ≤ x9.toInt ∧ x9.toInt ≤ (6 : Int)) := by rw [ex9]; exact hvR 5 (by decide) _ (clamp_lt (n := 2) (in_of (by omega)))
      refine lv_iadd hx hb dX12_team_43 ?_
      refine lv_topi (fun x10 ex10 => ?_)
      have fx10 : x10.toInt = x8.toInt + x9.toInt := by rw [ex10]; exact t_add (by show (-2147483648 : Int) ≤ x8.toInt + x9.toInt; omega) (by show x8.toInt + x9.toInt ≤ 2147483647; omega)
      refine lv_istore_n (lv' := [(1, .int x10), (0, .ref (g 45))]) hx hb dX12_team_44 rfl hl (by decide) rfl (fun ls hl => ?_)
      refine lv_aload_n hx hb dX12_team_45 rfl (lv_at hl 1 rfl) ?_
      refine g_get F hK hP 0 (Wm_at0 G g q I3 J4 R5 L6) clX12 19 (by decide) flX12_70 rfl dX12_team_46 ?_
      refine lv_iload_n hx hb dX12_team_49 rfl (lv_at hl 0 rfl) ?_
      refine lv_aload_n hx hb dX12_team_50 rfl (lv_at hl 1 rfl) ?_
      refine wvl (As := []) (rest := [.int x10, .ref (g 7)]) (b := (g 45)) (d := 3) F hK hP hD hS hA (s_X12_fresh l G g q I3 J4 R5 L6 hvI hvR   (by omega) (by omega) (by omega)) kmV_X12_fresh mlX12_362 clX12 rfl 0 (Wm_at0 G g q I3 J4 R5 L6) ⟨(Nat.le_of_ble_eq_true rfl), (Nat.le_of_ble_eq_true rfl)⟩ hl.1 rfl (Nat.le_of_ble_eq_true rfl) dX12_team_51 (fun r11 u12 H locs hwr11 hP hD hS => ?_)
      obtain ⟨I13, J14, R15, L16⟩ := u12
      replace hP : va_P G.1 vwCl (Wm G g q I13 J14 R15 L16) H := hP
      replace hD : va_D A (Wm G g q I13 J14 R15 L16) := hD
      obtain ⟨hvI, hvR, tIr11, tRr11, F0r11, F1r11, F2r11, F3r11, F4r11⟩ := hwr11
      replace F0r11 : ((I13 3).toInt ≤ (I13 4).toInt) := F0r11
      replace F1r11 : ((I13 4).toInt ≤ (I3 1).toInt) := F1r11
      replace F2r11 : ((¬ (I13 2).toInt = 0) → (I13 3).toInt < (I13 4).toInt) := F2r11
      replace F3r11 : ((¬ (I3 6).toInt = 0) → (¬ (I13 6).toInt = 0)) := F3r11
      replace F4r11 : ((I3 3).toInt ≤ (I13 3).toInt) := F4r11
      replace hvI : InvI Wm_lo Wm_hi I13 := hvI
      replace hvR : InvR Wm_rl R15 := hvR
      replace tIr11 : SmF ([2, 3, 4, 5, 6, 7] : List Nat) I3 I13 := tIr11
      replace tRr11 : SmF ([] : List Nat) R5 R15 := tRr11
      have hv_I13 := hvI
      have hsI := smF_tr hsI tIr11 (by decide)
      have hsR := smF_tr hsR tRr11 (by decide)
      have u_I13_1 : (I13 1).toInt = (I3 1).toInt := congrArg Int32.toInt (tIr11 1 rfl)
      have w_I13_2 := rg (hvI 2 (by decide)) (0) (3) rfl rfl
      have w_I13_3 := rg (hvI 3 (by decide)) (0) (1800) rfl rfl
      have w_I13_4 := rg (hvI 4 (by decide)) (0) (1800) rfl rfl
      have w_I13_6 := rg (hvI 6 (by decide)) (0) (5) rfl rfl
      have u_I13_12 : (I13 12).toInt = (I3 12).toInt := congrArg Int32.toInt (tIr11 12 rfl)
      have nr11_0 : ((I13 3).toInt ≤ (I13 4).toInt) := by omega
      have nr11_1 : ((I13 4).toInt ≤ (I0 1).toInt) := by omega
      have nr11_2 : ((¬ (I13 2).toInt = 0) → (I13 3).toInt < (I13 4).toInt) := by omega
      have nr11_3 : ((¬ (I0 6).toInt = 0) → (¬ (I13 6).toInt = 0)) := by omega
      have nr11_4 : ((I0 3).toInt ≤ (I13 3).toInt) := by omega
      have nr11_5 : ((I0 4).toInt ≤ (I13 3).toInt) := by omega
      clear nr1_0 nr1_1 nr1_2 nr1_3 nr1_4 F0r11 F1r11 F2r11 F3r11 F4r11
      refine p_lrow (W1 := fun y => Wm G g q I13 J14 R15 y) (n := 1) F hK hP hD hS 8 (Wm_at8 G g q I13 J14 R15 L16) (in_of (by omega)) dX12_team_54 (Wm_rowL1 G g q I13 J14 R15 L16) (fun L17 H locs eL17 hP hD hS => ?_)
      refine lv_aload_n hx hb dX12_team_55 rfl (lv_at hl 1 rfl) ?_
      refine g_get F hK hP 0 (Wm_at0 G g q I13 J14 R15 L17) clX12 20 (by decide) flX12_73 rfl dX12_team_56 ?_
      refine lv_iload_n hx hb dX12_team_59 rfl (lv_at hl 0 rfl) ?_
      refine lv_iconst (v := 0) hx hb dX12_team_60 (by decide) ?_
      refine p_zrow (W1 := fun y => Wm G g q I13 J14 y L17) (n := 6) F hK hP hD hS 9 (Wm_at9 G g q I13 J14 R15 L17) (narz (by decide)) (in_of (by omega)) dX12_team_61 (Wm_rowR6 G g q I13 J14 R15 L17) (fun R18 H locs eR18 hP hD hS => ?_)
      have hvR : InvR Wm_rl R18 := inv_upR hvR 6 eR18 (upd_in (hvR 6 (by decide)) (by decide))
      have hsR := smF_up hsR eR18 (by decide)
      refine lv_aload_n hx hb dX12_team_62 rfl (lv_at hl 1 rfl) ?_
      refine g_get F hK hP 0 (Wm_at0 G g q I13 J14 R18 L17) clX12 8 (by decide) flX12_36 rfl dX12_team_63 ?_
      have w_I13_6 := rg (hv_I13 6 (by decide)) (0) (5) rfl rfl
      refine lv_if_ne (tgt := 82) hx hb dX12_team_66 (by decide) (fun c19 => ?_) (fun c19 => ?_)
      · have gc19 : ¬ ((I13 6).toInt = 0) := fun q0 => c19 (Int32.toInt_inj.mp q0)
        rw [hQ]
        exact q_v F hr hlk (I13, J14, R18, L17) hP hD hS ⟨hvI, hvR, hsI, hsR, (show (((I13 6).toInt = 0 ∧ ¬ (I0 2).toInt = 0) → (I0 3).toInt < (I13 3).toInt) from by omega), (show ((I13 3).toInt ≤ (I13 4).toInt) from by omega), (show ((I13 4).toInt ≤ (I0 1).toInt) from by omega), (show ((¬ (I13 2).toInt = 0) → (I13 3).toInt < (I13 4).toInt) from by omega), (show ((¬ (I0 6).toInt = 0) → (¬ (I13 6).toInt = 0)) from by omega), (show ((I0 3).toInt ≤ (I13 3).toInt) from by omega)⟩ dX12_team_82 (Nat.le_of_ble_eq_true rfl) (Nat.le_of_ble_eq_true rfl)
      · have gc19 : (I13 6).toInt = 0 := congrArg Int32.toInt c19
        refine lv_aload_n hx hb dX12_team_69 rfl (lv_at hl 1 rfl) ?_
        refine g_get F hK hP 0 (Wm_at0 G g q I13 J14 R18 L17) clX12 18 (by decide) flX12_67 rfl dX12_team_70 ?_
        refine lv_aload_n hx hb dX12_team_73 rfl (lv_at hl 1 rfl) ?_
        refine g_get F hK hP 0 (Wm_at0 G g q I13 J14 R18 L17) clX12 44 (by decide) flX12_146 rfl dX12_team_74 ?_
        refine cst_i (hsI 12 rfl) ?_
        refine lv_dup2_11 hx hb dX12_team_77 rfl rfl ?_
        refine g_iald F hK hP 7 (Wm_at7 G g q I13 J14 R18 L17) (in_of (by omega)) dX12_team_78 rfl ?_
        refine lv_topi (fun x20 ex20 => ?_)
        have gx20 : x20.toInt = (R_20 5 (Int32.toNatClampNeg (I0 12))).toInt := congrArg Int32.toInt ((((ex20).trans (congrFun (up_ne eR18 (by decide)) _)).trans (congrFun (tRr11 5 rfl) _)).trans (congrFun (tRr1 5 rfl) _))
        have fx20 : ((0 : Int) ≤ x20.toInt ∧ x20.toInt ≤ (6 : Int)) := by rw [ex20]; exact hvR 5 (by decide) _ (clamp_lt (n := 2) (in_of (by omega)))
        refine lv_iconst (v := 1) hx hb dX12_team_79 (by decide) ?_
        refine lv_iadd hx hb dX12_team_80 ?_
        refine lv_topi (fun x21 ex21 => ?_)
        have fx21 : x21.toInt = x20.toInt + 1 := by rw [ex21]; exact t_add (by show (-2147483648 : Int) ≤ x20.toInt + 1; omega) (by show x20.toInt + 1 ≤ 2147483647; omega)
        refine p_row (W1 := fun y => Wm G g q I13 J14 y L17) (n := 5) F hK hP hD hS 7 (Wm_at7 G g q I13 J14 R18 L17) (in_of (by omega)) dX12_team_81 (Wm_rowR5 G g q I13 J14 R18 L17) (fun R22 H locs eR22 hP hD hS => ?_)
        have hvR : InvR Wm_rl R22 := inv_upR hvR 5 eR22 (upd_in (hvR 5 (by decide)) (show ((0 : Int) ≤ x21.toInt ∧ x21.toInt ≤ (6 : Int)) from by omega))
        have hsR := smF_up hsR eR22 (by decide)
        rw [hQ]
        exact q_v F hr hlk (I13, J14, R22, L17) hP hD hS ⟨hvI, hvR, hsI, hsR, (show (((I13 6).toInt = 0 ∧ ¬ (I0 2).toInt = 0) → (I0 3).toInt < (I13 3).toInt) from by omega), (show ((I13 3).toInt ≤ (I13 4).toInt) from by omega), (show ((I13 4).toInt ≤ (I0 1).toInt) from by omega), (show ((¬ (I13 2).toInt = 0) → (I13 3).toInt < (I13 4).toInt) from by omega), (show ((¬ (I0 6).toInt = 0) → (¬ (I13 6).toInt = 0)) from by omega), (show ((I0 3).toInt ≤ (I13 3).toInt) from by omega)⟩ dX12_team_82 (Nat.le_of_ble_eq_true rfl) (Nat.le_of_ble_eq_true rfl)
    · have gc7 : r1.toInt = 0 := congrArg Int32.toInt c7
      rw [hQ]
      exact q_v F hr hlk (I3, J4, R5, L6) hP hD hS ⟨hvI, hvR, hsI, hsR, (show (((I3 6).toInt = 0 ∧ ¬ (I0 2).toInt = 0) → (I0 3).toInt < (I3 3).toInt) from by omega), (show ((I3 3).toInt ≤ (I3 4).toInt) from by omega), (show ((I3 4).toInt ≤ (I0 1).toInt) from by omega), (show ((¬ (I3 2).toInt = 0) → (I3 3).toInt < (I3 4).toInt) from by omega), (show ((¬ (I0 6).toInt = 0) → (¬ (I3 6).toInt = 0)) from by omega), (show ((I0 3).toInt ≤ (I3 3).toInt) from by omega)⟩ dX12_team_26 (Nat.le_of_ble_eq_true rfl) (Nat.le_of_ble_eq_true rfl)
  have w_I0_1 := rg (hvI 1 (by decide)) (0) (1800) rfl rfl
  have w_I0_2 := rg (hvI 2 (by decide)) (0) (3) rfl rfl
  have w_I0_3 := rg (hvI 3 (by decide)) (0) (1800) rfl rfl
  have w_I0_4 := rg (hvI 4 (by decide)) (0) (1800) rfl rfl
  have w_I0_6 := rg (hvI 6 (by decide)) (0) (5) rfl rfl
  have w_I0_12 := rg (hvI 12 (by decide)) (0) (1) rfl rfl
  refine lv_aload_n hx hb dX12_team_0 rfl (lv_at hl 0 rfl) ?_
  refine lv_aload_n hx hb dX12_team_1 rfl (lv_at hl 0 rfl) ?_
  refine g_get F hK hP 0 (Wm_at0 G g q I0 J0 R0 L0) clX12 18 (by decide) flX12_67 rfl dX12_team_2 ?_
  refine lv_aload_n hx hb dX12_team_5 rfl (lv_at hl 0 rfl) ?_
  refine g_get F hK hP 0 (Wm_at0 G g q I0 J0 R0 L0) clX12 44 (by decide) flX12_146 rfl dX12_team_6 ?_
  have w_I0_12 := rg (hvI0 12 (by decide)) (0) (1) rfl rfl
  refine g_iald F hK hP 7 (Wm_at7 G g q I0 J0 R0 L0) (in_of (by omega)) dX12_team_9 rfl ?_
  refine lv_topi (fun x23 ex23 => ?_)
  have gx23 : x23.toInt = (R0 5 (Int32.toNatClampNeg (I0 12))).toInt := congrArg Int32.toInt (ex23)
  have fx23 : ((0 : Int) ≤ x23.toInt ∧ x23.toInt ≤ (6 : Int)) := by rw [ex23]; exact hvR 5 (by decide) _ (clamp_lt (n := 2) (in_of (by omega)))
  refine lv_bipush (v := 6) hx hb dX12_team_10 (by decide) ?_
  refine lv_icmp_ne (tgt := 19) hx hb dX12_team_12 (by decide) (fun c24 => ?_) (fun c24 => ?_)
  · have gc24 : ¬ (x23.toInt = 6) := fun q0 => c24 (Int32.toInt_inj.mp q0)
    refine lv_iconst (v := 0) hx hb dX12_team_19 (by decide) ?_
    exact lab_20 0 I0 J0 R0 L0 _ _ _ hvI hvR hsI hsR (by decide) (show (0 = 0 → (R0 5 (Int32.toNatClampNeg (I0 12))).toInt ≤ 5) from by omega) (show ((I0 2).toInt = (I0 2).toInt) from by omega) (show ((I0 4).toInt = (I0 4).toInt) from by omega) (show ((I0 3).toInt = (I0 3).toInt) from by omega) (show ((I0 3).toInt ≤ (I0 4).toInt) from by omega) (show ((I0 4).toInt ≤ (I0 1).toInt) from by omega) (show ((¬ (I0 2).toInt = 0) → (I0 3).toInt < (I0 4).toInt) from by omega) (show ((¬ (I0 6).toInt = 0) → (¬ (I0 6).toInt = 0)) from by omega) (show ((I0 3).toInt ≤ (I0 3).toInt) from by omega) hP hD hS (lv_sub hl [0] rfl)
  · have gc24 : x23.toInt = 6 := congrArg Int32.toInt c24
    refine lv_iconst (v := 1) hx hb dX12_team_15 (by decide) ?_
    refine lv_goto (tgt := 20) hx hb dX12_team_16 (by decide) ?_
    exact lab_20 1 I0 J0 R0 L0 _ _ _ hvI hvR hsI hsR (by decide) (show (1 = 0 → (R0 5 (Int32.toNatClampNeg (I0 12))).toInt ≤ 5) from by omega) (show ((I0 2).toInt = (I0 2).toInt) from by omega) (show ((I0 4).toInt = (I0 4).toInt) from by omega) (show ((I0 3).toInt = (I0 3).toInt) from by omega) (show ((I0 3).toInt ≤ (I0 4).toInt) from by omega) (show ((I0 4).toInt ≤ (I0 1).toInt) from by omega) (show ((¬ (I0 2).toInt = 0) → (I0 3).toInt < (I0 4).toInt) from by omega) (show ((¬ (I0 6).toInt = 0) → (¬ (I0 6).toInt = 0)) from by omega) (show ((I0 3).toInt ≤ (I0 3).toInt) from by omega) hP hD hS (lv_sub hl [0] rfl)
set_option maxHeartbeats 4000000 in
set_option maxRecDepth 100000 in
theorem s_X12_visit (l : Launch) (G : Gx) (g q : Nat → Nat) (I0 : Nat → Int32) (J0 : Nat → Int64) (R0 : Nat → Nat → Int32) (L0 : Nat → Nat → Int64) (hvI : InvI Wm_lo Wm_hi I0) (hvR : InvR Wm_rl R0)   (hpre0 : ((I0 3).toInt ≤ (I0 4).toInt)) (hpre1 : ((I0 4).toInt ≤ (I0 1).toInt)) (hpre2 : ((¬ (I0 2).toInt = 0) → (I0 3).toInt < (I0 4).toInt)) : CtV (S := St) l yX12_visit cX12_visit 4 none (rmD 4 0 0) G [.ref (g 45)] (Wm G g q I0 J0 R0 L0) (fun u => InvI Wm_lo Wm_hi u.1 ∧ InvR Wm_rl u.2.2.1 ∧ SmF ([2, 3, 4, 5, 6, 7] : List Nat) I0 u.1 ∧ SmF ([19, 20] : List Nat) R0 u.2.2.1 ∧ (((u.1 6).toInt = 0 ∧ ¬ (I0 2).toInt = 0) → (I0 3).toInt < (u.1 3).toInt) ∧ ((u.1 3).toInt ≤ (u.1 4).toInt) ∧ ((u.1 4).toInt ≤ (I0 1).toInt) ∧ ((¬ (u.1 2).toInt = 0) → (u.1 3).toInt < (u.1 4).toInt) ∧ ((¬ (I0 6).toInt = 0) → (¬ (u.1 6).toInt = 0)) ∧ ((I0 3).toInt ≤ (u.1 3).toInt)) (fun u => Wm G g q u.1 u.2.1 u.2.2.1 u.2.2.2) := by
  refine ctV_of (own := RX12) (by decide +kernel) rfl (Nat.le_of_ble_eq_true rfl) ?_
  intro p e s m below meth c A ls F hr hlk hnm hK hP hD hA hS hl
  have hx := F.1
  have hb := F.2.1
  have hown := F.2.2.2.1
  have hl : lv_has ls 4 [(0, .ref (g 45))] := hl
  obtain ⟨Q, hQ⟩ : ∃ Q : State → Prop, Q = MQ below (va_Qv (S := St) (fun u => InvI Wm_lo Wm_hi u.1 ∧ InvR Wm_rl u.2.2.1 ∧ SmF ([2, 3, 4, 5, 6, 7] : List Nat) I0 u.1 ∧ SmF ([19, 20] : List Nat) R0 u.2.2.1 ∧ (((u.1 6).toInt = 0 ∧ ¬ (I0 2).toInt = 0) → (I0 3).toInt < (u.1 3).toInt) ∧ ((u.1 3).toInt ≤ (u.1 4).toInt) ∧ ((u.1 4).toInt ≤ (I0 1).toInt) ∧ ((¬ (u.1 2).toInt = 0) → (u.1 3).toInt < (u.1 4).toInt) ∧ ((¬ (I0 6).toInt = 0) → (¬ (u.1 6).toInt = 0)) ∧ ((I0 3).toInt ≤ (u.1 3).toInt)) (BX G A (fun u => Wm G g q u.1 u.2.1 u.2.2.1 u.2.2.2)) A) [.ref (g 45)].toArray s 0 0 A := ⟨_, rfl⟩
  rw [show (MQ below (va_Qv (S := St) (fun u => InvI Wm_lo Wm_hi u.1 ∧ InvR Wm_rl u.2.2.1 ∧ SmF ([2, 3, 4, 5, 6, 7] : List Nat) I0 u.1 ∧ SmF ([19, 20] : List Nat) R0 u.2.2.1 ∧ (((u.1 6).toInt = 0 ∧ ¬ (I0 2).toInt = 0) → (I0 3).toInt < (u.1 3).toInt) ∧ ((u.1 3).toInt ≤ (u.1 4).toInt) ∧ ((u.1 4).toInt ≤ (I0 1).toInt) ∧ ((¬ (u.1 2).toInt = 0) → (u.1 3).toInt < (u.1 4).toInt) ∧ ((¬ (I0 6).toInt = 0) → (¬ (u.1 6).toInt = 0)) ∧ ((I0 3).toInt ≤ (u.1 3).toInt)) (BX G A (fun u => Wm G g q u.1 u.2.1 u.2.2.1 u.2.2.2)) A) [.ref (g 45)].toArray s (rmD 4 0 0).cells (rmD 4 0 0).slots A) = Q from hQ.symm]
  have hsI := smF_rf ([2, 3, 4, 5, 6, 7] : List Nat) I0
  have hsR := smF_rf ([19, 20] : List Nat) R0
  have hvI0 := hvI
  have w_I0_1 := rg (hvI 1 (by decide)) (0) (1800) rfl rfl
  have w_I0_2 := rg (hvI 2 (by decide)) (0) (3) rfl rfl
  have w_I0_3 := rg (hvI 3 (by decide)) (0) (1800) rfl rfl
  have w_I0_4 := rg (hvI 4 (by decide)) (0) (1800) rfl rfl
  have w_I0_6 := rg (hvI 6 (by decide)) (0) (5) rfl rfl
  refine lv_aload_n hx hb dX12_visit_0 rfl (lv_at hl 0 rfl) ?_
  refine lv_iconst (v := 0) hx hb dX12_visit_1 (by decide) ?_
  refine wvi (As := [.int 0]) (rest := []) (b := (g 45)) (d := 3) F hK hP hD hS hA (s_X12_counts l G g q I0 J0 R0 L0 hvI hvR  0 (by decide) (by omega) (by omega) (by omega)) kmV_X12_counts mlX12_358 clX12 rfl 0 (Wm_at0 G g q I0 J0 R0 L0) ⟨(Nat.le_of_ble_eq_true rfl), (Nat.le_of_ble_eq_true rfl)⟩ hl.1 rfl (Nat.le_of_ble_eq_true rfl) dX12_visit_2 (fun r1 u2 H locs hwr1 hP hD hS => ?_)
  obtain ⟨I3, J4, R5, L6⟩ := u2
  replace hP : va_P G.1 vwCl (Wm G g q I3 J4 R5 L6) H := hP
  replace hD : va_D A (Wm G g q I3 J4 R5 L6) := hD
  obtain ⟨hvI, hvR, tIr1, tRr1, F0r1, F1r1, F2r1, F3r1, F4r1, F5r1, F6r1⟩ := hwr1
  replace F0r1 : ((0 : Int) ≤ r1.toInt ∧ r1.toInt ≤ (1 : Int)) := F0r1
  replace F1r1 : ((r1.toInt = 1 ∧ (0 : Int) = 0 ∧ (I3 6).toInt = 0 ∧ (I0 4).toInt ≤ (I3 3).toInt) ∨ (r1.toInt = 0 ∧ ¬ (I3 6).toInt = 0)) := F1r1
  replace F2r1 : ((I3 3).toInt ≤ (I3 4).toInt) := F2r1
  replace F3r1 : ((I3 4).toInt ≤ (I0 1).toInt) := F3r1
  replace F4r1 : ((¬ (I3 2).toInt = 0) → (I3 3).toInt < (I3 4).toInt) := F4r1
  replace F5r1 : ((¬ (I0 6).toInt = 0) → (¬ (I3 6).toInt = 0)) := F5r1
  replace F6r1 : ((I0 3).toInt ≤ (I3 3).toInt) := F6r1
  replace hvI : InvI Wm_lo Wm_hi I3 := hvI
  replace hvR : InvR Wm_rl R5 := hvR
  replace tIr1 : SmF ([2, 3, 4, 5, 6, 7] : List Nat) I0 I3 := tIr1
  replace tRr1 : SmF ([] : List Nat) R0 R5 := tRr1
  have hv_I3 := hvI
  have hsI := smF_tr hsI tIr1 (by decide)
  have hsR := smF_tr hsR tRr1 (by decide)
  have u_I3_1 : (I3 1).toInt = (I0 1).toInt := congrArg Int32.toInt (tIr1 1 rfl)
  have w_I3_2 := rg (hvI 2 (by decide)) (0) (3) rfl rfl
  have w_I3_3 := rg (hvI 3 (by decide)) (0) (1800) rfl rfl
  have w_I3_4 := rg (hvI 4 (by decide)) (0) (1800) rfl rfl
  have w_I3_6 := rg (hvI 6 (by decide)) (0) (5) rfl rfl
  have nr1_0 : ((I3 3).toInt ≤ (I3 4).toInt) := by omega
  have nr1_1 : ((I3 4).toInt ≤ (I0 1).toInt) := by omega
  have nr1_2 : ((¬ (I3 2).toInt = 0) → (I3 3).toInt < (I3 4).toInt) := by omega
  have nr1_3 : ((¬ (I0 6).toInt = 0) → (¬ (I3 6).toInt = 0)) := by omega
  have nr1_4 : ((I0 3).toInt ≤ (I3 3).toInt) := by omega
  clear F2r1 F3r1 F4r1 F5r1 F6r1
  refine lv_if_ne (tgt := 9) hx hb dX12_visit_5 (by decide) (fun c7 => ?_) (fun c7 => ?_)
  · have gc7 : ¬ (r1.toInt = 0) := fun q0 => c7 (Int32.toInt_inj.mp q0)
    refine lv_aload_n hx hb dX12_visit_9 rfl (lv_at hl 0 rfl) ?_
    refine wvi (As := []) (rest := []) (b := (g 45)) (d := 3) F hK hP hD hS hA (s_X12_dayHere l G g q I3 J4 R5 L6 hvI hvR   (by omega) (by omega) (by omega)) kmV_X12_dayHere mlX12_377 clX12 rfl 0 (Wm_at0 G g q I3 J4 R5 L6) ⟨(Nat.le_of_ble_eq_true rfl), (Nat.le_of_ble_eq_true rfl)⟩ hl.1 rfl (Nat.le_of_ble_eq_true rfl) dX12_visit_10 (fun r8 u9 H locs hwr8 hP hD hS => ?_)
    obtain ⟨I10, J11, R12, L13⟩ := u9
    replace hP : va_P G.1 vwCl (Wm G g q I10 J11 R12 L13) H := hP
    replace hD : va_D A (Wm G g q I10 J11 R12 L13) := hD
    obtain ⟨hvI, hvR, tIr8, tRr8, F0r8, F1r8, F2r8, F3r8, F4r8, F5r8⟩ := hwr8
    replace F0r8 : ((0 : Int) ≤ r8.toInt ∧ r8.toInt ≤ (4 : Int)) := F0r8
    replace F1r8 : ((I10 3).toInt ≤ (I10 4).toInt) := F1r8
    replace F2r8 : ((I10 4).toInt ≤ (I3 1).toInt) := F2r8
    replace F3r8 : ((¬ (I10 2).toInt = 0) → (I10 3).toInt < (I10 4).toInt) := F3r8
    replace F4r8 : ((¬ (I3 6).toInt = 0) → (¬ (I10 6).toInt = 0)) := F4r8
    replace F5r8 : ((I3 3).toInt ≤ (I10 3).toInt) := F5r8
    replace hvI : InvI Wm_lo Wm_hi I10 := hvI
    replace hvR : InvR Wm_rl R12 := hvR
    replace tIr8 : SmF ([2, 3, 4, 5, 6, 7] : List Nat) I3 I10 := tIr8
    replace tRr8 : SmF ([] : List Nat) R5 R12 := tRr8
    have hv_I10 := hvI
    have hsI := smF_tr hsI tIr8 (by decide)
    have hsR := smF_tr hsR tRr8 (by decide)
    have u_I10_1 : (I10 1).toInt = (I3 1).toInt := congrArg Int32.toInt (tIr8 1 rfl)
    have w_I10_2 := rg (hvI 2 (by decide)) (0) (3) rfl rfl
    have w_I10_3 := rg (hvI 3 (by decide)) (0) (1800) rfl rfl
    have w_I10_4 := rg (hvI 4 (by decide)) (0) (1800) rfl rfl
    have w_I10_6 := rg (hvI 6 (by decide)) (0) (5) rfl rfl
    have nr8_0 : ((I10 3).toInt ≤ (I10 4).toInt) := by omega
    have nr8_1 : ((I10 4).toInt ≤ (I0 1).toInt) := by omega
    have nr8_2 : ((¬ (I10 2).toInt = 0) → (I10 3).toInt < (I10 4).toInt) := by omega
    have nr8_3 : ((¬ (I0 6).toInt = 0) → (¬ (I10 6).toInt = 0)) := by omega
    have nr8_4 : ((I0 3).toInt ≤ (I10 3).toInt) := by omega
    have nr8_5 : ((I0 4).toInt ≤ (I10 3).toInt) := by omega
    clear nr1_0 nr1_1 nr1_2 nr1_3 nr1_4 F1r8 F2r8 F3r8 F4r8 F5r8
    refine lv_istore_n (lv' := [(1, .int r8), (0, .ref (g 45))]) hx hb dX12_visit_13 rfl hl (by decide) rfl (fun ls hl => ?_)
    refine lv_aload_n hx hb dX12_visit_14 rfl (lv_at hl 1 rfl) ?_
    refine lv_iconst (v := 0) hx hb dX12_visit_15 (by decide) ?_
    refine lv_bipush (v := 9) hx hb dX12_visit_16 (by decide) ?_
    refine wvi (As := [.int 0, .int 9]) (rest := []) (b := (g 45)) (d := 3) F hK hP hD hS hA (s_X12_number l G g q I10 J11 R12 L13 hvI hvR  0 9 (by decide) (by decide) (by omega) (by omega) (by omega)) kmV_X12_number mlX12_370 clX12 rfl 0 (Wm_at0 G g q I10 J11 R12 L13) ⟨(Nat.le_of_ble_eq_true rfl), (Nat.le_of_ble_eq_true rfl)⟩ hl.1 rfl (Nat.le_of_ble_eq_true rfl) dX12_visit_18 (fun r14 u15 H locs hwr14 hP hD hS => ?_)
    obtain ⟨I16, J17, R18, L19⟩ := u15
    replace hP : va_P G.1 vwCl (Wm G g q I16 J17 R18 L19) H := hP
    replace hD : va_D A (Wm G g q I16 J17 R18 L19) := hD
    obtain ⟨hvI, hvR, tIr14, tRr14, F0r14, F1r14, F2r14, F3r14, F4r14, F5r14⟩ := hwr14
    replace F0r14 : ((0 : Int) ≤ r14.toInt ∧ r14.toInt ≤ (9999 : Int)) := F0r14
    replace F1r14 : ((I16 3).toInt ≤ (I16 4).toInt) := F1r14
    replace F2r14 : ((I16 4).toInt ≤ (I10 1).toInt) := F2r14
    replace F3r14 : ((¬ (I16 2).toInt = 0) → (I16 3).toInt < (I16 4).toInt) := F3r14
    replace F4r14 : ((¬ (I10 6).toInt = 0) → (¬ (I16 6).toInt = 0)) := F4r14
    replace F5r14 : ((I10 3).toInt ≤ (I16 3).toInt) := F5r14
    replace hvI : InvI Wm_lo Wm_hi I16 := hvI
    replace hvR : InvR Wm_rl R18 := hvR
    replace tIr14 : SmF ([2, 3, 4, 5, 6, 7] : List Nat) I10 I16 := tIr14
    replace tRr14 : SmF ([] : List Nat) R12 R18 := tRr14
    have hv_I16 := hvI
    have hsI := smF_tr hsI tIr14 (by decide)
    have hsR := smF_tr hsR tRr14 (by decide)
    have u_I16_1 : (I16 1).toInt = (I10 1).toInt := congrArg Int32.toInt (tIr14 1 rfl)
    have w_I16_2 := rg (hvI 2 (by decide)) (0) (3) rfl rfl
    have w_I16_3 := rg (hvI 3 (by decide)) (0) (1800) rfl rfl
    have w_I16_4 := rg (hvI 4 (by decide)) (0) (1800) rfl rfl
    have w_I16_6 := rg (hvI 6 (by decide)) (0) (5) rfl rfl
    have nr14_0 : ((I16 3).toInt ≤ (I16 4).toInt) := by omega
    have nr14_1 : ((I16 4).toInt ≤ (I0 1).toInt) := by omega
    have nr14_2 : ((¬ (I16 2).toInt = 0) → (I16 3).toInt < (I16 4).toInt) := by omega
    have nr14_3 : ((¬ (I0 6).toInt = 0) → (¬ (I16 6).toInt = 0)) := by omega
    have nr14_4 : ((I0 3).toInt ≤ (I16 3).toInt) := by omega
    have nr14_5 : ((I0 4).toInt ≤ (I16 3).toInt) := by omega
    clear nr8_0 nr8_1 nr8_2 nr8_3 nr8_4 nr8_5 F1r14 F2r14 F3r14 F4r14 F5r14
    refine lv_istore_n (lv' := [(2, .int r14), (1, .int r8), (0, .ref (g 45))]) hx hb dX12_visit_21 rfl hl (by decide) rfl (fun ls hl => ?_)
    refine lv_aload_n hx hb dX12_visit_22 rfl (lv_at hl 2 rfl) ?_
    refine lv_iconst (v := 0) hx hb dX12_visit_23 (by decide) ?_
    refine lv_bipush (v := 100) hx hb dX12_visit_24 (by decide) ?_
    refine wvi (As := [.int 0, .int 100]) (rest := []) (b := (g 45)) (d := 3) F hK hP hD hS hA (s_X12_number l G g q I16 J17 R18 L19 hvI hvR  0 100 (by decide) (by decide) (by omega) (by omega) (by omega)) kmV_X12_number mlX12_370 clX12 rfl 0 (Wm_at0 G g q I16 J17 R18 L19) ⟨(Nat.le_of_ble_eq_true rfl), (Nat.le_of_ble_eq_true rfl)⟩ hl.1 rfl (Nat.le_of_ble_eq_true rfl) dX12_visit_26 (fun r20 u21 H locs hwr20 hP hD hS => ?_)
    obtain ⟨I22, J23, R24, L25⟩ := u21
    replace hP : va_P G.1 vwCl (Wm G g q I22 J23 R24 L25) H := hP
    replace hD : va_D A (Wm G g q I22 J23 R24 L25) := hD
    obtain ⟨hvI, hvR, tIr20, tRr20, F0r20, F1r20, F2r20, F3r20, F4r20, F5r20⟩ := hwr20
    replace F0r20 : ((0 : Int) ≤ r20.toInt ∧ r20.toInt ≤ (9999 : Int)) := F0r20
    replace F1r20 : ((I22 3).toInt ≤ (I22 4).toInt) := F1r20
    replace F2r20 : ((I22 4).toInt ≤ (I16 1).toInt) := F2r20
    replace F3r20 : ((¬ (I22 2).toInt = 0) → (I22 3).toInt < (I22 4).toInt) := F3r20
    replace F4r20 : ((¬ (I16 6).toInt = 0) → (¬ (I22 6).toInt = 0)) := F4r20
    replace F5r20 : ((I16 3).toInt ≤ (I22 3).toInt) := F5r20
    replace hvI : InvI Wm_lo Wm_hi I22 := hvI
    replace hvR : InvR Wm_rl R24 := hvR
    replace tIr20 : SmF ([2, 3, 4, 5, 6, 7] : List Nat) I16 I22 := tIr20
    replace tRr20 : SmF ([] : List Nat) R18 R24 := tRr20
    have hv_I22 := hvI
    have hsI := smF_tr hsI tIr20 (by decide)
    have hsR := smF_tr hsR tRr20 (by decide)
    have u_I22_1 : (I22 1).toInt = (I16 1).toInt := congrArg Int32.toInt (tIr20 1 rfl)
    have w_I22_2 := rg (hvI 2 (by decide)) (0) (3) rfl rfl
    have w_I22_3 := rg (hvI 3 (by decide)) (0) (1800) rfl rfl
    have w_I22_4 := rg (hvI 4 (by decide)) (0) (1800) rfl rfl
    have w_I22_6 := rg (hvI 6 (by decide)) (0) (5) rfl rfl
    have nr20_0 : ((I22 3).toInt ≤ (I22 4).toInt) := by omega
    have nr20_1 : ((I22 4).toInt ≤ (I0 1).toInt) := by omega
    have nr20_2 : ((¬ (I22 2).toInt = 0) → (I22 3).toInt < (I22 4).toInt) := by omega
    have nr20_3 : ((¬ (I0 6).toInt = 0) → (¬ (I22 6).toInt = 0)) := by omega
    have nr20_4 : ((I0 3).toInt ≤ (I22 3).toInt) := by omega
    have nr20_5 : ((I0 4).toInt ≤ (I22 3).toInt) := by omega
    clear nr14_0 nr14_1 nr14_2 nr14_3 nr14_4 nr14_5 F1r20 F2r20 F3r20 F4r20 F5r20
    refine lv_istore_n (lv' := [(3, .int r20), (2, .int r14), (1, .int r8), (0, .ref (g 45))]) hx hb dX12_visit_29 rfl hl (by decide) rfl (fun ls hl => ?_)
    refine lv_aload_n hx hb dX12_visit_30 rfl (lv_at hl 3 rfl) ?_
    refine g_get F hK hP 0 (Wm_at0 G g q I22 J23 R24 L25) clX12 8 (by decide) flX12_36 rfl dX12_visit_31 ?_
    have w_I22_6 := rg (hv_I22 6 (by decide)) (0) (5) rfl rfl
    refine lv_if_le (tgt := 38) hx hb dX12_visit_34 (by decide) (fun c26 => ?_) (fun c26 => ?_)
    · have gc26 : (I22 6).toInt ≤ 0 := (tle _ _).mp c26
      refine lv_aload_n hx hb dX12_visit_38 rfl (lv_at hl 3 rfl) ?_
      refine g_get F hK hP 0 (Wm_at0 G g q I22 J23 R24 L25) clX12 34 (by decide) flX12_116 rfl dX12_visit_39 ?_
      refine lv_iconst (v := 5) hx hb dX12_visit_42 (by decide) ?_
      refine lv_aload_n hx hb dX12_visit_43 rfl (lv_at hl 3 rfl) ?_
      refine g_get F hK hP 0 (Wm_at0 G g q I22 J23 R24 L25) clX12 44 (by decide) flX12_146 rfl dX12_visit_44 ?_
      refine cst_i (hsI 12 rfl) ?_
      have w_I0_12 := rg (hvI0 12 (by decide)) (0) (1) rfl rfl
      refine lv_imul hx hb dX12_visit_47 ?_
      refine lv_topi (fun x27 ex27 => ?_)
      have fx27 : x27.toInt = 5 * (I0 12).toInt := by rw [ex27]; exact t_mul (by show (-2147483648 : Int) ≤ 5 * (I0 12).toInt; omega) (by show 5 * (I0 12).toInt ≤ 2147483647; omega)
      refine lv_iload_n hx hb dX12_visit_48 rfl (lv_at hl 2 rfl) ?_
      refine lv_iadd hx hb dX12_visit_49 ?_
      refine lv_topi (fun x28 ex28 => ?_)
      have fx28 : x28.toInt = x27.toInt + r8.toInt := by rw [ex28]; exact t_add (by show (-2147483648 : Int) ≤ x27.toInt + r8.toInt; omega) (by show x27.toInt + r8.toInt ≤ 2147483647; omega)
      refine lv_iload_n hx hb dX12_visit_50 rfl (lv_at hl 1 rfl) ?_
      refine p_row (W1 := fun y => Wm G g q I22 J23 y L25) (n := 19) F hK hP hD hS 23 (Wm_at23 G g q I22 J23 R24 L25) (in_of (by omega)) dX12_visit_51 (Wm_rowR19 G g q I22 J23 R24 L25) (fun R29 H locs eR29 hP hD hS => ?_)
      have hvR : InvR Wm_rl R29 := inv_upR hvR 19 eR29 (upd_in (hvR 19 (by decide)) (full _))
      have hsR := smF_up hsR eR29 (by decide)
      refine lv_aload_n hx hb dX12_visit_52 rfl (lv_at hl 3 rfl) ?_
      refine g_get F hK hP 0 (Wm_at0 G g q I22 J23 R29 L25) clX12 35 (by decide) flX12_119 rfl dX12_visit_53 ?_
      refine lv_iconst (v := 5) hx hb dX12_visit_56 (by decide) ?_
      refine lv_aload_n hx hb dX12_visit_57 rfl (lv_at hl 3 rfl) ?_
      refine g_get F hK hP 0 (Wm_at0 G g q I22 J23 R29 L25) clX12 44 (by decide) flX12_146 rfl dX12_visit_58 ?_
      refine cst_i (hsI 12 rfl) ?_
      refine lv_imul hx hb dX12_visit_61 ?_
      refine lv_topi (fun x30 ex30 => ?_)
      have fx30 : x30.toInt = 5 * (I0 12).toInt := by rw [ex30]; exact t_mul (by show (-2147483648 : Int) ≤ 5 * (I0 12).toInt; omega) (by show 5 * (I0 12).toInt ≤ 2147483647; omega)
      refine lv_iload_n hx hb dX12_visit_62 rfl (lv_at hl 2 rfl) ?_
      refine lv_iadd hx hb dX12_visit_63 ?_
      refine lv_topi (fun x31 ex31 => ?_)
      have fx31 : x31.toInt = x30.toInt + r8.toInt := by rw [ex31]; exact t_add (by show (-2147483648 : Int) ≤ x30.toInt + r8.toInt; omega) (by show x30.toInt + r8.toInt ≤ 2147483647; omega)
      refine lv_iload_n hx hb dX12_visit_64 rfl (lv_at hl 0 rfl) ?_
      refine p_row (W1 := fun y => Wm G g q I22 J23 y L25) (n := 20) F hK hP hD hS 24 (Wm_at24 G g q I22 J23 R29 L25) (in_of (by omega)) dX12_visit_65 (Wm_rowR20 G g q I22 J23 R29 L25) (fun R32 H locs eR32 hP hD hS => ?_)
      have hvR : InvR Wm_rl R32 := inv_upR hvR 20 eR32 (upd_in (hvR 20 (by decide)) (full _))
      have hsR := smF_up hsR eR32 (by decide)
      rw [hQ]
      exact q_v F hr hlk (I22, J23, R32, L25) hP hD hS ⟨hvI, hvR, hsI, hsR, (show (((I22 6).toInt = 0 ∧ ¬ (I0 2).toInt = 0) → (I0 3).toInt < (I22 3).toInt) from by omega), (show ((I22 3).toInt ≤ (I22 4).toInt) from by omega), (show ((I22 4).toInt ≤ (I0 1).toInt) from by omega), (show ((¬ (I22 2).toInt = 0) → (I22 3).toInt < (I22 4).toInt) from by omega), (show ((¬ (I0 6).toInt = 0) → (¬ (I22 6).toInt = 0)) from by omega), (show ((I0 3).toInt ≤ (I22 3).toInt) from by omega)⟩ dX12_visit_66 (Nat.le_of_ble_eq_true rfl) (Nat.le_of_ble_eq_true rfl)
    · have gc26 : ¬ ((I22 6).toInt ≤ 0) := fun q0 => c26 ((tle _ _).mpr q0)
      rw [hQ]
      exact q_v F hr hlk (I22, J23, R24, L25) hP hD hS ⟨hvI, hvR, hsI, hsR, (show (((I22 6).toInt = 0 ∧ ¬ (I0 2).toInt = 0) → (I0 3).toInt < (I22 3).toInt) from by omega), (show ((I22 3).toInt ≤ (I22 4).toInt) from by omega), (show ((I22 4).toInt ≤ (I0 1).toInt) from by omega), (show ((¬ (I22 2).toInt = 0) → (I22 3).toInt < (I22 4).toInt) from by omega), (show ((¬ (I0 6).toInt = 0) → (¬ (I22 6).toInt = 0)) from by omega), (show ((I0 3).toInt ≤ (I22 3).toInt) from by omega)⟩ dX12_visit_37 (Nat.le_of_ble_eq_true rfl) (Nat.le_of_ble_eq_true rfl)
  · have gc7 : r1.toInt = 0 := congrArg Int32.toInt c7
    rw [hQ]
    exact q_v F hr hlk (I3, J4, R5, L6) hP hD hS ⟨hvI, hvR, hsI, hsR, (show (((I3 6).toInt = 0 ∧ ¬ (I0 2).toInt = 0) → (I0 3).toInt < (I3 3).toInt) from by omega), (show ((I3 3).toInt ≤ (I3 4).toInt) from by omega), (show ((I3 4).toInt ≤ (I0 1).toInt) from by omega), (show ((¬ (I3 2).toInt = 0) → (I3 3).toInt < (I3 4).toInt) from by omega), (show ((¬ (I0 6).toInt = 0) → (¬ (I3 6).toInt = 0)) from by omega), (show ((I0 3).toInt ≤ (I3 3).toInt) from by omega)⟩ dX12_visit_8 (Nat.le_of_ble_eq_true rfl) (Nat.le_of_ble_eq_true rfl)
