set_option maxHeartbeats 4000000 in
set_option maxRecDepth 100000 in
theorem s_X12_goesOn (l : Launch) (G : Gx) (g q : Nat → Nat) (I0 : Nat → Int32) (J0 : Nat → Int64) (R0 : Nat → Nat → Int32) (L0 : Nat → Nat → Int64) (hvI : InvI Wm_lo Wm_hi I0) (hvR : InvR Wm_rl R0)   (hpre0 : ((I0 3).toInt ≤ (I0 4).toInt)) (hpre1 : ((I0 4).toInt ≤ (I0 1).toInt)) (hpre2 : ((¬ (I0 2).toInt = 0) → (I0 3).toInt < (I0 4).toInt)) (hpre3 : ((I0 6).toInt = 0)) (hpre4 : ((I0 16).toInt = 1)) (a : Nat) (hRS : RS a 1 I0 (J0 0) R0) : CtI (S := St) l yX12_goesOn cX12_goesOn 5 (some .boolean) (rmD 3 0 0) G [.ref (g 45)] (Wm G g q I0 J0 R0 L0) (fun r u => InvI Wm_lo Wm_hi u.1 ∧ InvR Wm_rl u.2.2.1 ∧ SmF ([2, 3, 4, 5, 6, 7, 11, 13, 14, 15, 16] : List Nat) I0 u.1 ∧ SmF ([26, 27, 28, 29, 30, 33] : List Nat) R0 u.2.2.1 ∧ ((0 : Int) ≤ r.toInt ∧ r.toInt ≤ (1 : Int)) ∧ ((r.toInt = 1 ∧ (u.1 6).toInt = 0) → (I0 3).toInt < (u.1 3).toInt) ∧ ((u.1 3).toInt ≤ (u.1 4).toInt) ∧ ((u.1 4).toInt ≤ (I0 1).toInt) ∧ ((¬ (u.1 2).toInt = 0) → (u.1 3).toInt < (u.1 4).toInt) ∧ ((¬ (I0 6).toInt = 0) → (¬ (u.1 6).toInt = 0)) ∧ ((I0 3).toInt ≤ (u.1 3).toInt) ∧ (r.toInt = 1 → RS a (Int32.toNatClampNeg (u.1 16)) u.1 (u.2.1 0) u.2.2.1) ∧ (r.toInt = 0 → EN a u.1 u.2.2.1) ∧ (KE I0 (R0 26) u.1 (u.2.2.1 26))) (fun u => Wm G g q u.1 u.2.1 u.2.2.1 u.2.2.2) := by
  refine ctI_of (own := RX12) (by decide +kernel) rfl (Nat.le_of_ble_eq_true rfl) ?_
  intro p e s m below meth c A ls F hr hlk hnm hK hP hD hA hS hl
  have hx := F.1
  have hb := F.2.1
  have hown := F.2.2.2.1
  have hl : lv_has ls 5 [(0, .ref (g 45))] := hl
  obtain ⟨Q, hQ⟩ : ∃ Q : State → Prop, Q = MQ below (va_Qi (S := St) (fun r u => InvI Wm_lo Wm_hi u.1 ∧ InvR Wm_rl u.2.2.1 ∧ SmF ([2, 3, 4, 5, 6, 7, 11, 13, 14, 15, 16] : List Nat) I0 u.1 ∧ SmF ([26, 27, 28, 29, 30, 33] : List Nat) R0 u.2.2.1 ∧ ((0 : Int) ≤ r.toInt ∧ r.toInt ≤ (1 : Int)) ∧ ((r.toInt = 1 ∧ (u.1 6).toInt = 0) → (I0 3).toInt < (u.1 3).toInt) ∧ ((u.1 3).toInt ≤ (u.1 4).toInt) ∧ ((u.1 4).toInt ≤ (I0 1).toInt) ∧ ((¬ (u.1 2).toInt = 0) → (u.1 3).toInt < (u.1 4).toInt) ∧ ((¬ (I0 6).toInt = 0) → (¬ (u.1 6).toInt = 0)) ∧ ((I0 3).toInt ≤ (u.1 3).toInt) ∧ (r.toInt = 1 → RS a (Int32.toNatClampNeg (u.1 16)) u.1 (u.2.1 0) u.2.2.1) ∧ (r.toInt = 0 → EN a u.1 u.2.2.1) ∧ (KE I0 (R0 26) u.1 (u.2.2.1 26))) (BX G A (fun u => Wm G g q u.1 u.2.1 u.2.2.1 u.2.2.2)) A) [.ref (g 45)].toArray s 0 0 A := ⟨_, rfl⟩
  rw [show (MQ below (va_Qi (S := St) (fun r u => InvI Wm_lo Wm_hi u.1 ∧ InvR Wm_rl u.2.2.1 ∧ SmF ([2, 3, 4, 5, 6, 7, 11, 13, 14, 15, 16] : List Nat) I0 u.1 ∧ SmF ([26, 27, 28, 29, 30, 33] : List Nat) R0 u.2.2.1 ∧ ((0 : Int) ≤ r.toInt ∧ r.toInt ≤ (1 : Int)) ∧ ((r.toInt = 1 ∧ (u.1 6).toInt = 0) → (I0 3).toInt < (u.1 3).toInt) ∧ ((u.1 3).toInt ≤ (u.1 4).toInt) ∧ ((u.1 4).toInt ≤ (I0 1).toInt) ∧ ((¬ (u.1 2).toInt = 0) → (u.1 3).toInt < (u.1 4).toInt) ∧ ((¬ (I0 6).toInt = 0) → (¬ (u.1 6).toInt = 0)) ∧ ((I0 3).toInt ≤ (u.1 3).toInt) ∧ (r.toInt = 1 → RS a (Int32.toNatClampNeg (u.1 16)) u.1 (u.2.1 0) u.2.2.1) ∧ (r.toInt = 0 → EN a u.1 u.2.2.1) ∧ (KE I0 (R0 26) u.1 (u.2.2.1 26))) (BX G A (fun u => Wm G g q u.1 u.2.1 u.2.2.1 u.2.2.2)) A) [.ref (g 45)].toArray s (rmD 3 0 0).cells (rmD 3 0 0).slots A) = Q from hQ.symm]
  have hsI := smF_rf ([2, 3, 4, 5, 6, 7, 11, 13, 14, 15, 16] : List Nat) I0
  have hsR := smF_rf ([26, 27, 28, 29, 30, 33] : List Nat) R0
  have hvI0 := hvI
  have w_I0_1 := rg (hvI 1 (by decide)) (0) (1800) rfl rfl
  have w_I0_2 := rg (hvI 2 (by decide)) (0) (3) rfl rfl
  have w_I0_3 := rg (hvI 3 (by decide)) (0) (1800) rfl rfl
  have w_I0_4 := rg (hvI 4 (by decide)) (0) (1800) rfl rfl
  have w_I0_5 := rg (hvI 5 (by decide)) (0) (9999) rfl rfl
  have w_I0_6 := rg (hvI 6 (by decide)) (0) (5) rfl rfl
  have w_I0_11 := rg (hvI 11 (by decide)) (0) (1800) rfl rfl
  have w_I0_12 := rg (hvI 12 (by decide)) (0) (1) rfl rfl
  have w_I0_13 := rg (hvI 13 (by decide)) (0) (9) rfl rfl
  have w_I0_14 := rg (hvI 14 (by decide)) (0) (8) rfl rfl
  have w_I0_15 := rg (hvI 15 (by decide)) (0) (499) rfl rfl
  have w_I0_16 := rg (hvI 16 (by decide)) (0) (1) rfl rfl
  obtain ⟨d, n, hX, hTL, hWB, hBY⟩ := hRS hpre3
  have hX2 := hX
  obtain ⟨hd, ho, hn, hRB⟩ := hX2
  have hBY2 := hBY
  obtain ⟨hb1, hb2, hb3⟩ := hBY2
  have hom := rx_many hX (by omega) (by omega) (by omega)
  have lab_161 : ∀ (b0_161 : Int32) (I_161 : Nat → Int32) (J_161 : Nat → Int64) (R_161 : Nat → Nat → Int32) (L_161 : Nat → Nat → Int64) (H : Heap) (locs : List Loc) (ls : Array Slot), InvI Wm_lo Wm_hi I_161 → InvR Wm_rl R_161 → SmF ([2, 3, 4, 5, 6, 7, 11, 13, 14, 15, 16] : List Nat) I0 I_161 → SmF ([26, 27, 28, 29, 30, 33] : List Nat) R0 R_161 → ((10 : Int) ≤ b0_161.toInt ∧ b0_161.toInt ≤ (14 : Int)) → ((I_161 2).toInt = 3) → ((I_161 15).toInt ≤ (I0 15).toInt) → ((I_161 3).toInt ≤ (I_161 4).toInt) → ((I_161 4).toInt ≤ (I0 1).toInt) → ((¬ (I_161 2).toInt = 0) → (I_161 3).toInt < (I_161 4).toInt) → ((¬ (I0 6).toInt = 0) → (¬ (I_161 6).toInt = 0)) → ((I0 3).toInt ≤ (I_161 3).toInt) → (JD a d (rkV b0_161) I_161 R_161) → (KE I0 (R0 26) I_161 (R_161 26)) → va_P G.1 vwCl (Wm G g q I_161 J_161 R_161 L_161) H → va_D A (Wm G g q I_161 J_161 R_161 L_161) → va_S A s.heap H locs → lv_has ls 5 [(0, .ref (g 45))] → W p l e (rmD 3 0 0) s m [.ref (g 45)].toArray below meth c H locs 0 0 Q (F0 m 161 ls [.int b0_161, .ref (g 45)]) := by
    intro b0_161 I_161 J_161 R_161 L_161 H locs ls hvI hvR hsI hsR y0_161 z0_161 z1_161 z2_161 z3_161 z4_161 z5_161 z6_161 xl0_161 xl1_161 hP hD hS hl
    have hv_I_161 := hvI
    have w_I_161_1 := rg (hvI 1 (by decide)) (0) (1800) rfl rfl
    have v_I_161_1 : (I_161 1).toInt = (I0 1).toInt := congrArg Int32.toInt (hsI 1 rfl)
    have w_I_161_2 := rg (hvI 2 (by decide)) (0) (3) rfl rfl
    have w_I_161_3 := rg (hvI 3 (by decide)) (0) (1800) rfl rfl
    have w_I_161_4 := rg (hvI 4 (by decide)) (0) (1800) rfl rfl
    have w_I_161_5 := rg (hvI 5 (by decide)) (0) (9999) rfl rfl
    have w_I_161_6 := rg (hvI 6 (by decide)) (0) (5) rfl rfl
    have w_I_161_11 := rg (hvI 11 (by decide)) (0) (1800) rfl rfl
    have w_I_161_12 := rg (hvI 12 (by decide)) (0) (1) rfl rfl
    have v_I_161_12 : (I_161 12).toInt = (I0 12).toInt := congrArg Int32.toInt (hsI 12 rfl)
    have w_I_161_13 := rg (hvI 13 (by decide)) (0) (9) rfl rfl
    have w_I_161_14 := rg (hvI 14 (by decide)) (0) (8) rfl rfl
    have w_I_161_15 := rg (hvI 15 (by decide)) (0) (499) rfl rfl
    have w_I_161_16 := rg (hvI 16 (by decide)) (0) (1) rfl rfl
    refine wvv (As := [.int b0_161]) (rest := []) (b := (g 45)) (d := 1) F hK hP hD hS hA (s_X12_holdsBack l G g q I_161 J_161 R_161 L_161 hvI hvR  b0_161 (show ((0 : Int) ≤ b0_161.toInt ∧ b0_161.toInt ≤ (22 : Int)) from by omega) (by omega)) kmV_X12_holdsBack mlX12_336 clX12 rfl 0 (Wm_at0 G g q I_161 J_161 R_161 L_161) ⟨(Nat.le_of_ble_eq_true rfl), (Nat.le_of_ble_eq_true rfl)⟩ hl.1 rfl (Nat.le_of_ble_eq_true rfl) dX12_goesOn_161 (fun u2 H locs hwr1 hP hD hS => ?_)
    obtain ⟨I3, J4, R5, L6⟩ := u2
    replace hP : va_P G.1 vwCl (Wm G g q I3 J4 R5 L6) H := hP
    replace hD : va_D A (Wm G g q I3 J4 R5 L6) := hD
    obtain ⟨hvI, hvR, tIr1, tRr1, F0r1, F1r1⟩ := hwr1
    replace F0r1 : ((I3 15).toInt = (I_161 15).toInt + 1) := F0r1
    replace F1r1 : (R5 33 = upd (R_161 33) (Int32.toNatClampNeg (I_161 15)) b0_161) := F1r1
    replace hvI : InvI Wm_lo Wm_hi I3 := hvI
    replace hvR : InvR Wm_rl R5 := hvR
    replace tIr1 : SmF ([15] : List Nat) I_161 I3 := tIr1
    replace tRr1 : SmF ([33] : List Nat) R_161 R5 := tRr1
    have hv_I3 := hvI
    have hsI := smF_tr hsI tIr1 (by decide)
    have hsR := smF_tr hsR tRr1 (by decide)
    have u_I3_1 : (I3 1).toInt = (I_161 1).toInt := congrArg Int32.toInt (tIr1 1 rfl)
    have u_I3_2 : (I3 2).toInt = (I_161 2).toInt := congrArg Int32.toInt (tIr1 2 rfl)
    have u_I3_3 : (I3 3).toInt = (I_161 3).toInt := congrArg Int32.toInt (tIr1 3 rfl)
    have u_I3_4 : (I3 4).toInt = (I_161 4).toInt := congrArg Int32.toInt (tIr1 4 rfl)
    have u_I3_5 : (I3 5).toInt = (I_161 5).toInt := congrArg Int32.toInt (tIr1 5 rfl)
    have u_I3_6 : (I3 6).toInt = (I_161 6).toInt := congrArg Int32.toInt (tIr1 6 rfl)
    have u_I3_11 : (I3 11).toInt = (I_161 11).toInt := congrArg Int32.toInt (tIr1 11 rfl)
    have u_I3_12 : (I3 12).toInt = (I_161 12).toInt := congrArg Int32.toInt (tIr1 12 rfl)
    have u_I3_13 : (I3 13).toInt = (I_161 13).toInt := congrArg Int32.toInt (tIr1 13 rfl)
    have u_I3_14 : (I3 14).toInt = (I_161 14).toInt := congrArg Int32.toInt (tIr1 14 rfl)
    have w_I3_15 := rg (hvI 15 (by decide)) (0) (499) rfl rfl
    have u_I3_16 : (I3 16).toInt = (I_161 16).toInt := congrArg Int32.toInt (tIr1 16 rfl)
    have nr1_0 : ((I3 3).toInt ≤ (I3 4).toInt) := by omega
    have nr1_1 : ((I3 4).toInt ≤ (I0 1).toInt) := by omega
    have nr1_2 : ((¬ (I3 2).toInt = 0) → (I3 3).toInt < (I3 4).toInt) := by omega
    have nr1_3 : ((¬ (I0 6).toInt = 0) → (¬ (I3 6).toInt = 0)) := by omega
    have nr1_4 : ((I0 3).toInt ≤ (I3 3).toInt) := by omega
    clear z2_161 z3_161 z4_161 z5_161 z6_161
    have ker1 := ke_sm xl1_161 (congrArg Int32.toInt (tIr1 12 rfl)) (congrArg Int32.toInt (tIr1 11 rfl)) (tRr1 26 rfl)
    have rmr1 := rm_arith xl0_161 rfl (rk_56 (by omega)).1 (rk_56 (by omega)).2 (by omega) (ne_22 (by omega)) (by omega) (by omega) tIr1 tRr1 F0r1 F1r1
    have hstr1 : (I0 3).toInt < (I3 4).toInt := by omega
    refine lv_aload_n hx hb dX12_goesOn_164 rfl (lv_at hl 0 rfl) ?_
    refine wvv (As := []) (rest := []) (b := (g 45)) (d := 2) F hK hP hD hS hA (s_X12_ahead2 l G g q I3 J4 R5 L6 hvI hvR   (by omega) (by omega) (by omega)) kmV_X12_ahead mlX12_247 clX12 rfl 0 (Wm_at0 G g q I3 J4 R5 L6) ⟨(Nat.le_of_ble_eq_true rfl), (Nat.le_of_ble_eq_true rfl)⟩ hl.1 rfl (Nat.le_of_ble_eq_true rfl) dX12_goesOn_165 (fun u8 H locs hwr7 hP hD hS => ?_)
    obtain ⟨I9, J10, R11, L12⟩ := u8
    replace hP : va_P G.1 vwCl (Wm G g q I9 J10 R11 L12) H := hP
    replace hD : va_D A (Wm G g q I9 J10 R11 L12) := hD
    obtain ⟨hvI, hvR, tIr7, tRr7, F0r7, F1r7, F2r7, F3r7, F4r7, F5r7, F6r7, F7r7, F8r7⟩ := hwr7
    replace F0r7 : ((I3 4).toInt ≤ (I9 3).toInt) := F0r7
    replace F1r7 : ((I9 3).toInt ≤ (I9 4).toInt) := F1r7
    replace F2r7 : ((I9 4).toInt ≤ (I3 1).toInt) := F2r7
    replace F3r7 : ((¬ (I9 2).toInt = 0) → (I9 3).toInt < (I9 4).toInt) := F3r7
    replace F4r7 : ((¬ (I3 6).toInt = 0) → (¬ (I9 6).toInt = 0)) := F4r7
    replace F5r7 : ((I3 3).toInt ≤ (I9 3).toInt) := F5r7
    replace F6r7 : (TL I9 (R5 0)) := F6r7
    replace F7r7 : (WB I9 (J10 0)) := F7r7
    replace F8r7 : (TL I3 (R5 0) → (I3 2).toInt = 1 → (I9 6).toInt = 0 → ((I9 2).toInt = 1 ∨ (I9 2).toInt = 2) → (I3 4).toInt + 1 ≤ (I9 3).toInt) := F8r7
    replace hvI : InvI Wm_lo Wm_hi I9 := hvI
    replace hvR : InvR Wm_rl R11 := hvR
    replace tIr7 : SmF ([2, 3, 4, 5, 6, 7] : List Nat) I3 I9 := tIr7
    replace tRr7 : SmF ([] : List Nat) R5 R11 := tRr7
    have hv_I9 := hvI
    have hsI := smF_tr hsI tIr7 (by decide)
    have hsR := smF_tr hsR tRr7 (by decide)
    have u_I9_1 : (I9 1).toInt = (I3 1).toInt := congrArg Int32.toInt (tIr7 1 rfl)
    have w_I9_2 := rg (hvI 2 (by decide)) (0) (3) rfl rfl
    have w_I9_3 := rg (hvI 3 (by decide)) (0) (1800) rfl rfl
    have w_I9_4 := rg (hvI 4 (by decide)) (0) (1800) rfl rfl
    have w_I9_5 := rg (hvI 5 (by decide)) (0) (9999) rfl rfl
    have w_I9_6 := rg (hvI 6 (by decide)) (0) (5) rfl rfl
    have u_I9_11 : (I9 11).toInt = (I3 11).toInt := congrArg Int32.toInt (tIr7 11 rfl)
    have u_I9_12 : (I9 12).toInt = (I3 12).toInt := congrArg Int32.toInt (tIr7 12 rfl)
    have u_I9_13 : (I9 13).toInt = (I3 13).toInt := congrArg Int32.toInt (tIr7 13 rfl)
    have u_I9_14 : (I9 14).toInt = (I3 14).toInt := congrArg Int32.toInt (tIr7 14 rfl)
    have u_I9_15 : (I9 15).toInt = (I3 15).toInt := congrArg Int32.toInt (tIr7 15 rfl)
    have u_I9_16 : (I9 16).toInt = (I3 16).toInt := congrArg Int32.toInt (tIr7 16 rfl)
    have nr7_0 : ((I9 3).toInt ≤ (I9 4).toInt) := by omega
    have nr7_1 : ((I9 4).toInt ≤ (I0 1).toInt) := by omega
    have nr7_2 : ((¬ (I9 2).toInt = 0) → (I9 3).toInt < (I9 4).toInt) := by omega
    have nr7_3 : ((¬ (I0 6).toInt = 0) → (¬ (I9 6).toInt = 0)) := by omega
    have nr7_4 : ((I0 3).toInt ≤ (I9 3).toInt) := by omega
    clear nr1_0 nr1_1 nr1_2 nr1_3 nr1_4 F1r7 F2r7 F3r7 F4r7 F5r7
    have ker7 := ke_sm ker1 (congrArg Int32.toInt (tIr7 12 rfl)) (congrArg Int32.toInt (tIr7 11 rfl)) (tRr7 26 rfl)
    have rsr7 := rs_ahead rmr1 tIr7 tRr7 F0r7 F6r7 F7r7 F8r7
    refine lv_aload_n hx hb dX12_goesOn_168 rfl (lv_at hl 0 rfl) ?_
    refine lv_iconst (v := 0) hx hb dX12_goesOn_169 (by decide) ?_
    refine p_fld (W1 := fun y => Wm G g q y J10 R11 L12) (n := 16) (v := 0) F hK hP hD hS 0 (Wm_at0 G g q I9 J10 R11 L12) clX12 54 (by decide) flX12_176 rfl (nar01 (by decide)) rfl (Nat.le_of_ble_eq_true rfl) dX12_goesOn_170 (Wm_setI16 G g q I9 J10 R11 L12 _) (fun I13 H locs eI13 hP hD hS => ?_)
    have hvI : InvI Wm_lo Wm_hi I13 := inv_upI hvI 16 eI13 (by decide)
    have hsI := smF_up hsI eI13 (by decide)
    have hv_I13 := hvI
    have u_I13_1 : (I13 1).toInt = (I9 1).toInt := by rw [eI13]; rfl
    have u_I13_2 : (I13 2).toInt = (I9 2).toInt := by rw [eI13]; rfl
    have u_I13_3 : (I13 3).toInt = (I9 3).toInt := by rw [eI13]; rfl
    have u_I13_4 : (I13 4).toInt = (I9 4).toInt := by rw [eI13]; rfl
    have u_I13_5 : (I13 5).toInt = (I9 5).toInt := by rw [eI13]; rfl
    have u_I13_6 : (I13 6).toInt = (I9 6).toInt := by rw [eI13]; rfl
    have u_I13_11 : (I13 11).toInt = (I9 11).toInt := by rw [eI13]; rfl
    have u_I13_12 : (I13 12).toInt = (I9 12).toInt := by rw [eI13]; rfl
    have u_I13_13 : (I13 13).toInt = (I9 13).toInt := by rw [eI13]; rfl
    have u_I13_14 : (I13 14).toInt = (I9 14).toInt := by rw [eI13]; rfl
    have u_I13_15 : (I13 15).toInt = (I9 15).toInt := by rw [eI13]; rfl
    have u_I13_16 : (I13 16).toInt = 0 := by rw [eI13]; rfl
    have keI13 := ke_sm ker7 (congrArg Int32.toInt (up_ne eI13 (by decide))) (congrArg Int32.toInt (up_ne eI13 (by decide))) rfl
    refine lv_iconst (v := 1) hx hb dX12_goesOn_173 (by decide) ?_
    rw [hQ]
    exact q_z F hr hlk (I13, J10, R11, L12) hP hD hS ⟨hvI, hvR, hsI, hsR, (show ((0 : Int) ≤ 1 ∧ 1 ≤ (1 : Int)) from by omega), (show ((1 = 1 ∧ (I13 6).toInt = 0) → (I0 3).toInt < (I13 3).toInt) from by omega), (show ((I13 3).toInt ≤ (I13 4).toInt) from by omega), (show ((I13 4).toInt ≤ (I0 1).toInt) from by omega), (show ((¬ (I13 2).toInt = 0) → (I13 3).toInt < (I13 4).toInt) from by omega), (show ((¬ (I0 6).toInt = 0) → (¬ (I13 6).toInt = 0)) from by omega), (show ((I0 3).toInt ≤ (I13 3).toInt) from by omega), (show (1 = 1 → RS a (Int32.toNatClampNeg (I13 16)) I13 (J10 0) R11) from fun _ => rs_op (r := 0) rsr7 eI13), (show (1 = 0 → EN a I13 R11) from fun h => absurd h (by decide)), (show (KE I0 (R0 26) I13 (R11 26)) from keI13)⟩ dX12_goesOn_174 (Nat.le_of_ble_eq_true rfl) (Nat.le_of_ble_eq_true rfl) (nar01 (by decide))
  have lab_99 : ∀ (b0_99 : Int32) (I_99 : Nat → Int32) (J_99 : Nat → Int64) (R_99 : Nat → Nat → Int32) (L_99 : Nat → Nat → Int64) (H : Heap) (locs : List Loc) (ls : Array Slot), InvI Wm_lo Wm_hi I_99 → InvR Wm_rl R_99 → SmF ([2, 3, 4, 5, 6, 7, 11, 13, 14, 15, 16] : List Nat) I0 I_99 → SmF ([26, 27, 28, 29, 30, 33] : List Nat) R0 R_99 → ((5 : Int) ≤ b0_99.toInt ∧ b0_99.toInt ≤ (6 : Int)) → ((I_99 2).toInt = 3) → ((b0_99.toInt = 5 ∧ ((I_99 5).toInt = 43 ∨ (I_99 5).toInt = 45)) ∨ (b0_99.toInt = 6 ∧ ¬ (I_99 5).toInt = 43 ∧ ¬ (I_99 5).toInt = 45)) → ((I_99 3).toInt ≤ (I_99 4).toInt) → ((I_99 4).toInt ≤ (I0 1).toInt) → ((¬ (I_99 2).toInt = 0) → (I_99 3).toInt < (I_99 4).toInt) → ((¬ (I0 6).toInt = 0) → (¬ (I_99 6).toInt = 0)) → ((I0 3).toInt ≤ (I_99 3).toInt) → (I0 = I_99 ∧ J0 = J_99 ∧ R0 = R_99) → va_P G.1 vwCl (Wm G g q I_99 J_99 R_99 L_99) H → va_D A (Wm G g q I_99 J_99 R_99 L_99) → va_S A s.heap H locs → lv_has ls 5 [(0, .ref (g 45))] → W p l e (rmD 3 0 0) s m [.ref (g 45)].toArray below meth c H locs 0 0 Q (F0 m 99 ls [.int b0_99, .ref (g 45)]) := by
    intro b0_99 I_99 J_99 R_99 L_99 H locs ls hvI hvR hsI hsR y0_99 z0_99 z1_99 z2_99 z3_99 z4_99 z5_99 z6_99 xl0_99 hP hD hS hl
    have hv_I_99 := hvI
    have w_I_99_1 := rg (hvI 1 (by decide)) (0) (1800) rfl rfl
    have v_I_99_1 : (I_99 1).toInt = (I0 1).toInt := congrArg Int32.toInt (hsI 1 rfl)
    have w_I_99_2 := rg (hvI 2 (by decide)) (0) (3) rfl rfl
    have w_I_99_3 := rg (hvI 3 (by decide)) (0) (1800) rfl rfl
    have w_I_99_4 := rg (hvI 4 (by decide)) (0) (1800) rfl rfl
    have w_I_99_5 := rg (hvI 5 (by decide)) (0) (9999) rfl rfl
    have w_I_99_6 := rg (hvI 6 (by decide)) (0) (5) rfl rfl
    have w_I_99_11 := rg (hvI 11 (by decide)) (0) (1800) rfl rfl
    have w_I_99_12 := rg (hvI 12 (by decide)) (0) (1) rfl rfl
    have v_I_99_12 : (I_99 12).toInt = (I0 12).toInt := congrArg Int32.toInt (hsI 12 rfl)
    have w_I_99_13 := rg (hvI 13 (by decide)) (0) (9) rfl rfl
    have w_I_99_14 := rg (hvI 14 (by decide)) (0) (8) rfl rfl
    have w_I_99_15 := rg (hvI 15 (by decide)) (0) (499) rfl rfl
    have w_I_99_16 := rg (hvI 16 (by decide)) (0) (1) rfl rfl
    obtain ⟨qI, qJ, qR⟩ := xl0_99
    subst qI
    subst qJ
    subst qR
    refine wvv (As := [.int b0_99]) (rest := []) (b := (g 45)) (d := 2) F hK hP hD hS hA (s_X12_joins l G g q I0 J0 R0 L_99 hvI hvR  b0_99 (show ((1 : Int) ≤ b0_99.toInt ∧ b0_99.toInt ≤ (6 : Int)) from by omega) (by omega) (by omega) a d n (hd) (hn) (hRB)) kmV_X12_joins mlX12_342 clX12 rfl 0 (Wm_at0 G g q I0 J0 R0 L_99) ⟨(Nat.le_of_ble_eq_true rfl), (Nat.le_of_ble_eq_true rfl)⟩ hl.1 rfl (Nat.le_of_ble_eq_true rfl) dX12_goesOn_99 (fun u15 H locs hwr14 hP hD hS => ?_)
    obtain ⟨I16, J17, R18, L19⟩ := u15
    replace hP : va_P G.1 vwCl (Wm G g q I16 J17 R18 L19) H := hP
    replace hD : va_D A (Wm G g q I16 J17 R18 L19) := hD
    obtain ⟨hvI, hvR, tIr14, tRr14, F0r14, F1r14, F2r14, F3r14, F4r14, F5r14, F6r14⟩ := hwr14
    replace F0r14 : ((I16 11).toInt + (I16 15).toInt = (I0 11).toInt + (I0 15).toInt) := F0r14
    replace F1r14 : ((I16 15).toInt ≤ (I0 15).toInt) := F1r14
    replace F2r14 : (∃ n1 : Nat, 1800 * (I0 12).toInt + (I16 11).toInt = ((a : Nat) : Int) + (n1 : Int) ∧ RB d (Int32.toNatClampNeg (I16 15)) n1 a 1 (R0 28) (R0 29) (R0 30) (R0 31) (R0 32) (R0 33) (R18 26)) := F2r14
    replace F3r14 : (∀ i : Nat, (Int32.toNatClampNeg (R0 32 d)) ≤ i → i < (Int32.toNatClampNeg (I16 15)) → ((rkV (R0 33 i) : Nat) : Int) < b0_99.toInt) := F3r14
    replace F4r14 : (nNn (R0 33) (Int32.toNatClampNeg (I16 15)) ≤ nNn (R0 33) (Int32.toNatClampNeg (I0 15))) := F4r14
    replace F5r14 : ((Int32.toNatClampNeg (R0 32 d)) ≤ (Int32.toNatClampNeg (I16 15))) := F5r14
    replace F6r14 : (KE I0 (R0 26) I16 (R18 26)) := F6r14
    replace hvI : InvI Wm_lo Wm_hi I16 := hvI
    replace hvR : InvR Wm_rl R18 := hvR
    replace tIr14 : SmF ([11, 15] : List Nat) I0 I16 := tIr14
    replace tRr14 : SmF ([26, 27] : List Nat) R0 R18 := tRr14
    have hv_I16 := hvI
    have hsI := smF_tr hsI tIr14 (by decide)
    have hsR := smF_tr hsR tRr14 (by decide)
    have u_I16_1 : (I16 1).toInt = (I0 1).toInt := congrArg Int32.toInt (tIr14 1 rfl)
    have u_I16_2 : (I16 2).toInt = (I0 2).toInt := congrArg Int32.toInt (tIr14 2 rfl)
    have u_I16_3 : (I16 3).toInt = (I0 3).toInt := congrArg Int32.toInt (tIr14 3 rfl)
    have u_I16_4 : (I16 4).toInt = (I0 4).toInt := congrArg Int32.toInt (tIr14 4 rfl)
    have u_I16_5 : (I16 5).toInt = (I0 5).toInt := congrArg Int32.toInt (tIr14 5 rfl)
    have u_I16_6 : (I16 6).toInt = (I0 6).toInt := congrArg Int32.toInt (tIr14 6 rfl)
    have w_I16_11 := rg (hvI 11 (by decide)) (0) (1800) rfl rfl
    have u_I16_12 : (I16 12).toInt = (I0 12).toInt := congrArg Int32.toInt (tIr14 12 rfl)
    have u_I16_13 : (I16 13).toInt = (I0 13).toInt := congrArg Int32.toInt (tIr14 13 rfl)
    have u_I16_14 : (I16 14).toInt = (I0 14).toInt := congrArg Int32.toInt (tIr14 14 rfl)
    have w_I16_15 := rg (hvI 15 (by decide)) (0) (499) rfl rfl
    have u_I16_16 : (I16 16).toInt = (I0 16).toInt := congrArg Int32.toInt (tIr14 16 rfl)
    have nr14_0 : ((I16 3).toInt ≤ (I16 4).toInt) := by omega
    have nr14_1 : ((I16 4).toInt ≤ (I0 1).toInt) := by omega
    have nr14_2 : ((¬ (I16 2).toInt = 0) → (I16 3).toInt < (I16 4).toInt) := by omega
    have nr14_3 : ((¬ (I0 6).toInt = 0) → (¬ (I16 6).toInt = 0)) := by omega
    have nr14_4 : ((I0 3).toInt ≤ (I16 3).toInt) := by omega
    clear z2_99 z3_99 z4_99 z5_99 z6_99
    have ker14 := ke_tr (ke_rf I0 (R0 26)) F6r14
    refine lv_aload_n hx hb dX12_goesOn_102 rfl (lv_at hl 0 rfl) ?_
    refine lv_aload_n hx hb dX12_goesOn_103 rfl (lv_at hl 0 rfl) ?_
    refine lv_bipush (v := 43) hx hb dX12_goesOn_104 (by decide) ?_
    refine wvi (As := [.int 43]) (rest := [.ref (g 45)]) (b := (g 45)) (d := 1) F hK hP hD hS hA (s_X12_isSign2 l G g q I16 J17 R18 L19 hvI hvR  43 (by decide)) kmV_X12_isSign mlX12_244 clX12 rfl 0 (Wm_at0 G g q I16 J17 R18 L19) ⟨(Nat.le_of_ble_eq_true rfl), (Nat.le_of_ble_eq_true rfl)⟩ hl.1 rfl (Nat.le_of_ble_eq_true rfl) dX12_goesOn_106 (fun r20 u21 H locs hwr20 hP hD hS => ?_)
    obtain ⟨F0r20, F1r20⟩ := hwr20
    replace F0r20 : ((0 : Int) ≤ r20.toInt ∧ r20.toInt ≤ (1 : Int)) := F0r20
    replace F1r20 : ((r20.toInt = 1 ∧ (I16 2).toInt = 3 ∧ (I16 5).toInt = (43 : Int)) ∨ (r20.toInt = 0 ∧ (¬ (I16 2).toInt = 3 ∨ ¬ (I16 5).toInt = (43 : Int)))) := F1r20
    refine lv_if_eq (tgt := 117) hx hb dX12_goesOn_109 (by decide) (fun c22 => ?_) (fun c22 => ?_)
    · have gc22 : r20.toInt = 0 := congrArg Int32.toInt c22
      refine lv_aload_n hx hb dX12_goesOn_117 rfl (lv_at hl 0 rfl) ?_
      refine lv_bipush (v := 45) hx hb dX12_goesOn_118 (by decide) ?_
      refine wvi (As := [.int 45]) (rest := [.ref (g 45)]) (b := (g 45)) (d := 1) F hK hP hD hS hA (s_X12_isSign2 l G g q I16 J17 R18 L19 hvI hvR  45 (by decide)) kmV_X12_isSign mlX12_244 clX12 rfl 0 (Wm_at0 G g q I16 J17 R18 L19) ⟨(Nat.le_of_ble_eq_true rfl), (Nat.le_of_ble_eq_true rfl)⟩ hl.1 rfl (Nat.le_of_ble_eq_true rfl) dX12_goesOn_120 (fun r23 u24 H locs hwr23 hP hD hS => ?_)
      obtain ⟨F0r23, F1r23⟩ := hwr23
      replace F0r23 : ((0 : Int) ≤ r23.toInt ∧ r23.toInt ≤ (1 : Int)) := F0r23
      replace F1r23 : ((r23.toInt = 1 ∧ (I16 2).toInt = 3 ∧ (I16 5).toInt = (45 : Int)) ∨ (r23.toInt = 0 ∧ (¬ (I16 2).toInt = 3 ∨ ¬ (I16 5).toInt = (45 : Int)))) := F1r23
      refine lv_if_eq (tgt := 131) hx hb dX12_goesOn_123 (by decide) (fun c25 => ?_) (fun c25 => ?_)
      · have gc25 : r23.toInt = 0 := congrArg Int32.toInt c25
        refine lv_aload_n hx hb dX12_goesOn_131 rfl (lv_at hl 0 rfl) ?_
        refine lv_bipush (v := 42) hx hb dX12_goesOn_132 (by decide) ?_
        refine wvi (As := [.int 42]) (rest := [.ref (g 45)]) (b := (g 45)) (d := 1) F hK hP hD hS hA (s_X12_isSign2 l G g q I16 J17 R18 L19 hvI hvR  42 (by decide)) kmV_X12_isSign mlX12_244 clX12 rfl 0 (Wm_at0 G g q I16 J17 R18 L19) ⟨(Nat.le_of_ble_eq_true rfl), (Nat.le_of_ble_eq_true rfl)⟩ hl.1 rfl (Nat.le_of_ble_eq_true rfl) dX12_goesOn_134 (fun r26 u27 H locs hwr26 hP hD hS => ?_)
        obtain ⟨F0r26, F1r26⟩ := hwr26
        replace F0r26 : ((0 : Int) ≤ r26.toInt ∧ r26.toInt ≤ (1 : Int)) := F0r26
        replace F1r26 : ((r26.toInt = 1 ∧ (I16 2).toInt = 3 ∧ (I16 5).toInt = (42 : Int)) ∨ (r26.toInt = 0 ∧ (¬ (I16 2).toInt = 3 ∨ ¬ (I16 5).toInt = (42 : Int)))) := F1r26
        refine lv_if_eq (tgt := 145) hx hb dX12_goesOn_137 (by decide) (fun c28 => ?_) (fun c28 => ?_)
        · have gc28 : r26.toInt = 0 := congrArg Int32.toInt c28
          refine lv_aload_n hx hb dX12_goesOn_145 rfl (lv_at hl 0 rfl) ?_
          refine lv_bipush (v := 47) hx hb dX12_goesOn_146 (by decide) ?_
          refine wvi (As := [.int 47]) (rest := [.ref (g 45)]) (b := (g 45)) (d := 1) F hK hP hD hS hA (s_X12_isSign2 l G g q I16 J17 R18 L19 hvI hvR  47 (by decide)) kmV_X12_isSign mlX12_244 clX12 rfl 0 (Wm_at0 G g q I16 J17 R18 L19) ⟨(Nat.le_of_ble_eq_true rfl), (Nat.le_of_ble_eq_true rfl)⟩ hl.1 rfl (Nat.le_of_ble_eq_true rfl) dX12_goesOn_148 (fun r29 u30 H locs hwr29 hP hD hS => ?_)
          obtain ⟨F0r29, F1r29⟩ := hwr29
          replace F0r29 : ((0 : Int) ≤ r29.toInt ∧ r29.toInt ≤ (1 : Int)) := F0r29
          replace F1r29 : ((r29.toInt = 1 ∧ (I16 2).toInt = 3 ∧ (I16 5).toInt = (47 : Int)) ∨ (r29.toInt = 0 ∧ (¬ (I16 2).toInt = 3 ∨ ¬ (I16 5).toInt = (47 : Int)))) := F1r29
          refine lv_if_eq (tgt := 159) hx hb dX12_goesOn_151 (by decide) (fun c31 => ?_) (fun c31 => ?_)
          · have gc31 : r29.toInt = 0 := congrArg Int32.toInt c31
            refine lv_bipush (v := 14) hx hb dX12_goesOn_159 (by decide) ?_
            exact lab_161 14 I16 J17 R18 L19 _ _ _ hvI hvR hsI hsR (by decide) (show ((I16 2).toInt = 3) from by omega) (show ((I16 15).toInt ≤ (I0 15).toInt) from by omega) (show ((I16 3).toInt ≤ (I16 4).toInt) from by omega) (show ((I16 4).toInt ≤ (I0 1).toInt) from by omega) (show ((¬ (I16 2).toInt = 0) → (I16 3).toInt < (I16 4).toInt) from by omega) (show ((¬ (I0 6).toInt = 0) → (¬ (I16 6).toInt = 0)) from by omega) (show ((I0 3).toInt ≤ (I16 3).toInt) from by omega) (show (JD a d (rkV 14) I16 R18) from jd_k (jd_of (p := b0_99.toInt) (k := 6) hd ho hBY tIr14 tRr14 F0r14 F2r14 F3r14 F4r14 F5r14 (by omega)) (show 6 = rkV 14 from by decide)) (show (KE I0 (R0 26) I16 (R18 26)) from ker14) hP hD hS (lv_sub hl [0] rfl)
          · have gc31 : ¬ (r29.toInt = 0) := fun q0 => c31 (Int32.toInt_inj.mp q0)
            refine lv_bipush (v := 13) hx hb dX12_goesOn_154 (by decide) ?_
            refine lv_goto (tgt := 161) hx hb dX12_goesOn_156 (by decide) ?_
            exact lab_161 13 I16 J17 R18 L19 _ _ _ hvI hvR hsI hsR (by decide) (show ((I16 2).toInt = 3) from by omega) (show ((I16 15).toInt ≤ (I0 15).toInt) from by omega) (show ((I16 3).toInt ≤ (I16 4).toInt) from by omega) (show ((I16 4).toInt ≤ (I0 1).toInt) from by omega) (show ((¬ (I16 2).toInt = 0) → (I16 3).toInt < (I16 4).toInt) from by omega) (show ((¬ (I0 6).toInt = 0) → (¬ (I16 6).toInt = 0)) from by omega) (show ((I0 3).toInt ≤ (I16 3).toInt) from by omega) (show (JD a d (rkV 13) I16 R18) from jd_k (jd_of (p := b0_99.toInt) (k := 6) hd ho hBY tIr14 tRr14 F0r14 F2r14 F3r14 F4r14 F5r14 (by omega)) (show 6 = rkV 13 from by decide)) (show (KE I0 (R0 26) I16 (R18 26)) from ker14) hP hD hS (lv_sub hl [0] rfl)
        · have gc28 : ¬ (r26.toInt = 0) := fun q0 => c28 (Int32.toInt_inj.mp q0)
          refine lv_bipush (v := 12) hx hb dX12_goesOn_140 (by decide) ?_
          refine lv_goto (tgt := 161) hx hb dX12_goesOn_142 (by decide) ?_
          exact lab_161 12 I16 J17 R18 L19 _ _ _ hvI hvR hsI hsR (by decide) (show ((I16 2).toInt = 3) from by omega) (show ((I16 15).toInt ≤ (I0 15).toInt) from by omega) (show ((I16 3).toInt ≤ (I16 4).toInt) from by omega) (show ((I16 4).toInt ≤ (I0 1).toInt) from by omega) (show ((¬ (I16 2).toInt = 0) → (I16 3).toInt < (I16 4).toInt) from by omega) (show ((¬ (I0 6).toInt = 0) → (¬ (I16 6).toInt = 0)) from by omega) (show ((I0 3).toInt ≤ (I16 3).toInt) from by omega) (show (JD a d (rkV 12) I16 R18) from jd_k (jd_of (p := b0_99.toInt) (k := 6) hd ho hBY tIr14 tRr14 F0r14 F2r14 F3r14 F4r14 F5r14 (by omega)) (show 6 = rkV 12 from by decide)) (show (KE I0 (R0 26) I16 (R18 26)) from ker14) hP hD hS (lv_sub hl [0] rfl)
      · have gc25 : ¬ (r23.toInt = 0) := fun q0 => c25 (Int32.toInt_inj.mp q0)
        refine lv_bipush (v := 11) hx hb dX12_goesOn_126 (by decide) ?_
        refine lv_goto (tgt := 161) hx hb dX12_goesOn_128 (by decide) ?_
        exact lab_161 11 I16 J17 R18 L19 _ _ _ hvI hvR hsI hsR (by decide) (show ((I16 2).toInt = 3) from by omega) (show ((I16 15).toInt ≤ (I0 15).toInt) from by omega) (show ((I16 3).toInt ≤ (I16 4).toInt) from by omega) (show ((I16 4).toInt ≤ (I0 1).toInt) from by omega) (show ((¬ (I16 2).toInt = 0) → (I16 3).toInt < (I16 4).toInt) from by omega) (show ((¬ (I0 6).toInt = 0) → (¬ (I16 6).toInt = 0)) from by omega) (show ((I0 3).toInt ≤ (I16 3).toInt) from by omega) (show (JD a d (rkV 11) I16 R18) from jd_k (jd_of (p := b0_99.toInt) (k := 5) hd ho hBY tIr14 tRr14 F0r14 F2r14 F3r14 F4r14 F5r14 (by omega)) (show 5 = rkV 11 from by decide)) (show (KE I0 (R0 26) I16 (R18 26)) from ker14) hP hD hS (lv_sub hl [0] rfl)
    · have gc22 : ¬ (r20.toInt = 0) := fun q0 => c22 (Int32.toInt_inj.mp q0)
      refine lv_bipush (v := 10) hx hb dX12_goesOn_112 (by decide) ?_
      refine lv_goto (tgt := 161) hx hb dX12_goesOn_114 (by decide) ?_
      exact lab_161 10 I16 J17 R18 L19 _ _ _ hvI hvR hsI hsR (by decide) (show ((I16 2).toInt = 3) from by omega) (show ((I16 15).toInt ≤ (I0 15).toInt) from by omega) (show ((I16 3).toInt ≤ (I16 4).toInt) from by omega) (show ((I16 4).toInt ≤ (I0 1).toInt) from by omega) (show ((¬ (I16 2).toInt = 0) → (I16 3).toInt < (I16 4).toInt) from by omega) (show ((¬ (I0 6).toInt = 0) → (¬ (I16 6).toInt = 0)) from by omega) (show ((I0 3).toInt ≤ (I16 3).toInt) from by omega) (show (JD a d (rkV 10) I16 R18) from jd_k (jd_of (p := b0_99.toInt) (k := 5) hd ho hBY tIr14 tRr14 F0r14 F2r14 F3r14 F4r14 F5r14 (by omega)) (show 5 = rkV 10 from by decide)) (show (KE I0 (R0 26) I16 (R18 26)) from ker14) hP hD hS (lv_sub hl [0] rfl)
  have lab_93 : ∀  (I_93 : Nat → Int32) (J_93 : Nat → Int64) (R_93 : Nat → Nat → Int32) (L_93 : Nat → Nat → Int64) (H : Heap) (locs : List Loc) (ls : Array Slot), InvI Wm_lo Wm_hi I_93 → InvR Wm_rl R_93 → SmF ([2, 3, 4, 5, 6, 7, 11, 13, 14, 15, 16] : List Nat) I0 I_93 → SmF ([26, 27, 28, 29, 30, 33] : List Nat) R0 R_93 → ((I_93 2).toInt = 3) → ((I_93 5).toInt = 43 ∨ (I_93 5).toInt = 45) → ((I_93 3).toInt ≤ (I_93 4).toInt) → ((I_93 4).toInt ≤ (I0 1).toInt) → ((¬ (I_93 2).toInt = 0) → (I_93 3).toInt < (I_93 4).toInt) → ((¬ (I0 6).toInt = 0) → (¬ (I_93 6).toInt = 0)) → ((I0 3).toInt ≤ (I_93 3).toInt) → (I0 = I_93 ∧ J0 = J_93 ∧ R0 = R_93) → va_P G.1 vwCl (Wm G g q I_93 J_93 R_93 L_93) H → va_D A (Wm G g q I_93 J_93 R_93 L_93) → va_S A s.heap H locs → lv_has ls 5 [(0, .ref (g 45))] → W p l e (rmD 3 0 0) s m [.ref (g 45)].toArray below meth c H locs 0 0 Q (F0 m 93 ls [.ref (g 45)]) := by
    intro I_93 J_93 R_93 L_93 H locs ls hvI hvR hsI hsR z0_93 z1_93 z2_93 z3_93 z4_93 z5_93 z6_93 xl0_93 hP hD hS hl
    have hv_I_93 := hvI
    have w_I_93_1 := rg (hvI 1 (by decide)) (0) (1800) rfl rfl
    have v_I_93_1 : (I_93 1).toInt = (I0 1).toInt := congrArg Int32.toInt (hsI 1 rfl)
    have w_I_93_2 := rg (hvI 2 (by decide)) (0) (3) rfl rfl
    have w_I_93_3 := rg (hvI 3 (by decide)) (0) (1800) rfl rfl
    have w_I_93_4 := rg (hvI 4 (by decide)) (0) (1800) rfl rfl
    have w_I_93_5 := rg (hvI 5 (by decide)) (0) (9999) rfl rfl
    have w_I_93_6 := rg (hvI 6 (by decide)) (0) (5) rfl rfl
    have w_I_93_11 := rg (hvI 11 (by decide)) (0) (1800) rfl rfl
    have w_I_93_12 := rg (hvI 12 (by decide)) (0) (1) rfl rfl
    have v_I_93_12 : (I_93 12).toInt = (I0 12).toInt := congrArg Int32.toInt (hsI 12 rfl)
    have w_I_93_13 := rg (hvI 13 (by decide)) (0) (9) rfl rfl
    have w_I_93_14 := rg (hvI 14 (by decide)) (0) (8) rfl rfl
    have w_I_93_15 := rg (hvI 15 (by decide)) (0) (499) rfl rfl
    have w_I_93_16 := rg (hvI 16 (by decide)) (0) (1) rfl rfl
    obtain ⟨qI, qJ, qR⟩ := xl0_93
    subst qI
    subst qJ
    subst qR
    refine lv_iconst (v := 5) hx hb dX12_goesOn_93 (by decide) ?_
    refine lv_goto (tgt := 99) hx hb dX12_goesOn_94 (by decide) ?_
    exact lab_99 5 I0 J0 R0 L_93 _ _ _ hvI hvR hsI hsR (by decide) (show ((I0 2).toInt = 3) from by omega) (show ((5 = 5 ∧ ((I0 5).toInt = 43 ∨ (I0 5).toInt = 45)) ∨ (5 = 6 ∧ ¬ (I0 5).toInt = 43 ∧ ¬ (I0 5).toInt = 45)) from by omega) (show ((I0 3).toInt ≤ (I0 4).toInt) from by omega) (show ((I0 4).toInt ≤ (I0 1).toInt) from by omega) (show ((¬ (I0 2).toInt = 0) → (I0 3).toInt < (I0 4).toInt) from by omega) (show ((¬ (I0 6).toInt = 0) → (¬ (I0 6).toInt = 0)) from by omega) (show ((I0 3).toInt ≤ (I0 3).toInt) from by omega) (show (I0 = I0 ∧ J0 = J0 ∧ R0 = R0) from ⟨rfl, rfl, rfl⟩) hP hD hS (lv_sub hl [0] rfl)
  have lab_74 : ∀  (I_74 : Nat → Int32) (J_74 : Nat → Int64) (R_74 : Nat → Nat → Int32) (L_74 : Nat → Nat → Int64) (H : Heap) (locs : List Loc) (ls : Array Slot), InvI Wm_lo Wm_hi I_74 → InvR Wm_rl R_74 → SmF ([2, 3, 4, 5, 6, 7, 11, 13, 14, 15, 16] : List Nat) I0 I_74 → SmF ([26, 27, 28, 29, 30, 33] : List Nat) R0 R_74 → ((I_74 2).toInt = 3) → ((I_74 3).toInt ≤ (I_74 4).toInt) → ((I_74 4).toInt ≤ (I0 1).toInt) → ((¬ (I_74 2).toInt = 0) → (I_74 3).toInt < (I_74 4).toInt) → ((¬ (I0 6).toInt = 0) → (¬ (I_74 6).toInt = 0)) → ((I0 3).toInt ≤ (I_74 3).toInt) → (I0 = I_74 ∧ J0 = J_74 ∧ R0 = R_74) → va_P G.1 vwCl (Wm G g q I_74 J_74 R_74 L_74) H → va_D A (Wm G g q I_74 J_74 R_74 L_74) → va_S A s.heap H locs → lv_has ls 5 [(0, .ref (g 45))] → W p l e (rmD 3 0 0) s m [.ref (g 45)].toArray below meth c H locs 0 0 Q (F0 m 74 ls []) := by
    intro I_74 J_74 R_74 L_74 H locs ls hvI hvR hsI hsR z0_74 z1_74 z2_74 z3_74 z4_74 z5_74 xl0_74 hP hD hS hl
    have hv_I_74 := hvI
    have w_I_74_1 := rg (hvI 1 (by decide)) (0) (1800) rfl rfl
    have v_I_74_1 : (I_74 1).toInt = (I0 1).toInt := congrArg Int32.toInt (hsI 1 rfl)
    have w_I_74_2 := rg (hvI 2 (by decide)) (0) (3) rfl rfl
    have w_I_74_3 := rg (hvI 3 (by decide)) (0) (1800) rfl rfl
    have w_I_74_4 := rg (hvI 4 (by decide)) (0) (1800) rfl rfl
    have w_I_74_5 := rg (hvI 5 (by decide)) (0) (9999) rfl rfl
    have w_I_74_6 := rg (hvI 6 (by decide)) (0) (5) rfl rfl
    have w_I_74_11 := rg (hvI 11 (by decide)) (0) (1800) rfl rfl
    have w_I_74_12 := rg (hvI 12 (by decide)) (0) (1) rfl rfl
    have v_I_74_12 : (I_74 12).toInt = (I0 12).toInt := congrArg Int32.toInt (hsI 12 rfl)
    have w_I_74_13 := rg (hvI 13 (by decide)) (0) (9) rfl rfl
    have w_I_74_14 := rg (hvI 14 (by decide)) (0) (8) rfl rfl
    have w_I_74_15 := rg (hvI 15 (by decide)) (0) (499) rfl rfl
    have w_I_74_16 := rg (hvI 16 (by decide)) (0) (1) rfl rfl
    obtain ⟨qI, qJ, qR⟩ := xl0_74
    subst qI
    subst qJ
    subst qR
    refine lv_aload_n hx hb dX12_goesOn_74 rfl (lv_at hl 0 rfl) ?_
    refine lv_aload_n hx hb dX12_goesOn_75 rfl (lv_at hl 0 rfl) ?_
    refine lv_bipush (v := 43) hx hb dX12_goesOn_76 (by decide) ?_
    refine wvi (As := [.int 43]) (rest := [.ref (g 45)]) (b := (g 45)) (d := 1) F hK hP hD hS hA (s_X12_isSign2 l G g q I0 J0 R0 L_74 hvI hvR  43 (by decide)) kmV_X12_isSign mlX12_244 clX12 rfl 0 (Wm_at0 G g q I0 J0 R0 L_74) ⟨(Nat.le_of_ble_eq_true rfl), (Nat.le_of_ble_eq_true rfl)⟩ hl.1 rfl (Nat.le_of_ble_eq_true rfl) dX12_goesOn_78 (fun r32 u33 H locs hwr32 hP hD hS => ?_)
    obtain ⟨F0r32, F1r32⟩ := hwr32
    replace F0r32 : ((0 : Int) ≤ r32.toInt ∧ r32.toInt ≤ (1 : Int)) := F0r32
    replace F1r32 : ((r32.toInt = 1 ∧ (I0 2).toInt = 3 ∧ (I0 5).toInt = (43 : Int)) ∨ (r32.toInt = 0 ∧ (¬ (I0 2).toInt = 3 ∨ ¬ (I0 5).toInt = (43 : Int)))) := F1r32
    refine lv_if_ne (tgt := 93) hx hb dX12_goesOn_81 (by decide) (fun c34 => ?_) (fun c34 => ?_)
    · have gc34 : ¬ (r32.toInt = 0) := fun q0 => c34 (Int32.toInt_inj.mp q0)
      exact lab_93  I0 J0 R0 L_74 _ _ _ hvI hvR hsI hsR (show ((I0 2).toInt = 3) from by omega) (show ((I0 5).toInt = 43 ∨ (I0 5).toInt = 45) from by omega) (show ((I0 3).toInt ≤ (I0 4).toInt) from by omega) (show ((I0 4).toInt ≤ (I0 1).toInt) from by omega) (show ((¬ (I0 2).toInt = 0) → (I0 3).toInt < (I0 4).toInt) from by omega) (show ((¬ (I0 6).toInt = 0) → (¬ (I0 6).toInt = 0)) from by omega) (show ((I0 3).toInt ≤ (I0 3).toInt) from by omega) (show (I0 = I0 ∧ J0 = J0 ∧ R0 = R0) from ⟨rfl, rfl, rfl⟩) hP hD hS (lv_sub hl [0] rfl)
    · have gc34 : r32.toInt = 0 := congrArg Int32.toInt c34
      refine lv_aload_n hx hb dX12_goesOn_84 rfl (lv_at hl 0 rfl) ?_
      refine lv_bipush (v := 45) hx hb dX12_goesOn_85 (by decide) ?_
      refine wvi (As := [.int 45]) (rest := [.ref (g 45)]) (b := (g 45)) (d := 1) F hK hP hD hS hA (s_X12_isSign2 l G g q I0 J0 R0 L_74 hvI hvR  45 (by decide)) kmV_X12_isSign mlX12_244 clX12 rfl 0 (Wm_at0 G g q I0 J0 R0 L_74) ⟨(Nat.le_of_ble_eq_true rfl), (Nat.le_of_ble_eq_true rfl)⟩ hl.1 rfl (Nat.le_of_ble_eq_true rfl) dX12_goesOn_87 (fun r35 u36 H locs hwr35 hP hD hS => ?_)
      obtain ⟨F0r35, F1r35⟩ := hwr35
      replace F0r35 : ((0 : Int) ≤ r35.toInt ∧ r35.toInt ≤ (1 : Int)) := F0r35
      replace F1r35 : ((r35.toInt = 1 ∧ (I0 2).toInt = 3 ∧ (I0 5).toInt = (45 : Int)) ∨ (r35.toInt = 0 ∧ (¬ (I0 2).toInt = 3 ∨ ¬ (I0 5).toInt = (45 : Int)))) := F1r35
      refine lv_if_eq (tgt := 97) hx hb dX12_goesOn_90 (by decide) (fun c37 => ?_) (fun c37 => ?_)
      · have gc37 : r35.toInt = 0 := congrArg Int32.toInt c37
        refine lv_bipush (v := 6) hx hb dX12_goesOn_97 (by decide) ?_
        exact lab_99 6 I0 J0 R0 L_74 _ _ _ hvI hvR hsI hsR (by decide) (show ((I0 2).toInt = 3) from by omega) (show ((6 = 5 ∧ ((I0 5).toInt = 43 ∨ (I0 5).toInt = 45)) ∨ (6 = 6 ∧ ¬ (I0 5).toInt = 43 ∧ ¬ (I0 5).toInt = 45)) from by omega) (show ((I0 3).toInt ≤ (I0 4).toInt) from by omega) (show ((I0 4).toInt ≤ (I0 1).toInt) from by omega) (show ((¬ (I0 2).toInt = 0) → (I0 3).toInt < (I0 4).toInt) from by omega) (show ((¬ (I0 6).toInt = 0) → (¬ (I0 6).toInt = 0)) from by omega) (show ((I0 3).toInt ≤ (I0 3).toInt) from by omega) (show (I0 = I0 ∧ J0 = J0 ∧ R0 = R0) from ⟨rfl, rfl, rfl⟩) hP hD hS (lv_sub hl [0] rfl)
      · have gc37 : ¬ (r35.toInt = 0) := fun q0 => c37 (Int32.toInt_inj.mp q0)
        exact lab_93  I0 J0 R0 L_74 _ _ _ hvI hvR hsI hsR (show ((I0 2).toInt = 3) from by omega) (show ((I0 5).toInt = 43 ∨ (I0 5).toInt = 45) from by omega) (show ((I0 3).toInt ≤ (I0 4).toInt) from by omega) (show ((I0 4).toInt ≤ (I0 1).toInt) from by omega) (show ((¬ (I0 2).toInt = 0) → (I0 3).toInt < (I0 4).toInt) from by omega) (show ((¬ (I0 6).toInt = 0) → (¬ (I0 6).toInt = 0)) from by omega) (show ((I0 3).toInt ≤ (I0 3).toInt) from by omega) (show (I0 = I0 ∧ J0 = J0 ∧ R0 = R0) from ⟨rfl, rfl, rfl⟩) hP hD hS (lv_sub hl [0] rfl)
  have lab_251 : ∀ (a1_251 : Int32) (b0_251 : Int32) (I_251 : Nat → Int32) (J_251 : Nat → Int64) (R_251 : Nat → Nat → Int32) (L_251 : Nat → Nat → Int64) (H : Heap) (locs : List Loc) (ls : Array Slot), InvI Wm_lo Wm_hi I_251 → InvR Wm_rl R_251 → SmF ([2, 3, 4, 5, 6, 7, 11, 13, 14, 15, 16] : List Nat) I0 I_251 → SmF ([26, 27, 28, 29, 30, 33] : List Nat) R0 R_251 → ((0 : Int) ≤ a1_251.toInt ∧ a1_251.toInt ≤ (8 : Int)) → ((17 : Int) ≤ b0_251.toInt ∧ b0_251.toInt ≤ (19 : Int)) → (a1_251.toInt = (I0 13).toInt - 1) → ((I_251 2).toInt = 3) → ((I_251 15).toInt ≤ (I0 15).toInt) → ((I_251 3).toInt ≤ (I_251 4).toInt) → ((I_251 4).toInt ≤ (I0 1).toInt) → ((¬ (I_251 2).toInt = 0) → (I_251 3).toInt < (I_251 4).toInt) → ((¬ (I0 6).toInt = 0) → (¬ (I_251 6).toInt = 0)) → ((I0 3).toInt ≤ (I_251 3).toInt) → (JD a d 5 I_251 R_251) → ((R_251 29 d).toInt = 0) → (KE I0 (R0 26) I_251 (R_251 26)) → va_P G.1 vwCl (Wm G g q I_251 J_251 R_251 L_251) H → va_D A (Wm G g q I_251 J_251 R_251 L_251) → va_S A s.heap H locs → lv_has ls 5 [(0, .ref (g 45)), (1, .int a1_251)] → W p l e (rmD 3 0 0) s m [.ref (g 45)].toArray below meth c H locs 0 0 Q (F0 m 251 ls [.int b0_251, .ref (g 45)]) := by
    intro a1_251 b0_251 I_251 J_251 R_251 L_251 H locs ls hvI hvR hsI hsR y0_251 y1_251 z0_251 z1_251 z2_251 z3_251 z4_251 z5_251 z6_251 z7_251 xl0_251 xl1_251 xl2_251 hP hD hS hl
    have hv_I_251 := hvI
    have w_I_251_1 := rg (hvI 1 (by decide)) (0) (1800) rfl rfl
    have v_I_251_1 : (I_251 1).toInt = (I0 1).toInt := congrArg Int32.toInt (hsI 1 rfl)
    have w_I_251_2 := rg (hvI 2 (by decide)) (0) (3) rfl rfl
    have w_I_251_3 := rg (hvI 3 (by decide)) (0) (1800) rfl rfl
    have w_I_251_4 := rg (hvI 4 (by decide)) (0) (1800) rfl rfl
    have w_I_251_5 := rg (hvI 5 (by decide)) (0) (9999) rfl rfl
    have w_I_251_6 := rg (hvI 6 (by decide)) (0) (5) rfl rfl
    have w_I_251_11 := rg (hvI 11 (by decide)) (0) (1800) rfl rfl
    have w_I_251_12 := rg (hvI 12 (by decide)) (0) (1) rfl rfl
    have v_I_251_12 : (I_251 12).toInt = (I0 12).toInt := congrArg Int32.toInt (hsI 12 rfl)
    have w_I_251_13 := rg (hvI 13 (by decide)) (0) (9) rfl rfl
    have w_I_251_14 := rg (hvI 14 (by decide)) (0) (8) rfl rfl
    have w_I_251_15 := rg (hvI 15 (by decide)) (0) (499) rfl rfl
    have w_I_251_16 := rg (hvI 16 (by decide)) (0) (1) rfl rfl
    refine wvv (As := [.int b0_251]) (rest := []) (b := (g 45)) (d := 1) F hK hP hD hS hA (s_X12_holdsBack l G g q I_251 J_251 R_251 L_251 hvI hvR  b0_251 (show ((0 : Int) ≤ b0_251.toInt ∧ b0_251.toInt ≤ (22 : Int)) from by omega) (by omega)) kmV_X12_holdsBack mlX12_336 clX12 rfl 0 (Wm_at0 G g q I_251 J_251 R_251 L_251) ⟨(Nat.le_of_ble_eq_true rfl), (Nat.le_of_ble_eq_true rfl)⟩ hl.1 rfl (Nat.le_of_ble_eq_true rfl) dX12_goesOn_251 (fun u39 H locs hwr38 hP hD hS => ?_)
    obtain ⟨I40, J41, R42, L43⟩ := u39
    replace hP : va_P G.1 vwCl (Wm G g q I40 J41 R42 L43) H := hP
    replace hD : va_D A (Wm G g q I40 J41 R42 L43) := hD
    obtain ⟨hvI, hvR, tIr38, tRr38, F0r38, F1r38⟩ := hwr38
    replace F0r38 : ((I40 15).toInt = (I_251 15).toInt + 1) := F0r38
    replace F1r38 : (R42 33 = upd (R_251 33) (Int32.toNatClampNeg (I_251 15)) b0_251) := F1r38
    replace hvI : InvI Wm_lo Wm_hi I40 := hvI
    replace hvR : InvR Wm_rl R42 := hvR
    replace tIr38 : SmF ([15] : List Nat) I_251 I40 := tIr38
    replace tRr38 : SmF ([33] : List Nat) R_251 R42 := tRr38
    have hv_I40 := hvI
    have hsI := smF_tr hsI tIr38 (by decide)
    have hsR := smF_tr hsR tRr38 (by decide)
    have u_I40_1 : (I40 1).toInt = (I_251 1).toInt := congrArg Int32.toInt (tIr38 1 rfl)
    have u_I40_2 : (I40 2).toInt = (I_251 2).toInt := congrArg Int32.toInt (tIr38 2 rfl)
    have u_I40_3 : (I40 3).toInt = (I_251 3).toInt := congrArg Int32.toInt (tIr38 3 rfl)
    have u_I40_4 : (I40 4).toInt = (I_251 4).toInt := congrArg Int32.toInt (tIr38 4 rfl)
    have u_I40_5 : (I40 5).toInt = (I_251 5).toInt := congrArg Int32.toInt (tIr38 5 rfl)
    have u_I40_6 : (I40 6).toInt = (I_251 6).toInt := congrArg Int32.toInt (tIr38 6 rfl)
    have u_I40_11 : (I40 11).toInt = (I_251 11).toInt := congrArg Int32.toInt (tIr38 11 rfl)
    have u_I40_12 : (I40 12).toInt = (I_251 12).toInt := congrArg Int32.toInt (tIr38 12 rfl)
    have u_I40_13 : (I40 13).toInt = (I_251 13).toInt := congrArg Int32.toInt (tIr38 13 rfl)
    have u_I40_14 : (I40 14).toInt = (I_251 14).toInt := congrArg Int32.toInt (tIr38 14 rfl)
    have w_I40_15 := rg (hvI 15 (by decide)) (0) (499) rfl rfl
    have u_I40_16 : (I40 16).toInt = (I_251 16).toInt := congrArg Int32.toInt (tIr38 16 rfl)
    have nr38_0 : ((I40 3).toInt ≤ (I40 4).toInt) := by omega
    have nr38_1 : ((I40 4).toInt ≤ (I0 1).toInt) := by omega
    have nr38_2 : ((¬ (I40 2).toInt = 0) → (I40 3).toInt < (I40 4).toInt) := by omega
    have nr38_3 : ((¬ (I0 6).toInt = 0) → (¬ (I40 6).toInt = 0)) := by omega
    have nr38_4 : ((I0 3).toInt ≤ (I40 3).toInt) := by omega
    clear z3_251 z4_251 z5_251 z6_251 z7_251
    have ker38 := ke_sm xl2_251 (congrArg Int32.toInt (tIr38 12 rfl)) (congrArg Int32.toInt (tIr38 11 rfl)) (tRr38 26 rfl)
    refine lv_aload_n hx hb dX12_goesOn_254 rfl (lv_at hl 0 rfl) ?_
    refine g_get F hK hP 0 (Wm_at0 G g q I40 J41 R42 L43) clX12 46 (by decide) flX12_152 rfl dX12_goesOn_255 ?_
    refine lv_iload_n hx hb dX12_goesOn_258 rfl (lv_at hl 1 rfl) ?_
    refine lv_iconst (v := 1) hx hb dX12_goesOn_259 (by decide) ?_
    refine p_row (W1 := fun y => Wm G g q I40 J41 y L43) (n := 29) F hK hP hD hS 33 (Wm_at33 G g q I40 J41 R42 L43) (in_of (by omega)) dX12_goesOn_260 (Wm_rowR29 G g q I40 J41 R42 L43) (fun R44 H locs eR44 hP hD hS => ?_)
    have hvR : InvR Wm_rl R44 := inv_upR hvR 29 eR44 (upd_in (hvR 29 (by decide)) (by decide))
    have hsR := smF_up hsR eR44 (by decide)
    have keR44 := ke_sm ker38 rfl rfl (up_ne eR44 (by decide))
    have rmR44 := rm_cmp (R' := R44) xl0_251 (rk_4 (by omega)) xl1_251 (by omega) (ne_22 (by omega)) (by omega) (by omega) tIr38 tRr38 F0r38 F1r38 (by rw [eR44, show Int32.toNatClampNeg a1_251 = d from cl_n (by omega)])
    have hstR44 : (I0 3).toInt < (I40 4).toInt := by omega
    refine lv_aload_n hx hb dX12_goesOn_261 rfl (lv_at hl 0 rfl) ?_
    refine wvv (As := []) (rest := []) (b := (g 45)) (d := 2) F hK hP hD hS hA (s_X12_ahead2 l G g q I40 J41 R44 L43 hvI hvR   (by omega) (by omega) (by omega)) kmV_X12_ahead mlX12_247 clX12 rfl 0 (Wm_at0 G g q I40 J41 R44 L43) ⟨(Nat.le_of_ble_eq_true rfl), (Nat.le_of_ble_eq_true rfl)⟩ hl.1 rfl (Nat.le_of_ble_eq_true rfl) dX12_goesOn_262 (fun u46 H locs hwr45 hP hD hS => ?_)
    obtain ⟨I47, J48, R49, L50⟩ := u46
    replace hP : va_P G.1 vwCl (Wm G g q I47 J48 R49 L50) H := hP
    replace hD : va_D A (Wm G g q I47 J48 R49 L50) := hD
    obtain ⟨hvI, hvR, tIr45, tRr45, F0r45, F1r45, F2r45, F3r45, F4r45, F5r45, F6r45, F7r45, F8r45⟩ := hwr45
    replace F0r45 : ((I40 4).toInt ≤ (I47 3).toInt) := F0r45
    replace F1r45 : ((I47 3).toInt ≤ (I47 4).toInt) := F1r45
    replace F2r45 : ((I47 4).toInt ≤ (I40 1).toInt) := F2r45
    replace F3r45 : ((¬ (I47 2).toInt = 0) → (I47 3).toInt < (I47 4).toInt) := F3r45
    replace F4r45 : ((¬ (I40 6).toInt = 0) → (¬ (I47 6).toInt = 0)) := F4r45
    replace F5r45 : ((I40 3).toInt ≤ (I47 3).toInt) := F5r45
    replace F6r45 : (TL I47 (R44 0)) := F6r45
    replace F7r45 : (WB I47 (J48 0)) := F7r45
    replace F8r45 : (TL I40 (R44 0) → (I40 2).toInt = 1 → (I47 6).toInt = 0 → ((I47 2).toInt = 1 ∨ (I47 2).toInt = 2) → (I40 4).toInt + 1 ≤ (I47 3).toInt) := F8r45
    replace hvI : InvI Wm_lo Wm_hi I47 := hvI
    replace hvR : InvR Wm_rl R49 := hvR
    replace tIr45 : SmF ([2, 3, 4, 5, 6, 7] : List Nat) I40 I47 := tIr45
    replace tRr45 : SmF ([] : List Nat) R44 R49 := tRr45
    have hv_I47 := hvI
    have hsI := smF_tr hsI tIr45 (by decide)
    have hsR := smF_tr hsR tRr45 (by decide)
    have u_I47_1 : (I47 1).toInt = (I40 1).toInt := congrArg Int32.toInt (tIr45 1 rfl)
    have w_I47_2 := rg (hvI 2 (by decide)) (0) (3) rfl rfl
    have w_I47_3 := rg (hvI 3 (by decide)) (0) (1800) rfl rfl
    have w_I47_4 := rg (hvI 4 (by decide)) (0) (1800) rfl rfl
    have w_I47_5 := rg (hvI 5 (by decide)) (0) (9999) rfl rfl
    have w_I47_6 := rg (hvI 6 (by decide)) (0) (5) rfl rfl
    have u_I47_11 : (I47 11).toInt = (I40 11).toInt := congrArg Int32.toInt (tIr45 11 rfl)
    have u_I47_12 : (I47 12).toInt = (I40 12).toInt := congrArg Int32.toInt (tIr45 12 rfl)
    have u_I47_13 : (I47 13).toInt = (I40 13).toInt := congrArg Int32.toInt (tIr45 13 rfl)
    have u_I47_14 : (I47 14).toInt = (I40 14).toInt := congrArg Int32.toInt (tIr45 14 rfl)
    have u_I47_15 : (I47 15).toInt = (I40 15).toInt := congrArg Int32.toInt (tIr45 15 rfl)
    have u_I47_16 : (I47 16).toInt = (I40 16).toInt := congrArg Int32.toInt (tIr45 16 rfl)
    have nr45_0 : ((I47 3).toInt ≤ (I47 4).toInt) := by omega
    have nr45_1 : ((I47 4).toInt ≤ (I0 1).toInt) := by omega
    have nr45_2 : ((¬ (I47 2).toInt = 0) → (I47 3).toInt < (I47 4).toInt) := by omega
    have nr45_3 : ((¬ (I0 6).toInt = 0) → (¬ (I47 6).toInt = 0)) := by omega
    have nr45_4 : ((I0 3).toInt ≤ (I47 3).toInt) := by omega
    clear nr38_0 nr38_1 nr38_2 nr38_3 nr38_4 F1r45 F2r45 F3r45 F4r45 F5r45
    have ker45 := ke_sm keR44 (congrArg Int32.toInt (tIr45 12 rfl)) (congrArg Int32.toInt (tIr45 11 rfl)) (tRr45 26 rfl)
    have rsr45 := rs_ahead rmR44 tIr45 tRr45 F0r45 F6r45 F7r45 F8r45
    refine lv_aload_n hx hb dX12_goesOn_265 rfl (lv_at hl 0 rfl) ?_
    refine lv_iconst (v := 0) hx hb dX12_goesOn_266 (by decide) ?_
    refine p_fld (W1 := fun y => Wm G g q y J48 R49 L50) (n := 16) (v := 0) F hK hP hD hS 0 (Wm_at0 G g q I47 J48 R49 L50) clX12 54 (by decide) flX12_176 rfl (nar01 (by decide)) rfl (Nat.le_of_ble_eq_true rfl) dX12_goesOn_267 (Wm_setI16 G g q I47 J48 R49 L50 _) (fun I51 H locs eI51 hP hD hS => ?_)
    have hvI : InvI Wm_lo Wm_hi I51 := inv_upI hvI 16 eI51 (by decide)
    have hsI := smF_up hsI eI51 (by decide)
    have hv_I51 := hvI
    have u_I51_1 : (I51 1).toInt = (I47 1).toInt := by rw [eI51]; rfl
    have u_I51_2 : (I51 2).toInt = (I47 2).toInt := by rw [eI51]; rfl
    have u_I51_3 : (I51 3).toInt = (I47 3).toInt := by rw [eI51]; rfl
    have u_I51_4 : (I51 4).toInt = (I47 4).toInt := by rw [eI51]; rfl
    have u_I51_5 : (I51 5).toInt = (I47 5).toInt := by rw [eI51]; rfl
    have u_I51_6 : (I51 6).toInt = (I47 6).toInt := by rw [eI51]; rfl
    have u_I51_11 : (I51 11).toInt = (I47 11).toInt := by rw [eI51]; rfl
    have u_I51_12 : (I51 12).toInt = (I47 12).toInt := by rw [eI51]; rfl
    have u_I51_13 : (I51 13).toInt = (I47 13).toInt := by rw [eI51]; rfl
    have u_I51_14 : (I51 14).toInt = (I47 14).toInt := by rw [eI51]; rfl
    have u_I51_15 : (I51 15).toInt = (I47 15).toInt := by rw [eI51]; rfl
    have u_I51_16 : (I51 16).toInt = 0 := by rw [eI51]; rfl
    have keI51 := ke_sm ker45 (congrArg Int32.toInt (up_ne eI51 (by decide))) (congrArg Int32.toInt (up_ne eI51 (by decide))) rfl
    refine lv_iconst (v := 1) hx hb dX12_goesOn_270 (by decide) ?_
    rw [hQ]
    exact q_z F hr hlk (I51, J48, R49, L50) hP hD hS ⟨hvI, hvR, hsI, hsR, (show ((0 : Int) ≤ 1 ∧ 1 ≤ (1 : Int)) from by omega), (show ((1 = 1 ∧ (I51 6).toInt = 0) → (I0 3).toInt < (I51 3).toInt) from by omega), (show ((I51 3).toInt ≤ (I51 4).toInt) from by omega), (show ((I51 4).toInt ≤ (I0 1).toInt) from by omega), (show ((¬ (I51 2).toInt = 0) → (I51 3).toInt < (I51 4).toInt) from by omega), (show ((¬ (I0 6).toInt = 0) → (¬ (I51 6).toInt = 0)) from by omega), (show ((I0 3).toInt ≤ (I51 3).toInt) from by omega), (show (1 = 1 → RS a (Int32.toNatClampNeg (I51 16)) I51 (J48 0) R49) from fun _ => rs_op (r := 0) rsr45 eI51), (show (1 = 0 → EN a I51 R49) from fun h => absurd h (by decide)), (show (KE I0 (R0 26) I51 (R49 26)) from keI51)⟩ dX12_goesOn_271 (Nat.le_of_ble_eq_true rfl) (Nat.le_of_ble_eq_true rfl) (nar01 (by decide))
  have lab_215 : ∀ (a1_215 : Int32) (I_215 : Nat → Int32) (J_215 : Nat → Int64) (R_215 : Nat → Nat → Int32) (L_215 : Nat → Nat → Int64) (H : Heap) (locs : List Loc) (ls : Array Slot), InvI Wm_lo Wm_hi I_215 → InvR Wm_rl R_215 → SmF ([2, 3, 4, 5, 6, 7, 11, 13, 14, 15, 16] : List Nat) I0 I_215 → SmF ([26, 27, 28, 29, 30, 33] : List Nat) R0 R_215 → ((0 : Int) ≤ a1_215.toInt ∧ a1_215.toInt ≤ (8 : Int)) → (a1_215.toInt = (I0 13).toInt - 1) → ((I_215 2).toInt = 3) → ((I_215 3).toInt ≤ (I_215 4).toInt) → ((I_215 4).toInt ≤ (I0 1).toInt) → ((¬ (I_215 2).toInt = 0) → (I_215 3).toInt < (I_215 4).toInt) → ((¬ (I0 6).toInt = 0) → (¬ (I_215 6).toInt = 0)) → ((I0 3).toInt ≤ (I_215 3).toInt) → (I0 = I_215 ∧ J0 = J_215 ∧ R0 = R_215) → ((R0 29 d).toInt = 0) → va_P G.1 vwCl (Wm G g q I_215 J_215 R_215 L_215) H → va_D A (Wm G g q I_215 J_215 R_215 L_215) → va_S A s.heap H locs → lv_has ls 5 [(0, .ref (g 45)), (1, .int a1_215)] → W p l e (rmD 3 0 0) s m [.ref (g 45)].toArray below meth c H locs 0 0 Q (F0 m 215 ls []) := by
    intro a1_215 I_215 J_215 R_215 L_215 H locs ls hvI hvR hsI hsR y0_215 z0_215 z1_215 z2_215 z3_215 z4_215 z5_215 z6_215 xl0_215 xl1_215 hP hD hS hl
    have hv_I_215 := hvI
    have w_I_215_1 := rg (hvI 1 (by decide)) (0) (1800) rfl rfl
    have v_I_215_1 : (I_215 1).toInt = (I0 1).toInt := congrArg Int32.toInt (hsI 1 rfl)
    have w_I_215_2 := rg (hvI 2 (by decide)) (0) (3) rfl rfl
    have w_I_215_3 := rg (hvI 3 (by decide)) (0) (1800) rfl rfl
    have w_I_215_4 := rg (hvI 4 (by decide)) (0) (1800) rfl rfl
    have w_I_215_5 := rg (hvI 5 (by decide)) (0) (9999) rfl rfl
    have w_I_215_6 := rg (hvI 6 (by decide)) (0) (5) rfl rfl
    have w_I_215_11 := rg (hvI 11 (by decide)) (0) (1800) rfl rfl
    have w_I_215_12 := rg (hvI 12 (by decide)) (0) (1) rfl rfl
    have v_I_215_12 : (I_215 12).toInt = (I0 12).toInt := congrArg Int32.toInt (hsI 12 rfl)
    have w_I_215_13 := rg (hvI 13 (by decide)) (0) (9) rfl rfl
    have w_I_215_14 := rg (hvI 14 (by decide)) (0) (8) rfl rfl
    have w_I_215_15 := rg (hvI 15 (by decide)) (0) (499) rfl rfl
    have w_I_215_16 := rg (hvI 16 (by decide)) (0) (1) rfl rfl
    obtain ⟨qI, qJ, qR⟩ := xl0_215
    subst qI
    subst qJ
    subst qR
    refine lv_aload_n hx hb dX12_goesOn_215 rfl (lv_at hl 0 rfl) ?_
    refine lv_iconst (v := 5) hx hb dX12_goesOn_216 (by decide) ?_
    refine wvv (As := [.int 5]) (rest := []) (b := (g 45)) (d := 2) F hK hP hD hS hA (s_X12_joins l G g q I0 J0 R0 L_215 hvI hvR  5 (by decide) (by omega) (by omega) a d n (hd) (hn) (hRB)) kmV_X12_joins mlX12_342 clX12 rfl 0 (Wm_at0 G g q I0 J0 R0 L_215) ⟨(Nat.le_of_ble_eq_true rfl), (Nat.le_of_ble_eq_true rfl)⟩ hl.1 rfl (Nat.le_of_ble_eq_true rfl) dX12_goesOn_217 (fun u53 H locs hwr52 hP hD hS => ?_)
    obtain ⟨I54, J55, R56, L57⟩ := u53
    replace hP : va_P G.1 vwCl (Wm G g q I54 J55 R56 L57) H := hP
    replace hD : va_D A (Wm G g q I54 J55 R56 L57) := hD
    obtain ⟨hvI, hvR, tIr52, tRr52, F0r52, F1r52, F2r52, F3r52, F4r52, F5r52, F6r52⟩ := hwr52
    replace F0r52 : ((I54 11).toInt + (I54 15).toInt = (I0 11).toInt + (I0 15).toInt) := F0r52
    replace F1r52 : ((I54 15).toInt ≤ (I0 15).toInt) := F1r52
    replace F2r52 : (∃ n1 : Nat, 1800 * (I0 12).toInt + (I54 11).toInt = ((a : Nat) : Int) + (n1 : Int) ∧ RB d (Int32.toNatClampNeg (I54 15)) n1 a 1 (R0 28) (R0 29) (R0 30) (R0 31) (R0 32) (R0 33) (R56 26)) := F2r52
    replace F3r52 : (∀ i : Nat, (Int32.toNatClampNeg (R0 32 d)) ≤ i → i < (Int32.toNatClampNeg (I54 15)) → ((rkV (R0 33 i) : Nat) : Int) < (5 : Int)) := F3r52
    replace F4r52 : (nNn (R0 33) (Int32.toNatClampNeg (I54 15)) ≤ nNn (R0 33) (Int32.toNatClampNeg (I0 15))) := F4r52
    replace F5r52 : ((Int32.toNatClampNeg (R0 32 d)) ≤ (Int32.toNatClampNeg (I54 15))) := F5r52
    replace F6r52 : (KE I0 (R0 26) I54 (R56 26)) := F6r52
    replace hvI : InvI Wm_lo Wm_hi I54 := hvI
    replace hvR : InvR Wm_rl R56 := hvR
    replace tIr52 : SmF ([11, 15] : List Nat) I0 I54 := tIr52
    replace tRr52 : SmF ([26, 27] : List Nat) R0 R56 := tRr52
    have hv_I54 := hvI
    have hsI := smF_tr hsI tIr52 (by decide)
    have hsR := smF_tr hsR tRr52 (by decide)
    have u_I54_1 : (I54 1).toInt = (I0 1).toInt := congrArg Int32.toInt (tIr52 1 rfl)
    have u_I54_2 : (I54 2).toInt = (I0 2).toInt := congrArg Int32.toInt (tIr52 2 rfl)
    have u_I54_3 : (I54 3).toInt = (I0 3).toInt := congrArg Int32.toInt (tIr52 3 rfl)
    have u_I54_4 : (I54 4).toInt = (I0 4).toInt := congrArg Int32.toInt (tIr52 4 rfl)
    have u_I54_5 : (I54 5).toInt = (I0 5).toInt := congrArg Int32.toInt (tIr52 5 rfl)
    have u_I54_6 : (I54 6).toInt = (I0 6).toInt := congrArg Int32.toInt (tIr52 6 rfl)
    have w_I54_11 := rg (hvI 11 (by decide)) (0) (1800) rfl rfl
    have u_I54_12 : (I54 12).toInt = (I0 12).toInt := congrArg Int32.toInt (tIr52 12 rfl)
    have u_I54_13 : (I54 13).toInt = (I0 13).toInt := congrArg Int32.toInt (tIr52 13 rfl)
    have u_I54_14 : (I54 14).toInt = (I0 14).toInt := congrArg Int32.toInt (tIr52 14 rfl)
    have w_I54_15 := rg (hvI 15 (by decide)) (0) (499) rfl rfl
    have u_I54_16 : (I54 16).toInt = (I0 16).toInt := congrArg Int32.toInt (tIr52 16 rfl)
    have nr52_0 : ((I54 3).toInt ≤ (I54 4).toInt) := by omega
    have nr52_1 : ((I54 4).toInt ≤ (I0 1).toInt) := by omega
    have nr52_2 : ((¬ (I54 2).toInt = 0) → (I54 3).toInt < (I54 4).toInt) := by omega
    have nr52_3 : ((¬ (I0 6).toInt = 0) → (¬ (I54 6).toInt = 0)) := by omega
    have nr52_4 : ((I0 3).toInt ≤ (I54 3).toInt) := by omega
    clear z2_215 z3_215 z4_215 z5_215 z6_215
    have ker52 := ke_tr (ke_rf I0 (R0 26)) F6r52
    refine lv_aload_n hx hb dX12_goesOn_220 rfl (lv_at hl 0 rfl) ?_
    refine lv_aload_n hx hb dX12_goesOn_221 rfl (lv_at hl 0 rfl) ?_
    refine lv_bipush (v := 60) hx hb dX12_goesOn_222 (by decide) ?_
    refine wvi (As := [.int 60]) (rest := [.ref (g 45)]) (b := (g 45)) (d := 1) F hK hP hD hS hA (s_X12_isSign2 l G g q I54 J55 R56 L57 hvI hvR  60 (by decide)) kmV_X12_isSign mlX12_244 clX12 rfl 0 (Wm_at0 G g q I54 J55 R56 L57) ⟨(Nat.le_of_ble_eq_true rfl), (Nat.le_of_ble_eq_true rfl)⟩ hl.1 rfl (Nat.le_of_ble_eq_true rfl) dX12_goesOn_224 (fun r58 u59 H locs hwr58 hP hD hS => ?_)
    obtain ⟨F0r58, F1r58⟩ := hwr58
    replace F0r58 : ((0 : Int) ≤ r58.toInt ∧ r58.toInt ≤ (1 : Int)) := F0r58
    replace F1r58 : ((r58.toInt = 1 ∧ (I54 2).toInt = 3 ∧ (I54 5).toInt = (60 : Int)) ∨ (r58.toInt = 0 ∧ (¬ (I54 2).toInt = 3 ∨ ¬ (I54 5).toInt = (60 : Int)))) := F1r58
    refine lv_if_eq (tgt := 235) hx hb dX12_goesOn_227 (by decide) (fun c60 => ?_) (fun c60 => ?_)
    · have gc60 : r58.toInt = 0 := congrArg Int32.toInt c60
      refine lv_aload_n hx hb dX12_goesOn_235 rfl (lv_at hl 0 rfl) ?_
      refine lv_bipush (v := 62) hx hb dX12_goesOn_236 (by decide) ?_
      refine wvi (As := [.int 62]) (rest := [.ref (g 45)]) (b := (g 45)) (d := 1) F hK hP hD hS hA (s_X12_isSign2 l G g q I54 J55 R56 L57 hvI hvR  62 (by decide)) kmV_X12_isSign mlX12_244 clX12 rfl 0 (Wm_at0 G g q I54 J55 R56 L57) ⟨(Nat.le_of_ble_eq_true rfl), (Nat.le_of_ble_eq_true rfl)⟩ hl.1 rfl (Nat.le_of_ble_eq_true rfl) dX12_goesOn_238 (fun r61 u62 H locs hwr61 hP hD hS => ?_)
      obtain ⟨F0r61, F1r61⟩ := hwr61
      replace F0r61 : ((0 : Int) ≤ r61.toInt ∧ r61.toInt ≤ (1 : Int)) := F0r61
      replace F1r61 : ((r61.toInt = 1 ∧ (I54 2).toInt = 3 ∧ (I54 5).toInt = (62 : Int)) ∨ (r61.toInt = 0 ∧ (¬ (I54 2).toInt = 3 ∨ ¬ (I54 5).toInt = (62 : Int)))) := F1r61
      refine lv_if_eq (tgt := 249) hx hb dX12_goesOn_241 (by decide) (fun c63 => ?_) (fun c63 => ?_)
      · have gc63 : r61.toInt = 0 := congrArg Int32.toInt c63
        refine lv_bipush (v := 19) hx hb dX12_goesOn_249 (by decide) ?_
        exact lab_251 a1_215 19 I54 J55 R56 L57 _ _ _ hvI hvR hsI hsR (show ((0 : Int) ≤ a1_215.toInt ∧ a1_215.toInt ≤ (8 : Int)) from by omega) (by decide) (show (a1_215.toInt = (I0 13).toInt - 1) from by omega) (show ((I54 2).toInt = 3) from by omega) (show ((I54 15).toInt ≤ (I0 15).toInt) from by omega) (show ((I54 3).toInt ≤ (I54 4).toInt) from by omega) (show ((I54 4).toInt ≤ (I0 1).toInt) from by omega) (show ((¬ (I54 2).toInt = 0) → (I54 3).toInt < (I54 4).toInt) from by omega) (show ((¬ (I0 6).toInt = 0) → (¬ (I54 6).toInt = 0)) from by omega) (show ((I0 3).toInt ≤ (I54 3).toInt) from by omega) (show (JD a d 5 I54 R56) from jd_of (k := 5) hd ho hBY tIr52 tRr52 F0r52 F2r52 F3r52 F4r52 F5r52 rfl) (show ((R56 29 d).toInt = 0) from (congrArg Int32.toInt (congrFun (tRr52 29 rfl) d)).trans xl1_215) (show (KE I0 (R0 26) I54 (R56 26)) from ker52) hP hD hS (lv_sub hl [0, 1] rfl)
      · have gc63 : ¬ (r61.toInt = 0) := fun q0 => c63 (Int32.toInt_inj.mp q0)
        refine lv_bipush (v := 18) hx hb dX12_goesOn_244 (by decide) ?_
        refine lv_goto (tgt := 251) hx hb dX12_goesOn_246 (by decide) ?_
        exact lab_251 a1_215 18 I54 J55 R56 L57 _ _ _ hvI hvR hsI hsR (show ((0 : Int) ≤ a1_215.toInt ∧ a1_215.toInt ≤ (8 : Int)) from by omega) (by decide) (show (a1_215.toInt = (I0 13).toInt - 1) from by omega) (show ((I54 2).toInt = 3) from by omega) (show ((I54 15).toInt ≤ (I0 15).toInt) from by omega) (show ((I54 3).toInt ≤ (I54 4).toInt) from by omega) (show ((I54 4).toInt ≤ (I0 1).toInt) from by omega) (show ((¬ (I54 2).toInt = 0) → (I54 3).toInt < (I54 4).toInt) from by omega) (show ((¬ (I0 6).toInt = 0) → (¬ (I54 6).toInt = 0)) from by omega) (show ((I0 3).toInt ≤ (I54 3).toInt) from by omega) (show (JD a d 5 I54 R56) from jd_of (k := 5) hd ho hBY tIr52 tRr52 F0r52 F2r52 F3r52 F4r52 F5r52 rfl) (show ((R56 29 d).toInt = 0) from (congrArg Int32.toInt (congrFun (tRr52 29 rfl) d)).trans xl1_215) (show (KE I0 (R0 26) I54 (R56 26)) from ker52) hP hD hS (lv_sub hl [0, 1] rfl)
    · have gc60 : ¬ (r58.toInt = 0) := fun q0 => c60 (Int32.toInt_inj.mp q0)
      refine lv_bipush (v := 17) hx hb dX12_goesOn_230 (by decide) ?_
      refine lv_goto (tgt := 251) hx hb dX12_goesOn_232 (by decide) ?_
      exact lab_251 a1_215 17 I54 J55 R56 L57 _ _ _ hvI hvR hsI hsR (show ((0 : Int) ≤ a1_215.toInt ∧ a1_215.toInt ≤ (8 : Int)) from by omega) (by decide) (show (a1_215.toInt = (I0 13).toInt - 1) from by omega) (show ((I54 2).toInt = 3) from by omega) (show ((I54 15).toInt ≤ (I0 15).toInt) from by omega) (show ((I54 3).toInt ≤ (I54 4).toInt) from by omega) (show ((I54 4).toInt ≤ (I0 1).toInt) from by omega) (show ((¬ (I54 2).toInt = 0) → (I54 3).toInt < (I54 4).toInt) from by omega) (show ((¬ (I0 6).toInt = 0) → (¬ (I54 6).toInt = 0)) from by omega) (show ((I0 3).toInt ≤ (I54 3).toInt) from by omega) (show (JD a d 5 I54 R56) from jd_of (k := 5) hd ho hBY tIr52 tRr52 F0r52 F2r52 F3r52 F4r52 F5r52 rfl) (show ((R56 29 d).toInt = 0) from (congrArg Int32.toInt (congrFun (tRr52 29 rfl) d)).trans xl1_215) (show (KE I0 (R0 26) I54 (R56 26)) from ker52) hP hD hS (lv_sub hl [0, 1] rfl)
  have lab_359 : ∀ (a1_359 : Int32) (b0_359 : Int32) (I_359 : Nat → Int32) (J_359 : Nat → Int64) (R_359 : Nat → Nat → Int32) (L_359 : Nat → Nat → Int64) (H : Heap) (locs : List Loc) (ls : Array Slot), InvI Wm_lo Wm_hi I_359 → InvR Wm_rl R_359 → SmF ([2, 3, 4, 5, 6, 7, 11, 13, 14, 15, 16] : List Nat) I0 I_359 → SmF ([26, 27, 28, 29, 30, 33] : List Nat) R0 R_359 → ((0 : Int) ≤ a1_359.toInt ∧ a1_359.toInt ≤ (8 : Int)) → ((20 : Int) ≤ b0_359.toInt ∧ b0_359.toInt ≤ (21 : Int)) → (a1_359.toInt = (I0 13).toInt - 1) → ((I_359 2).toInt = 1) → ((I_359 15).toInt ≤ (I0 15).toInt) → ((I_359 3).toInt ≤ (I_359 4).toInt) → ((I_359 4).toInt ≤ (I0 1).toInt) → ((¬ (I_359 2).toInt = 0) → (I_359 3).toInt < (I_359 4).toInt) → ((¬ (I0 6).toInt = 0) → (¬ (I_359 6).toInt = 0)) → ((I0 3).toInt ≤ (I_359 3).toInt) → (JD a d (rkV b0_359) I_359 R_359) → (KE I0 (R0 26) I_359 (R_359 26)) → va_P G.1 vwCl (Wm G g q I_359 J_359 R_359 L_359) H → va_D A (Wm G g q I_359 J_359 R_359 L_359) → va_S A s.heap H locs → lv_has ls 5 [(0, .ref (g 45)), (1, .int a1_359)] → W p l e (rmD 3 0 0) s m [.ref (g 45)].toArray below meth c H locs 0 0 Q (F0 m 359 ls [.int b0_359, .ref (g 45)]) := by
    intro a1_359 b0_359 I_359 J_359 R_359 L_359 H locs ls hvI hvR hsI hsR y0_359 y1_359 z0_359 z1_359 z2_359 z3_359 z4_359 z5_359 z6_359 z7_359 xl0_359 xl1_359 hP hD hS hl
    have hv_I_359 := hvI
    have w_I_359_1 := rg (hvI 1 (by decide)) (0) (1800) rfl rfl
    have v_I_359_1 : (I_359 1).toInt = (I0 1).toInt := congrArg Int32.toInt (hsI 1 rfl)
    have w_I_359_2 := rg (hvI 2 (by decide)) (0) (3) rfl rfl
    have w_I_359_3 := rg (hvI 3 (by decide)) (0) (1800) rfl rfl
    have w_I_359_4 := rg (hvI 4 (by decide)) (0) (1800) rfl rfl
    have w_I_359_5 := rg (hvI 5 (by decide)) (0) (9999) rfl rfl
    have w_I_359_6 := rg (hvI 6 (by decide)) (0) (5) rfl rfl
    have w_I_359_11 := rg (hvI 11 (by decide)) (0) (1800) rfl rfl
    have w_I_359_12 := rg (hvI 12 (by decide)) (0) (1) rfl rfl
    have v_I_359_12 : (I_359 12).toInt = (I0 12).toInt := congrArg Int32.toInt (hsI 12 rfl)
    have w_I_359_13 := rg (hvI 13 (by decide)) (0) (9) rfl rfl
    have w_I_359_14 := rg (hvI 14 (by decide)) (0) (8) rfl rfl
    have w_I_359_15 := rg (hvI 15 (by decide)) (0) (499) rfl rfl
    have w_I_359_16 := rg (hvI 16 (by decide)) (0) (1) rfl rfl
    refine wvv (As := [.int b0_359]) (rest := []) (b := (g 45)) (d := 1) F hK hP hD hS hA (s_X12_holdsBack l G g q I_359 J_359 R_359 L_359 hvI hvR  b0_359 (show ((0 : Int) ≤ b0_359.toInt ∧ b0_359.toInt ≤ (22 : Int)) from by omega) (by omega)) kmV_X12_holdsBack mlX12_336 clX12 rfl 0 (Wm_at0 G g q I_359 J_359 R_359 L_359) ⟨(Nat.le_of_ble_eq_true rfl), (Nat.le_of_ble_eq_true rfl)⟩ hl.1 rfl (Nat.le_of_ble_eq_true rfl) dX12_goesOn_359 (fun u65 H locs hwr64 hP hD hS => ?_)
    obtain ⟨I66, J67, R68, L69⟩ := u65
    replace hP : va_P G.1 vwCl (Wm G g q I66 J67 R68 L69) H := hP
    replace hD : va_D A (Wm G g q I66 J67 R68 L69) := hD
    obtain ⟨hvI, hvR, tIr64, tRr64, F0r64, F1r64⟩ := hwr64
    replace F0r64 : ((I66 15).toInt = (I_359 15).toInt + 1) := F0r64
    replace F1r64 : (R68 33 = upd (R_359 33) (Int32.toNatClampNeg (I_359 15)) b0_359) := F1r64
    replace hvI : InvI Wm_lo Wm_hi I66 := hvI
    replace hvR : InvR Wm_rl R68 := hvR
    replace tIr64 : SmF ([15] : List Nat) I_359 I66 := tIr64
    replace tRr64 : SmF ([33] : List Nat) R_359 R68 := tRr64
    have hv_I66 := hvI
    have hsI := smF_tr hsI tIr64 (by decide)
    have hsR := smF_tr hsR tRr64 (by decide)
    have u_I66_1 : (I66 1).toInt = (I_359 1).toInt := congrArg Int32.toInt (tIr64 1 rfl)
    have u_I66_2 : (I66 2).toInt = (I_359 2).toInt := congrArg Int32.toInt (tIr64 2 rfl)
    have u_I66_3 : (I66 3).toInt = (I_359 3).toInt := congrArg Int32.toInt (tIr64 3 rfl)
    have u_I66_4 : (I66 4).toInt = (I_359 4).toInt := congrArg Int32.toInt (tIr64 4 rfl)
    have u_I66_5 : (I66 5).toInt = (I_359 5).toInt := congrArg Int32.toInt (tIr64 5 rfl)
    have u_I66_6 : (I66 6).toInt = (I_359 6).toInt := congrArg Int32.toInt (tIr64 6 rfl)
    have u_I66_11 : (I66 11).toInt = (I_359 11).toInt := congrArg Int32.toInt (tIr64 11 rfl)
    have u_I66_12 : (I66 12).toInt = (I_359 12).toInt := congrArg Int32.toInt (tIr64 12 rfl)
    have u_I66_13 : (I66 13).toInt = (I_359 13).toInt := congrArg Int32.toInt (tIr64 13 rfl)
    have u_I66_14 : (I66 14).toInt = (I_359 14).toInt := congrArg Int32.toInt (tIr64 14 rfl)
    have w_I66_15 := rg (hvI 15 (by decide)) (0) (499) rfl rfl
    have u_I66_16 : (I66 16).toInt = (I_359 16).toInt := congrArg Int32.toInt (tIr64 16 rfl)
    have nr64_0 : ((I66 3).toInt ≤ (I66 4).toInt) := by omega
    have nr64_1 : ((I66 4).toInt ≤ (I0 1).toInt) := by omega
    have nr64_2 : ((¬ (I66 2).toInt = 0) → (I66 3).toInt < (I66 4).toInt) := by omega
    have nr64_3 : ((¬ (I0 6).toInt = 0) → (¬ (I66 6).toInt = 0)) := by omega
    have nr64_4 : ((I0 3).toInt ≤ (I66 3).toInt) := by omega
    clear z3_359 z4_359 z5_359 z6_359 z7_359
    have ker64 := ke_sm xl1_359 (congrArg Int32.toInt (tIr64 12 rfl)) (congrArg Int32.toInt (tIr64 11 rfl)) (tRr64 26 rfl)
    refine lv_aload_n hx hb dX12_goesOn_362 rfl (lv_at hl 0 rfl) ?_
    refine g_get F hK hP 0 (Wm_at0 G g q I66 J67 R68 L69) clX12 46 (by decide) flX12_152 rfl dX12_goesOn_363 ?_
    refine lv_iload_n hx hb dX12_goesOn_366 rfl (lv_at hl 1 rfl) ?_
    refine lv_iconst (v := 0) hx hb dX12_goesOn_367 (by decide) ?_
    refine p_row (W1 := fun y => Wm G g q I66 J67 y L69) (n := 29) F hK hP hD hS 33 (Wm_at33 G g q I66 J67 R68 L69) (in_of (by omega)) dX12_goesOn_368 (Wm_rowR29 G g q I66 J67 R68 L69) (fun R70 H locs eR70 hP hD hS => ?_)
    have hvR : InvR Wm_rl R70 := inv_upR hvR 29 eR70 (upd_in (hvR 29 (by decide)) (by decide))
    have hsR := smF_up hsR eR70 (by decide)
    have keR70 := ke_sm ker64 rfl rfl (up_ne eR70 (by decide))
    have q29 : R70 = va_up R68 29 (upd (R68 29) d 0) := by rw [eR70, show Int32.toNatClampNeg a1_359 = d from cl_n (by omega)]
    refine lv_aload_n hx hb dX12_goesOn_369 rfl (lv_at hl 0 rfl) ?_
    refine g_get F hK hP 0 (Wm_at0 G g q I66 J67 R70 L69) clX12 47 (by decide) flX12_155 rfl dX12_goesOn_370 ?_
    refine lv_iload_n hx hb dX12_goesOn_373 rfl (lv_at hl 1 rfl) ?_
    refine lv_iconst (v := 1) hx hb dX12_goesOn_374 (by decide) ?_
    refine p_zrow (W1 := fun y => Wm G g q I66 J67 y L69) (n := 30) F hK hP hD hS 34 (Wm_at34 G g q I66 J67 R70 L69) (narz (by decide)) (in_of (by omega)) dX12_goesOn_375 (Wm_rowR30 G g q I66 J67 R70 L69) (fun R71 H locs eR71 hP hD hS => ?_)
    have hvR : InvR Wm_rl R71 := inv_upR hvR 30 eR71 (upd_in (hvR 30 (by decide)) (by decide))
    have hsR := smF_up hsR eR71 (by decide)
    have keR71 := ke_sm keR70 rfl rfl (up_ne eR71 (by decide))
    have rmR71 := rm_and (R' := R71) xl0_359 rfl (rk_12 (by omega)).1 (rk_12 (by omega)).2 (by omega) (ne_22 (by omega)) (by omega) (by omega) tIr64 tRr64 F0r64 F1r64 q29 (by rw [eR71, show Int32.toNatClampNeg a1_359 = d from cl_n (by omega)])
    have hstR71 : (I0 3).toInt < (I66 4).toInt := by omega
    refine lv_aload_n hx hb dX12_goesOn_376 rfl (lv_at hl 0 rfl) ?_
    refine wvv (As := []) (rest := []) (b := (g 45)) (d := 2) F hK hP hD hS hA (s_X12_ahead2 l G g q I66 J67 R71 L69 hvI hvR   (by omega) (by omega) (by omega)) kmV_X12_ahead mlX12_247 clX12 rfl 0 (Wm_at0 G g q I66 J67 R71 L69) ⟨(Nat.le_of_ble_eq_true rfl), (Nat.le_of_ble_eq_true rfl)⟩ hl.1 rfl (Nat.le_of_ble_eq_true rfl) dX12_goesOn_377 (fun u73 H locs hwr72 hP hD hS => ?_)
    obtain ⟨I74, J75, R76, L77⟩ := u73
    replace hP : va_P G.1 vwCl (Wm G g q I74 J75 R76 L77) H := hP
    replace hD : va_D A (Wm G g q I74 J75 R76 L77) := hD
    obtain ⟨hvI, hvR, tIr72, tRr72, F0r72, F1r72, F2r72, F3r72, F4r72, F5r72, F6r72, F7r72, F8r72⟩ := hwr72
    replace F0r72 : ((I66 4).toInt ≤ (I74 3).toInt) := F0r72
    replace F1r72 : ((I74 3).toInt ≤ (I74 4).toInt) := F1r72
    replace F2r72 : ((I74 4).toInt ≤ (I66 1).toInt) := F2r72
    replace F3r72 : ((¬ (I74 2).toInt = 0) → (I74 3).toInt < (I74 4).toInt) := F3r72
    replace F4r72 : ((¬ (I66 6).toInt = 0) → (¬ (I74 6).toInt = 0)) := F4r72
    replace F5r72 : ((I66 3).toInt ≤ (I74 3).toInt) := F5r72
    replace F6r72 : (TL I74 (R71 0)) := F6r72
    replace F7r72 : (WB I74 (J75 0)) := F7r72
    replace F8r72 : (TL I66 (R71 0) → (I66 2).toInt = 1 → (I74 6).toInt = 0 → ((I74 2).toInt = 1 ∨ (I74 2).toInt = 2) → (I66 4).toInt + 1 ≤ (I74 3).toInt) := F8r72
    replace hvI : InvI Wm_lo Wm_hi I74 := hvI
    replace hvR : InvR Wm_rl R76 := hvR
    replace tIr72 : SmF ([2, 3, 4, 5, 6, 7] : List Nat) I66 I74 := tIr72
    replace tRr72 : SmF ([] : List Nat) R71 R76 := tRr72
    have hv_I74 := hvI
    have hsI := smF_tr hsI tIr72 (by decide)
    have hsR := smF_tr hsR tRr72 (by decide)
    have u_I74_1 : (I74 1).toInt = (I66 1).toInt := congrArg Int32.toInt (tIr72 1 rfl)
    have w_I74_2 := rg (hvI 2 (by decide)) (0) (3) rfl rfl
    have w_I74_3 := rg (hvI 3 (by decide)) (0) (1800) rfl rfl
    have w_I74_4 := rg (hvI 4 (by decide)) (0) (1800) rfl rfl
    have w_I74_5 := rg (hvI 5 (by decide)) (0) (9999) rfl rfl
    have w_I74_6 := rg (hvI 6 (by decide)) (0) (5) rfl rfl
    have u_I74_11 : (I74 11).toInt = (I66 11).toInt := congrArg Int32.toInt (tIr72 11 rfl)
    have u_I74_12 : (I74 12).toInt = (I66 12).toInt := congrArg Int32.toInt (tIr72 12 rfl)
    have u_I74_13 : (I74 13).toInt = (I66 13).toInt := congrArg Int32.toInt (tIr72 13 rfl)
    have u_I74_14 : (I74 14).toInt = (I66 14).toInt := congrArg Int32.toInt (tIr72 14 rfl)
    have u_I74_15 : (I74 15).toInt = (I66 15).toInt := congrArg Int32.toInt (tIr72 15 rfl)
    have u_I74_16 : (I74 16).toInt = (I66 16).toInt := congrArg Int32.toInt (tIr72 16 rfl)
    have nr72_0 : ((I74 3).toInt ≤ (I74 4).toInt) := by omega
    have nr72_1 : ((I74 4).toInt ≤ (I0 1).toInt) := by omega
    have nr72_2 : ((¬ (I74 2).toInt = 0) → (I74 3).toInt < (I74 4).toInt) := by omega
    have nr72_3 : ((¬ (I0 6).toInt = 0) → (¬ (I74 6).toInt = 0)) := by omega
    have nr72_4 : ((I0 3).toInt ≤ (I74 3).toInt) := by omega
    clear nr64_0 nr64_1 nr64_2 nr64_3 nr64_4 F1r72 F2r72 F3r72 F4r72 F5r72
    have ker72 := ke_sm keR71 (congrArg Int32.toInt (tIr72 12 rfl)) (congrArg Int32.toInt (tIr72 11 rfl)) (tRr72 26 rfl)
    have rsr72 := rs_ahead rmR71 tIr72 tRr72 F0r72 F6r72 F7r72 F8r72
    refine lv_aload_n hx hb dX12_goesOn_380 rfl (lv_at hl 0 rfl) ?_
    refine lv_iconst (v := 0) hx hb dX12_goesOn_381 (by decide) ?_
    refine p_fld (W1 := fun y => Wm G g q y J75 R76 L77) (n := 16) (v := 0) F hK hP hD hS 0 (Wm_at0 G g q I74 J75 R76 L77) clX12 54 (by decide) flX12_176 rfl (nar01 (by decide)) rfl (Nat.le_of_ble_eq_true rfl) dX12_goesOn_382 (Wm_setI16 G g q I74 J75 R76 L77 _) (fun I78 H locs eI78 hP hD hS => ?_)
    have hvI : InvI Wm_lo Wm_hi I78 := inv_upI hvI 16 eI78 (by decide)
    have hsI := smF_up hsI eI78 (by decide)
    have hv_I78 := hvI
    have u_I78_1 : (I78 1).toInt = (I74 1).toInt := by rw [eI78]; rfl
    have u_I78_2 : (I78 2).toInt = (I74 2).toInt := by rw [eI78]; rfl
    have u_I78_3 : (I78 3).toInt = (I74 3).toInt := by rw [eI78]; rfl
    have u_I78_4 : (I78 4).toInt = (I74 4).toInt := by rw [eI78]; rfl
    have u_I78_5 : (I78 5).toInt = (I74 5).toInt := by rw [eI78]; rfl
    have u_I78_6 : (I78 6).toInt = (I74 6).toInt := by rw [eI78]; rfl
    have u_I78_11 : (I78 11).toInt = (I74 11).toInt := by rw [eI78]; rfl
    have u_I78_12 : (I78 12).toInt = (I74 12).toInt := by rw [eI78]; rfl
    have u_I78_13 : (I78 13).toInt = (I74 13).toInt := by rw [eI78]; rfl
    have u_I78_14 : (I78 14).toInt = (I74 14).toInt := by rw [eI78]; rfl
    have u_I78_15 : (I78 15).toInt = (I74 15).toInt := by rw [eI78]; rfl
    have u_I78_16 : (I78 16).toInt = 0 := by rw [eI78]; rfl
    have keI78 := ke_sm ker72 (congrArg Int32.toInt (up_ne eI78 (by decide))) (congrArg Int32.toInt (up_ne eI78 (by decide))) rfl
    refine lv_iconst (v := 1) hx hb dX12_goesOn_385 (by decide) ?_
    rw [hQ]
    exact q_z F hr hlk (I78, J75, R76, L77) hP hD hS ⟨hvI, hvR, hsI, hsR, (show ((0 : Int) ≤ 1 ∧ 1 ≤ (1 : Int)) from by omega), (show ((1 = 1 ∧ (I78 6).toInt = 0) → (I0 3).toInt < (I78 3).toInt) from by omega), (show ((I78 3).toInt ≤ (I78 4).toInt) from by omega), (show ((I78 4).toInt ≤ (I0 1).toInt) from by omega), (show ((¬ (I78 2).toInt = 0) → (I78 3).toInt < (I78 4).toInt) from by omega), (show ((¬ (I0 6).toInt = 0) → (¬ (I78 6).toInt = 0)) from by omega), (show ((I0 3).toInt ≤ (I78 3).toInt) from by omega), (show (1 = 1 → RS a (Int32.toNatClampNeg (I78 16)) I78 (J75 0) R76) from fun _ => rs_op (r := 0) rsr72 eI78), (show (1 = 0 → EN a I78 R76) from fun h => absurd h (by decide)), (show (KE I0 (R0 26) I78 (R76 26)) from keI78)⟩ dX12_goesOn_386 (Nat.le_of_ble_eq_true rfl) (Nat.le_of_ble_eq_true rfl) (nar01 (by decide))
  have lab_343 : ∀ (a1_343 : Int32) (a4_343 : Int32) (b0_343 : Int32) (I_343 : Nat → Int32) (J_343 : Nat → Int64) (R_343 : Nat → Nat → Int32) (L_343 : Nat → Nat → Int64) (H : Heap) (locs : List Loc) (ls : Array Slot), InvI Wm_lo Wm_hi I_343 → InvR Wm_rl R_343 → SmF ([2, 3, 4, 5, 6, 7, 11, 13, 14, 15, 16] : List Nat) I0 I_343 → SmF ([26, 27, 28, 29, 30, 33] : List Nat) R0 R_343 → ((0 : Int) ≤ a1_343.toInt ∧ a1_343.toInt ≤ (8 : Int)) → ((0 : Int) ≤ a4_343.toInt ∧ a4_343.toInt ≤ (1 : Int)) → ((1 : Int) ≤ b0_343.toInt ∧ b0_343.toInt ≤ (2 : Int)) → (a1_343.toInt = (I0 13).toInt - 1) → ((I_343 2).toInt = 1) → ((a4_343.toInt = 1 ∧ b0_343.toInt = 2) ∨ (a4_343.toInt = 0 ∧ b0_343.toInt = 1)) → ((I_343 3).toInt ≤ (I_343 4).toInt) → ((I_343 4).toInt ≤ (I0 1).toInt) → ((¬ (I_343 2).toInt = 0) → (I_343 3).toInt < (I_343 4).toInt) → ((¬ (I0 6).toInt = 0) → (¬ (I_343 6).toInt = 0)) → ((I0 3).toInt ≤ (I_343 3).toInt) → (I0 = I_343 ∧ J0 = J_343 ∧ R0 = R_343) → va_P G.1 vwCl (Wm G g q I_343 J_343 R_343 L_343) H → va_D A (Wm G g q I_343 J_343 R_343 L_343) → va_S A s.heap H locs → lv_has ls 5 [(0, .ref (g 45)), (1, .int a1_343), (4, .int a4_343)] → W p l e (rmD 3 0 0) s m [.ref (g 45)].toArray below meth c H locs 0 0 Q (F0 m 343 ls [.int b0_343, .ref (g 45)]) := by
    intro a1_343 a4_343 b0_343 I_343 J_343 R_343 L_343 H locs ls hvI hvR hsI hsR y0_343 y1_343 y2_343 z0_343 z1_343 z2_343 z3_343 z4_343 z5_343 z6_343 z7_343 xl0_343 hP hD hS hl
    have hv_I_343 := hvI
    have w_I_343_1 := rg (hvI 1 (by decide)) (0) (1800) rfl rfl
    have v_I_343_1 : (I_343 1).toInt = (I0 1).toInt := congrArg Int32.toInt (hsI 1 rfl)
    have w_I_343_2 := rg (hvI 2 (by decide)) (0) (3) rfl rfl
    have w_I_343_3 := rg (hvI 3 (by decide)) (0) (1800) rfl rfl
    have w_I_343_4 := rg (hvI 4 (by decide)) (0) (1800) rfl rfl
    have w_I_343_5 := rg (hvI 5 (by decide)) (0) (9999) rfl rfl
    have w_I_343_6 := rg (hvI 6 (by decide)) (0) (5) rfl rfl
    have w_I_343_11 := rg (hvI 11 (by decide)) (0) (1800) rfl rfl
    have w_I_343_12 := rg (hvI 12 (by decide)) (0) (1) rfl rfl
    have v_I_343_12 : (I_343 12).toInt = (I0 12).toInt := congrArg Int32.toInt (hsI 12 rfl)
    have w_I_343_13 := rg (hvI 13 (by decide)) (0) (9) rfl rfl
    have w_I_343_14 := rg (hvI 14 (by decide)) (0) (8) rfl rfl
    have w_I_343_15 := rg (hvI 15 (by decide)) (0) (499) rfl rfl
    have w_I_343_16 := rg (hvI 16 (by decide)) (0) (1) rfl rfl
    obtain ⟨qI, qJ, qR⟩ := xl0_343
    subst qI
    subst qJ
    subst qR
    refine wvv (As := [.int b0_343]) (rest := []) (b := (g 45)) (d := 2) F hK hP hD hS hA (s_X12_joins l G g q I0 J0 R0 L_343 hvI hvR  b0_343 (show ((1 : Int) ≤ b0_343.toInt ∧ b0_343.toInt ≤ (6 : Int)) from by omega) (by omega) (by omega) a d n (hd) (hn) (hRB)) kmV_X12_joins mlX12_342 clX12 rfl 0 (Wm_at0 G g q I0 J0 R0 L_343) ⟨(Nat.le_of_ble_eq_true rfl), (Nat.le_of_ble_eq_true rfl)⟩ hl.1 rfl (Nat.le_of_ble_eq_true rfl) dX12_goesOn_343 (fun u80 H locs hwr79 hP hD hS => ?_)
    obtain ⟨I81, J82, R83, L84⟩ := u80
    replace hP : va_P G.1 vwCl (Wm G g q I81 J82 R83 L84) H := hP
    replace hD : va_D A (Wm G g q I81 J82 R83 L84) := hD
    obtain ⟨hvI, hvR, tIr79, tRr79, F0r79, F1r79, F2r79, F3r79, F4r79, F5r79, F6r79⟩ := hwr79
    replace F0r79 : ((I81 11).toInt + (I81 15).toInt = (I0 11).toInt + (I0 15).toInt) := F0r79
    replace F1r79 : ((I81 15).toInt ≤ (I0 15).toInt) := F1r79
    replace F2r79 : (∃ n1 : Nat, 1800 * (I0 12).toInt + (I81 11).toInt = ((a : Nat) : Int) + (n1 : Int) ∧ RB d (Int32.toNatClampNeg (I81 15)) n1 a 1 (R0 28) (R0 29) (R0 30) (R0 31) (R0 32) (R0 33) (R83 26)) := F2r79
    replace F3r79 : (∀ i : Nat, (Int32.toNatClampNeg (R0 32 d)) ≤ i → i < (Int32.toNatClampNeg (I81 15)) → ((rkV (R0 33 i) : Nat) : Int) < b0_343.toInt) := F3r79
    replace F4r79 : (nNn (R0 33) (Int32.toNatClampNeg (I81 15)) ≤ nNn (R0 33) (Int32.toNatClampNeg (I0 15))) := F4r79
    replace F5r79 : ((Int32.toNatClampNeg (R0 32 d)) ≤ (Int32.toNatClampNeg (I81 15))) := F5r79
    replace F6r79 : (KE I0 (R0 26) I81 (R83 26)) := F6r79
    replace hvI : InvI Wm_lo Wm_hi I81 := hvI
    replace hvR : InvR Wm_rl R83 := hvR
    replace tIr79 : SmF ([11, 15] : List Nat) I0 I81 := tIr79
    replace tRr79 : SmF ([26, 27] : List Nat) R0 R83 := tRr79
    have hv_I81 := hvI
    have hsI := smF_tr hsI tIr79 (by decide)
    have hsR := smF_tr hsR tRr79 (by decide)
    have u_I81_1 : (I81 1).toInt = (I0 1).toInt := congrArg Int32.toInt (tIr79 1 rfl)
    have u_I81_2 : (I81 2).toInt = (I0 2).toInt := congrArg Int32.toInt (tIr79 2 rfl)
    have u_I81_3 : (I81 3).toInt = (I0 3).toInt := congrArg Int32.toInt (tIr79 3 rfl)
    have u_I81_4 : (I81 4).toInt = (I0 4).toInt := congrArg Int32.toInt (tIr79 4 rfl)
    have u_I81_5 : (I81 5).toInt = (I0 5).toInt := congrArg Int32.toInt (tIr79 5 rfl)
    have u_I81_6 : (I81 6).toInt = (I0 6).toInt := congrArg Int32.toInt (tIr79 6 rfl)
    have w_I81_11 := rg (hvI 11 (by decide)) (0) (1800) rfl rfl
    have u_I81_12 : (I81 12).toInt = (I0 12).toInt := congrArg Int32.toInt (tIr79 12 rfl)
    have u_I81_13 : (I81 13).toInt = (I0 13).toInt := congrArg Int32.toInt (tIr79 13 rfl)
    have u_I81_14 : (I81 14).toInt = (I0 14).toInt := congrArg Int32.toInt (tIr79 14 rfl)
    have w_I81_15 := rg (hvI 15 (by decide)) (0) (499) rfl rfl
    have u_I81_16 : (I81 16).toInt = (I0 16).toInt := congrArg Int32.toInt (tIr79 16 rfl)
    have nr79_0 : ((I81 3).toInt ≤ (I81 4).toInt) := by omega
    have nr79_1 : ((I81 4).toInt ≤ (I0 1).toInt) := by omega
    have nr79_2 : ((¬ (I81 2).toInt = 0) → (I81 3).toInt < (I81 4).toInt) := by omega
    have nr79_3 : ((¬ (I0 6).toInt = 0) → (¬ (I81 6).toInt = 0)) := by omega
    have nr79_4 : ((I0 3).toInt ≤ (I81 3).toInt) := by omega
    clear z3_343 z4_343 z5_343 z6_343 z7_343
    have ker79 := ke_tr (ke_rf I0 (R0 26)) F6r79
    refine lv_aload_n hx hb dX12_goesOn_346 rfl (lv_at hl 0 rfl) ?_
    refine lv_iload hx hb dX12_goesOn_347 (lv_at hl 2 rfl) ?_
    refine lv_if_eq (tgt := 357) hx hb dX12_goesOn_349 (by decide) (fun c85 => ?_) (fun c85 => ?_)
    · have gc85 : a4_343.toInt = 0 := congrArg Int32.toInt c85
      refine lv_bipush (v := 21) hx hb dX12_goesOn_357 (by decide) ?_
      exact lab_359 a1_343 21 I81 J82 R83 L84 _ _ _ hvI hvR hsI hsR (show ((0 : Int) ≤ a1_343.toInt ∧ a1_343.toInt ≤ (8 : Int)) from by omega) (by decide) (show (a1_343.toInt = (I0 13).toInt - 1) from by omega) (show ((I81 2).toInt = 1) from by omega) (show ((I81 15).toInt ≤ (I0 15).toInt) from by omega) (show ((I81 3).toInt ≤ (I81 4).toInt) from by omega) (show ((I81 4).toInt ≤ (I0 1).toInt) from by omega) (show ((¬ (I81 2).toInt = 0) → (I81 3).toInt < (I81 4).toInt) from by omega) (show ((¬ (I0 6).toInt = 0) → (¬ (I81 6).toInt = 0)) from by omega) (show ((I0 3).toInt ≤ (I81 3).toInt) from by omega) (show (JD a d (rkV 21) I81 R83) from jd_k (jd_of (p := b0_343.toInt) (k := 1) hd ho hBY tIr79 tRr79 F0r79 F2r79 F3r79 F4r79 F5r79 (by omega)) (show 1 = rkV 21 from by decide)) (show (KE I0 (R0 26) I81 (R83 26)) from ker79) hP hD hS (lv_sub hl [0, 1] rfl)
    · have gc85 : ¬ (a4_343.toInt = 0) := fun q0 => c85 (Int32.toInt_inj.mp q0)
      refine lv_bipush (v := 20) hx hb dX12_goesOn_352 (by decide) ?_
      refine lv_goto (tgt := 359) hx hb dX12_goesOn_354 (by decide) ?_
      exact lab_359 a1_343 20 I81 J82 R83 L84 _ _ _ hvI hvR hsI hsR (show ((0 : Int) ≤ a1_343.toInt ∧ a1_343.toInt ≤ (8 : Int)) from by omega) (by decide) (show (a1_343.toInt = (I0 13).toInt - 1) from by omega) (show ((I81 2).toInt = 1) from by omega) (show ((I81 15).toInt ≤ (I0 15).toInt) from by omega) (show ((I81 3).toInt ≤ (I81 4).toInt) from by omega) (show ((I81 4).toInt ≤ (I0 1).toInt) from by omega) (show ((¬ (I81 2).toInt = 0) → (I81 3).toInt < (I81 4).toInt) from by omega) (show ((¬ (I0 6).toInt = 0) → (¬ (I81 6).toInt = 0)) from by omega) (show ((I0 3).toInt ≤ (I81 3).toInt) from by omega) (show (JD a d (rkV 20) I81 R83) from jd_k (jd_of (p := b0_343.toInt) (k := 2) hd ho hBY tIr79 tRr79 F0r79 F2r79 F3r79 F4r79 F5r79 (by omega)) (show 2 = rkV 20 from by decide)) (show (KE I0 (R0 26) I81 (R83 26)) from ker79) hP hD hS (lv_sub hl [0, 1] rfl)
  have lab_314 : ∀ (a1_314 : Int32) (I_314 : Nat → Int32) (J_314 : Nat → Int64) (R_314 : Nat → Nat → Int32) (L_314 : Nat → Nat → Int64) (H : Heap) (locs : List Loc) (ls : Array Slot), InvI Wm_lo Wm_hi I_314 → InvR Wm_rl R_314 → SmF ([2, 3, 4, 5, 6, 7, 11, 13, 14, 15, 16] : List Nat) I0 I_314 → SmF ([26, 27, 28, 29, 30, 33] : List Nat) R0 R_314 → ((0 : Int) ≤ a1_314.toInt ∧ a1_314.toInt ≤ (8 : Int)) → (a1_314.toInt = (I0 13).toInt - 1) → ((I_314 2).toInt = 1) → ((I_314 2).toInt = (I0 2).toInt) → ((I_314 3).toInt ≤ (I_314 4).toInt) → ((I_314 4).toInt ≤ (I0 1).toInt) → ((¬ (I_314 2).toInt = 0) → (I_314 3).toInt < (I_314 4).toInt) → ((¬ (I0 6).toInt = 0) → (¬ (I_314 6).toInt = 0)) → ((I0 3).toInt ≤ (I_314 3).toInt) → ((I_314 6).toInt = 0 → (I0 = I_314 ∧ J0 = J_314 ∧ R0 = R_314)) → (KE I0 (R0 26) I_314 (R_314 26)) → va_P G.1 vwCl (Wm G g q I_314 J_314 R_314 L_314) H → va_D A (Wm G g q I_314 J_314 R_314 L_314) → va_S A s.heap H locs → lv_has ls 5 [(0, .ref (g 45)), (1, .int a1_314)] → W p l e (rmD 3 0 0) s m [.ref (g 45)].toArray below meth c H locs 0 0 Q (F0 m 314 ls []) := by
    intro a1_314 I_314 J_314 R_314 L_314 H locs ls hvI hvR hsI hsR y0_314 z0_314 z1_314 z2_314 z3_314 z4_314 z5_314 z6_314 z7_314 xl0_314 xl1_314 hP hD hS hl
    have hv_I_314 := hvI
    have w_I_314_1 := rg (hvI 1 (by decide)) (0) (1800) rfl rfl
    have v_I_314_1 : (I_314 1).toInt = (I0 1).toInt := congrArg Int32.toInt (hsI 1 rfl)
    have w_I_314_2 := rg (hvI 2 (by decide)) (0) (3) rfl rfl
    have w_I_314_3 := rg (hvI 3 (by decide)) (0) (1800) rfl rfl
    have w_I_314_4 := rg (hvI 4 (by decide)) (0) (1800) rfl rfl
    have w_I_314_5 := rg (hvI 5 (by decide)) (0) (9999) rfl rfl
    have w_I_314_6 := rg (hvI 6 (by decide)) (0) (5) rfl rfl
    have w_I_314_11 := rg (hvI 11 (by decide)) (0) (1800) rfl rfl
    have w_I_314_12 := rg (hvI 12 (by decide)) (0) (1) rfl rfl
    have v_I_314_12 : (I_314 12).toInt = (I0 12).toInt := congrArg Int32.toInt (hsI 12 rfl)
    have w_I_314_13 := rg (hvI 13 (by decide)) (0) (9) rfl rfl
    have w_I_314_14 := rg (hvI 14 (by decide)) (0) (8) rfl rfl
    have w_I_314_15 := rg (hvI 15 (by decide)) (0) (499) rfl rfl
    have w_I_314_16 := rg (hvI 16 (by decide)) (0) (1) rfl rfl
    refine lv_aload_n hx hb dX12_goesOn_314 rfl (lv_at hl 0 rfl) ?_
    refine g_get F hK hP 0 (Wm_at0 G g q I_314 J_314 R_314 L_314) clX12 8 (by decide) flX12_36 rfl dX12_goesOn_315 ?_
    have w_I_314_6 := rg (hv_I_314 6 (by decide)) (0) (5) rfl rfl
    refine lv_if_le (tgt := 323) hx hb dX12_goesOn_318 (by decide) (fun c86 => ?_) (fun c86 => ?_)
    · have gc86 : (I_314 6).toInt ≤ 0 := (tle _ _).mp c86
      obtain ⟨qI, qJ, qR⟩ := xl0_314 (by omega)
      subst qI
      subst qJ
      subst qR
      refine lv_aload_n hx hb dX12_goesOn_323 rfl (lv_at hl 0 rfl) ?_
      refine lv_ldc2 hx hb hown (F.2.2.2.2 _ clX12_298) dX12_goesOn_324 ?_
      refine wvi (As := [.long 6385252]) (rest := []) (b := (g 45)) (d := 1) F hK hP hD hS hA (s_X12_isWord2 l G g q I0 J0 R0 L_314 hvI hvR  6385252 ) kmV_X12_isWord mlX12_332 clX12 rfl 0 (Wm_at0 G g q I0 J0 R0 L_314) ⟨(Nat.le_of_ble_eq_true rfl), (Nat.le_of_ble_eq_true rfl)⟩ hl.1 rfl (Nat.le_of_ble_eq_true rfl) dX12_goesOn_327 (fun r87 u88 H locs hwr87 hP hD hS => ?_)
      obtain ⟨F0r87, F1r87, F2r87⟩ := hwr87
      replace F0r87 : ((0 : Int) ≤ r87.toInt ∧ r87.toInt ≤ (1 : Int)) := F0r87
      replace F1r87 : (r87.toInt = 1 → (I0 2).toInt = 1) := F1r87
      replace F2r87 : (r87.toInt = 1 → J0 0 = 6385252) := F2r87
      refine lv_istore (lv' := [(4, .int r87), (0, .ref (g 45)), (1, .int a1_314)]) hx hb dX12_goesOn_330 hl (by decide) rfl (fun ls hl => ?_)
      refine lv_aload_n hx hb dX12_goesOn_332 rfl (lv_at hl 1 rfl) ?_
      refine lv_iload hx hb dX12_goesOn_333 (lv_at hl 0 rfl) ?_
      refine lv_if_eq (tgt := 342) hx hb dX12_goesOn_335 (by decide) (fun c89 => ?_) (fun c89 => ?_)
      · have gc89 : r87.toInt = 0 := congrArg Int32.toInt c89
        refine lv_iconst (v := 1) hx hb dX12_goesOn_342 (by decide) ?_
        exact lab_343 a1_314 r87 1 I0 J0 R0 L_314 _ _ _ hvI hvR hsI hsR (show ((0 : Int) ≤ a1_314.toInt ∧ a1_314.toInt ≤ (8 : Int)) from by omega) (show ((0 : Int) ≤ r87.toInt ∧ r87.toInt ≤ (1 : Int)) from by omega) (by decide) (show (a1_314.toInt = (I0 13).toInt - 1) from by omega) (show ((I0 2).toInt = 1) from by omega) (show ((r87.toInt = 1 ∧ 1 = 2) ∨ (r87.toInt = 0 ∧ 1 = 1)) from by omega) (show ((I0 3).toInt ≤ (I0 4).toInt) from by omega) (show ((I0 4).toInt ≤ (I0 1).toInt) from by omega) (show ((¬ (I0 2).toInt = 0) → (I0 3).toInt < (I0 4).toInt) from by omega) (show ((¬ (I0 6).toInt = 0) → (¬ (I0 6).toInt = 0)) from by omega) (show ((I0 3).toInt ≤ (I0 3).toInt) from by omega) (show (I0 = I0 ∧ J0 = J0 ∧ R0 = R0) from ⟨rfl, rfl, rfl⟩) hP hD hS (lv_sub hl [1, 2, 0] rfl)
      · have gc89 : ¬ (r87.toInt = 0) := fun q0 => c89 (Int32.toInt_inj.mp q0)
        refine lv_iconst (v := 2) hx hb dX12_goesOn_338 (by decide) ?_
        refine lv_goto (tgt := 343) hx hb dX12_goesOn_339 (by decide) ?_
        exact lab_343 a1_314 r87 2 I0 J0 R0 L_314 _ _ _ hvI hvR hsI hsR (show ((0 : Int) ≤ a1_314.toInt ∧ a1_314.toInt ≤ (8 : Int)) from by omega) (show ((0 : Int) ≤ r87.toInt ∧ r87.toInt ≤ (1 : Int)) from by omega) (by decide) (show (a1_314.toInt = (I0 13).toInt - 1) from by omega) (show ((I0 2).toInt = 1) from by omega) (show ((r87.toInt = 1 ∧ 2 = 2) ∨ (r87.toInt = 0 ∧ 2 = 1)) from by omega) (show ((I0 3).toInt ≤ (I0 4).toInt) from by omega) (show ((I0 4).toInt ≤ (I0 1).toInt) from by omega) (show ((¬ (I0 2).toInt = 0) → (I0 3).toInt < (I0 4).toInt) from by omega) (show ((¬ (I0 6).toInt = 0) → (¬ (I0 6).toInt = 0)) from by omega) (show ((I0 3).toInt ≤ (I0 3).toInt) from by omega) (show (I0 = I0 ∧ J0 = J0 ∧ R0 = R0) from ⟨rfl, rfl, rfl⟩) hP hD hS (lv_sub hl [1, 2, 0] rfl)
    · have gc86 : ¬ ((I_314 6).toInt ≤ 0) := fun q0 => c86 ((tle _ _).mpr q0)
      refine lv_iconst (v := 0) hx hb dX12_goesOn_321 (by decide) ?_
      rw [hQ]
      exact q_z F hr hlk (I_314, J_314, R_314, L_314) hP hD hS ⟨hvI, hvR, hsI, hsR, (show ((0 : Int) ≤ 0 ∧ 0 ≤ (1 : Int)) from by omega), (show ((0 = 1 ∧ (I_314 6).toInt = 0) → (I0 3).toInt < (I_314 3).toInt) from by omega), (show ((I_314 3).toInt ≤ (I_314 4).toInt) from by omega), (show ((I_314 4).toInt ≤ (I0 1).toInt) from by omega), (show ((¬ (I_314 2).toInt = 0) → (I_314 3).toInt < (I_314 4).toInt) from by omega), (show ((¬ (I0 6).toInt = 0) → (¬ (I_314 6).toInt = 0)) from by omega), (show ((I0 3).toInt ≤ (I_314 3).toInt) from by omega), (show (0 = 1 → RS a (Int32.toNatClampNeg (I_314 16)) I_314 (J_314 0) R_314) from fun h => absurd h (by decide)), (show (0 = 0 → EN a I_314 R_314) from fun _ h => absurd h (by omega)), (show (KE I0 (R0 26) I_314 (R_314 26)) from xl1_314)⟩ dX12_goesOn_322 (Nat.le_of_ble_eq_true rfl) (Nat.le_of_ble_eq_true rfl) (nar01 (by decide))
  have lab_296 : ∀ (a1_296 : Int32) (I_296 : Nat → Int32) (J_296 : Nat → Int64) (R_296 : Nat → Nat → Int32) (L_296 : Nat → Nat → Int64) (H : Heap) (locs : List Loc) (ls : Array Slot), InvI Wm_lo Wm_hi I_296 → InvR Wm_rl R_296 → SmF ([2, 3, 4, 5, 6, 7, 11, 13, 14, 15, 16] : List Nat) I0 I_296 → SmF ([26, 27, 28, 29, 30, 33] : List Nat) R0 R_296 → ((0 : Int) ≤ a1_296.toInt ∧ a1_296.toInt ≤ (8 : Int)) → (a1_296.toInt = (I0 13).toInt - 1) → ((I_296 2).toInt = 1) → ((I_296 3).toInt ≤ (I_296 4).toInt) → ((I_296 4).toInt ≤ (I0 1).toInt) → ((¬ (I_296 2).toInt = 0) → (I_296 3).toInt < (I_296 4).toInt) → ((¬ (I0 6).toInt = 0) → (¬ (I_296 6).toInt = 0)) → ((I0 3).toInt ≤ (I_296 3).toInt) → (I0 = I_296 ∧ J0 = J_296 ∧ R0 = R_296) → va_P G.1 vwCl (Wm G g q I_296 J_296 R_296 L_296) H → va_D A (Wm G g q I_296 J_296 R_296 L_296) → va_S A s.heap H locs → lv_has ls 5 [(0, .ref (g 45)), (1, .int a1_296)] → W p l e (rmD 3 0 0) s m [.ref (g 45)].toArray below meth c H locs 0 0 Q (F0 m 296 ls []) := by
    intro a1_296 I_296 J_296 R_296 L_296 H locs ls hvI hvR hsI hsR y0_296 z0_296 z1_296 z2_296 z3_296 z4_296 z5_296 z6_296 xl0_296 hP hD hS hl
    have hv_I_296 := hvI
    have w_I_296_1 := rg (hvI 1 (by decide)) (0) (1800) rfl rfl
    have v_I_296_1 : (I_296 1).toInt = (I0 1).toInt := congrArg Int32.toInt (hsI 1 rfl)
    have w_I_296_2 := rg (hvI 2 (by decide)) (0) (3) rfl rfl
    have w_I_296_3 := rg (hvI 3 (by decide)) (0) (1800) rfl rfl
    have w_I_296_4 := rg (hvI 4 (by decide)) (0) (1800) rfl rfl
    have w_I_296_5 := rg (hvI 5 (by decide)) (0) (9999) rfl rfl
    have w_I_296_6 := rg (hvI 6 (by decide)) (0) (5) rfl rfl
    have w_I_296_11 := rg (hvI 11 (by decide)) (0) (1800) rfl rfl
    have w_I_296_12 := rg (hvI 12 (by decide)) (0) (1) rfl rfl
    have v_I_296_12 : (I_296 12).toInt = (I0 12).toInt := congrArg Int32.toInt (hsI 12 rfl)
    have w_I_296_13 := rg (hvI 13 (by decide)) (0) (9) rfl rfl
    have w_I_296_14 := rg (hvI 14 (by decide)) (0) (8) rfl rfl
    have w_I_296_15 := rg (hvI 15 (by decide)) (0) (499) rfl rfl
    have w_I_296_16 := rg (hvI 16 (by decide)) (0) (1) rfl rfl
    obtain ⟨qI, qJ, qR⟩ := xl0_296
    subst qI
    subst qJ
    subst qR
    refine lv_aload_n hx hb dX12_goesOn_296 rfl (lv_at hl 0 rfl) ?_
    refine g_get F hK hP 0 (Wm_at0 G g q I0 J0 R0 L_296) clX12 46 (by decide) flX12_152 rfl dX12_goesOn_297 ?_
    refine lv_iload_n hx hb dX12_goesOn_300 rfl (lv_at hl 1 rfl) ?_
    refine g_iald F hK hP 33 (Wm_at33 G g q I0 J0 R0 L_296) (in_of (by omega)) dX12_goesOn_301 rfl ?_
    refine lv_topi (fun x90 ex90 => ?_)
    have gx90 : x90.toInt = (R0 29 (Int32.toNatClampNeg a1_296)).toInt := congrArg Int32.toInt (ex90)
    have fx90 : ((0 : Int) ≤ x90.toInt ∧ x90.toInt ≤ (2 : Int)) := by rw [ex90]; exact hvR 29 (by decide) _ (clamp_lt (n := 20) (in_of (by omega)))
    refine lv_if_ne (tgt := 314) hx hb dX12_goesOn_302 (by decide) (fun c91 => ?_) (fun c91 => ?_)
    · have gc91 : ¬ (x90.toInt = 0) := fun q0 => c91 (Int32.toInt_inj.mp q0)
      exact lab_314 a1_296 I0 J0 R0 L_296 _ _ _ hvI hvR hsI hsR (show ((0 : Int) ≤ a1_296.toInt ∧ a1_296.toInt ≤ (8 : Int)) from by omega) (show (a1_296.toInt = (I0 13).toInt - 1) from by omega) (show ((I0 2).toInt = 1) from by omega) (show ((I0 2).toInt = (I0 2).toInt) from by omega) (show ((I0 3).toInt ≤ (I0 4).toInt) from by omega) (show ((I0 4).toInt ≤ (I0 1).toInt) from by omega) (show ((¬ (I0 2).toInt = 0) → (I0 3).toInt < (I0 4).toInt) from by omega) (show ((¬ (I0 6).toInt = 0) → (¬ (I0 6).toInt = 0)) from by omega) (show ((I0 3).toInt ≤ (I0 3).toInt) from by omega) (show ((I0 6).toInt = 0 → (I0 = I0 ∧ J0 = J0 ∧ R0 = R0)) from fun _ => ⟨rfl, rfl, rfl⟩) (show (KE I0 (R0 26) I0 (R0 26)) from (ke_rf I0 (R0 26))) hP hD hS (lv_sub hl [0, 1] rfl)
    · have gc91 : x90.toInt = 0 := congrArg Int32.toInt c91
      refine lv_aload_n hx hb dX12_goesOn_305 rfl (lv_at hl 0 rfl) ?_
      refine lv_iconst (v := 1) hx hb dX12_goesOn_306 (by decide) ?_
      refine lv_aload_n hx hb dX12_goesOn_307 rfl (lv_at hl 0 rfl) ?_
      refine g_get F hK hP 0 (Wm_at0 G g q I0 J0 R0 L_296) clX12 4 (by decide) flX12_23 rfl dX12_goesOn_308 ?_
      have w_I0_3 := rg (hvI0 3 (by decide)) (0) (1800) rfl rfl
      refine wvv (As := [.int 1, .int (I0 3)]) (rest := []) (b := (g 45)) (d := 1) F hK hP hD hS hA (s_X12_blame l G g q I0 J0 R0 L_296 hvI hvR  1 ((I0 3)) (by decide) (show ((0 : Int) ≤ (I0 3).toInt ∧ (I0 3).toInt ≤ (1800 : Int)) from by omega)) kmV_X12_blame mlX12_240 clX12 rfl 0 (Wm_at0 G g q I0 J0 R0 L_296) ⟨(Nat.le_of_ble_eq_true rfl), (Nat.le_of_ble_eq_true rfl)⟩ hl.1 rfl (Nat.le_of_ble_eq_true rfl) dX12_goesOn_311 (fun u93 H locs hwr92 hP hD hS => ?_)
      obtain ⟨I94, J95, R96, L97⟩ := u93
      replace hP : va_P G.1 vwCl (Wm G g q I94 J95 R96 L97) H := hP
      replace hD : va_D A (Wm G g q I94 J95 R96 L97) := hD
      obtain ⟨hvI, hvR, tIr92, tRr92, F0r92⟩ := hwr92
      replace F0r92 : (¬ (I94 6).toInt = 0) := F0r92
      replace hvI : InvI Wm_lo Wm_hi I94 := hvI
      replace hvR : InvR Wm_rl R96 := hvR
      replace tIr92 : SmF ([6, 7] : List Nat) I0 I94 := tIr92
      replace tRr92 : SmF ([] : List Nat) R0 R96 := tRr92
      have hv_I94 := hvI
      have hsI := smF_tr hsI tIr92 (by decide)
      have hsR := smF_tr hsR tRr92 (by decide)
      have u_I94_1 : (I94 1).toInt = (I0 1).toInt := congrArg Int32.toInt (tIr92 1 rfl)
      have u_I94_2 : (I94 2).toInt = (I0 2).toInt := congrArg Int32.toInt (tIr92 2 rfl)
      have u_I94_3 : (I94 3).toInt = (I0 3).toInt := congrArg Int32.toInt (tIr92 3 rfl)
      have u_I94_4 : (I94 4).toInt = (I0 4).toInt := congrArg Int32.toInt (tIr92 4 rfl)
      have u_I94_5 : (I94 5).toInt = (I0 5).toInt := congrArg Int32.toInt (tIr92 5 rfl)
      have w_I94_6 := rg (hvI 6 (by decide)) (0) (5) rfl rfl
      have u_I94_11 : (I94 11).toInt = (I0 11).toInt := congrArg Int32.toInt (tIr92 11 rfl)
      have u_I94_12 : (I94 12).toInt = (I0 12).toInt := congrArg Int32.toInt (tIr92 12 rfl)
      have u_I94_13 : (I94 13).toInt = (I0 13).toInt := congrArg Int32.toInt (tIr92 13 rfl)
      have u_I94_14 : (I94 14).toInt = (I0 14).toInt := congrArg Int32.toInt (tIr92 14 rfl)
      have u_I94_15 : (I94 15).toInt = (I0 15).toInt := congrArg Int32.toInt (tIr92 15 rfl)
      have u_I94_16 : (I94 16).toInt = (I0 16).toInt := congrArg Int32.toInt (tIr92 16 rfl)
      have nr92_0 : ((I94 3).toInt ≤ (I94 4).toInt) := by omega
      have nr92_1 : ((I94 4).toInt ≤ (I0 1).toInt) := by omega
      have nr92_2 : ((¬ (I94 2).toInt = 0) → (I94 3).toInt < (I94 4).toInt) := by omega
      have nr92_3 : ((¬ (I0 6).toInt = 0) → (¬ (I94 6).toInt = 0)) := by omega
      have nr92_4 : ((I0 3).toInt ≤ (I94 3).toInt) := by omega
      clear z2_296 z3_296 z4_296 z5_296 z6_296
      have ker92 := ke_sm (ke_rf I0 (R0 26)) (congrArg Int32.toInt (tIr92 12 rfl)) (congrArg Int32.toInt (tIr92 11 rfl)) (tRr92 26 rfl)
      exact lab_314 a1_296 I94 J95 R96 L97 _ _ _ hvI hvR hsI hsR (show ((0 : Int) ≤ a1_296.toInt ∧ a1_296.toInt ≤ (8 : Int)) from by omega) (show (a1_296.toInt = (I0 13).toInt - 1) from by omega) (show ((I94 2).toInt = 1) from by omega) (show ((I94 2).toInt = (I0 2).toInt) from by omega) (show ((I94 3).toInt ≤ (I94 4).toInt) from by omega) (show ((I94 4).toInt ≤ (I0 1).toInt) from by omega) (show ((¬ (I94 2).toInt = 0) → (I94 3).toInt < (I94 4).toInt) from by omega) (show ((¬ (I0 6).toInt = 0) → (¬ (I94 6).toInt = 0)) from by omega) (show ((I0 3).toInt ≤ (I94 3).toInt) from by omega) (show ((I94 6).toInt = 0 → (I0 = I94 ∧ J0 = J95 ∧ R0 = R96)) from fun h => absurd h (by omega)) (show (KE I0 (R0 26) I94 (R96 26)) from ker92) hP hD hS (lv_sub hl [0, 1] rfl)
  have lab_451 : ∀ (a1_451 : Int32) (I_451 : Nat → Int32) (J_451 : Nat → Int64) (R_451 : Nat → Nat → Int32) (L_451 : Nat → Nat → Int64) (H : Heap) (locs : List Loc) (ls : Array Slot), InvI Wm_lo Wm_hi I_451 → InvR Wm_rl R_451 → SmF ([2, 3, 4, 5, 6, 7, 11, 13, 14, 15, 16] : List Nat) I0 I_451 → SmF ([26, 27, 28, 29, 30, 33] : List Nat) R0 R_451 → ((0 : Int) ≤ a1_451.toInt ∧ a1_451.toInt ≤ (8 : Int)) → (a1_451.toInt = (I0 13).toInt - 1) → ((I_451 6).toInt = 0 → (I0 2).toInt = 3) → ((I_451 3).toInt ≤ (I_451 4).toInt) → ((I_451 4).toInt ≤ (I0 1).toInt) → ((¬ (I_451 2).toInt = 0) → (I_451 3).toInt < (I_451 4).toInt) → ((¬ (I0 6).toInt = 0) → (¬ (I_451 6).toInt = 0)) → ((I0 3).toInt ≤ (I_451 3).toInt) → ((I_451 6).toInt = 0 → (I0 = I_451 ∧ J0 = J_451 ∧ R0 = R_451)) → ((R0 28 d).toInt = 3) → (KE I0 (R0 26) I_451 (R_451 26)) → va_P G.1 vwCl (Wm G g q I_451 J_451 R_451 L_451) H → va_D A (Wm G g q I_451 J_451 R_451 L_451) → va_S A s.heap H locs → lv_has ls 5 [(0, .ref (g 45)), (1, .int a1_451)] → W p l e (rmD 3 0 0) s m [.ref (g 45)].toArray below meth c H locs 0 0 Q (F0 m 451 ls []) := by
    intro a1_451 I_451 J_451 R_451 L_451 H locs ls hvI hvR hsI hsR y0_451 z0_451 z1_451 z2_451 z3_451 z4_451 z5_451 z6_451 xl0_451 xl1_451 xl2_451 hP hD hS hl
    have hv_I_451 := hvI
    have w_I_451_1 := rg (hvI 1 (by decide)) (0) (1800) rfl rfl
    have v_I_451_1 : (I_451 1).toInt = (I0 1).toInt := congrArg Int32.toInt (hsI 1 rfl)
    have w_I_451_2 := rg (hvI 2 (by decide)) (0) (3) rfl rfl
    have w_I_451_3 := rg (hvI 3 (by decide)) (0) (1800) rfl rfl
    have w_I_451_4 := rg (hvI 4 (by decide)) (0) (1800) rfl rfl
    have w_I_451_5 := rg (hvI 5 (by decide)) (0) (9999) rfl rfl
    have w_I_451_6 := rg (hvI 6 (by decide)) (0) (5) rfl rfl
    have w_I_451_11 := rg (hvI 11 (by decide)) (0) (1800) rfl rfl
    have w_I_451_12 := rg (hvI 12 (by decide)) (0) (1) rfl rfl
    have v_I_451_12 : (I_451 12).toInt = (I0 12).toInt := congrArg Int32.toInt (hsI 12 rfl)
    have w_I_451_13 := rg (hvI 13 (by decide)) (0) (9) rfl rfl
    have w_I_451_14 := rg (hvI 14 (by decide)) (0) (8) rfl rfl
    have w_I_451_15 := rg (hvI 15 (by decide)) (0) (499) rfl rfl
    have w_I_451_16 := rg (hvI 16 (by decide)) (0) (1) rfl rfl
    refine lv_aload_n hx hb dX12_goesOn_451 rfl (lv_at hl 0 rfl) ?_
    refine g_get F hK hP 0 (Wm_at0 G g q I_451 J_451 R_451 L_451) clX12 8 (by decide) flX12_36 rfl dX12_goesOn_452 ?_
    have w_I_451_6 := rg (hv_I_451 6 (by decide)) (0) (5) rfl rfl
    refine lv_if_le (tgt := 460) hx hb dX12_goesOn_455 (by decide) (fun c98 => ?_) (fun c98 => ?_)
    · have gc98 : (I_451 6).toInt ≤ 0 := (tle _ _).mp c98
      obtain ⟨qI, qJ, qR⟩ := xl0_451 (by omega)
      subst qI
      subst qJ
      subst qR
      refine lv_aload_n hx hb dX12_goesOn_460 rfl (lv_at hl 0 rfl) ?_
      refine lv_iconst (v := 1) hx hb dX12_goesOn_461 (by decide) ?_
      refine wvv (As := [.int 1]) (rest := []) (b := (g 45)) (d := 2) F hK hP hD hS hA (s_X12_joins l G g q I0 J0 R0 L_451 hvI hvR  1 (by decide) (by omega) (by omega) a d n (hd) (hn) (hRB)) kmV_X12_joins mlX12_342 clX12 rfl 0 (Wm_at0 G g q I0 J0 R0 L_451) ⟨(Nat.le_of_ble_eq_true rfl), (Nat.le_of_ble_eq_true rfl)⟩ hl.1 rfl (Nat.le_of_ble_eq_true rfl) dX12_goesOn_462 (fun u100 H locs hwr99 hP hD hS => ?_)
      obtain ⟨I101, J102, R103, L104⟩ := u100
      replace hP : va_P G.1 vwCl (Wm G g q I101 J102 R103 L104) H := hP
      replace hD : va_D A (Wm G g q I101 J102 R103 L104) := hD
      obtain ⟨hvI, hvR, tIr99, tRr99, F0r99, F1r99, F2r99, F3r99, F4r99, F5r99, F6r99⟩ := hwr99
      replace F0r99 : ((I101 11).toInt + (I101 15).toInt = (I0 11).toInt + (I0 15).toInt) := F0r99
      replace F1r99 : ((I101 15).toInt ≤ (I0 15).toInt) := F1r99
      replace F2r99 : (∃ n1 : Nat, 1800 * (I0 12).toInt + (I101 11).toInt = ((a : Nat) : Int) + (n1 : Int) ∧ RB d (Int32.toNatClampNeg (I101 15)) n1 a 1 (R0 28) (R0 29) (R0 30) (R0 31) (R0 32) (R0 33) (R103 26)) := F2r99
      replace F3r99 : (∀ i : Nat, (Int32.toNatClampNeg (R0 32 d)) ≤ i → i < (Int32.toNatClampNeg (I101 15)) → ((rkV (R0 33 i) : Nat) : Int) < (1 : Int)) := F3r99
      replace F4r99 : (nNn (R0 33) (Int32.toNatClampNeg (I101 15)) ≤ nNn (R0 33) (Int32.toNatClampNeg (I0 15))) := F4r99
      replace F5r99 : ((Int32.toNatClampNeg (R0 32 d)) ≤ (Int32.toNatClampNeg (I101 15))) := F5r99
      replace F6r99 : (KE I0 (R0 26) I101 (R103 26)) := F6r99
      replace hvI : InvI Wm_lo Wm_hi I101 := hvI
      replace hvR : InvR Wm_rl R103 := hvR
      replace tIr99 : SmF ([11, 15] : List Nat) I0 I101 := tIr99
      replace tRr99 : SmF ([26, 27] : List Nat) R0 R103 := tRr99
      have hv_I101 := hvI
      have hsI := smF_tr hsI tIr99 (by decide)
      have hsR := smF_tr hsR tRr99 (by decide)
      have u_I101_1 : (I101 1).toInt = (I0 1).toInt := congrArg Int32.toInt (tIr99 1 rfl)
      have u_I101_2 : (I101 2).toInt = (I0 2).toInt := congrArg Int32.toInt (tIr99 2 rfl)
      have u_I101_3 : (I101 3).toInt = (I0 3).toInt := congrArg Int32.toInt (tIr99 3 rfl)
      have u_I101_4 : (I101 4).toInt = (I0 4).toInt := congrArg Int32.toInt (tIr99 4 rfl)
      have u_I101_5 : (I101 5).toInt = (I0 5).toInt := congrArg Int32.toInt (tIr99 5 rfl)
      have u_I101_6 : (I101 6).toInt = (I0 6).toInt := congrArg Int32.toInt (tIr99 6 rfl)
      have w_I101_11 := rg (hvI 11 (by decide)) (0) (1800) rfl rfl
      have u_I101_12 : (I101 12).toInt = (I0 12).toInt := congrArg Int32.toInt (tIr99 12 rfl)
      have u_I101_13 : (I101 13).toInt = (I0 13).toInt := congrArg Int32.toInt (tIr99 13 rfl)
      have u_I101_14 : (I101 14).toInt = (I0 14).toInt := congrArg Int32.toInt (tIr99 14 rfl)
      have w_I101_15 := rg (hvI 15 (by decide)) (0) (499) rfl rfl
      have u_I101_16 : (I101 16).toInt = (I0 16).toInt := congrArg Int32.toInt (tIr99 16 rfl)
      have nr99_0 : ((I101 3).toInt ≤ (I101 4).toInt) := by omega
      have nr99_1 : ((I101 4).toInt ≤ (I0 1).toInt) := by omega
      have nr99_2 : ((¬ (I101 2).toInt = 0) → (I101 3).toInt < (I101 4).toInt) := by omega
      have nr99_3 : ((¬ (I0 6).toInt = 0) → (¬ (I101 6).toInt = 0)) := by omega
      have nr99_4 : ((I0 3).toInt ≤ (I101 3).toInt) := by omega
      clear z2_451 z3_451 z4_451 z5_451 z6_451
      have ker99 := ke_tr (ke_rf I0 (R0 26)) F6r99
      have jdr99 := jd_of (k := 1) hd ho hBY tIr99 tRr99 F0r99 F2r99 F3r99 F4r99 F5r99 rfl
      refine lv_aload_n hx hb dX12_goesOn_465 rfl (lv_at hl 0 rfl) ?_
      refine g_get F hK hP 0 (Wm_at0 G g q I101 J102 R103 L104) clX12 45 (by decide) flX12_149 rfl dX12_goesOn_466 ?_
      refine lv_iload_n hx hb dX12_goesOn_469 rfl (lv_at hl 1 rfl) ?_
      refine lv_iconst (v := 4) hx hb dX12_goesOn_470 (by decide) ?_
      refine p_row (W1 := fun y => Wm G g q I101 J102 y L104) (n := 28) F hK hP hD hS 32 (Wm_at32 G g q I101 J102 R103 L104) (in_of (by omega)) dX12_goesOn_471 (Wm_rowR28 G g q I101 J102 R103 L104) (fun R105 H locs eR105 hP hD hS => ?_)
      have hvR : InvR Wm_rl R105 := inv_upR hvR 28 eR105 (upd_in (hvR 28 (by decide)) (by decide))
      have hsR := smF_up hsR eR105 (by decide)
      have keR105 := ke_sm ker99 rfl rfl (up_ne eR105 (by decide))
      have rmR105 := rm_comma (R' := R105) jdr99 (by rw [tRr99 28 rfl]; exact xl1_451) (by omega) (by rw [eR105, show Int32.toNatClampNeg a1_451 = d from cl_n (by omega)])
      have hstR105 : (I0 3).toInt < (I101 4).toInt := by omega
      refine lv_aload_n hx hb dX12_goesOn_472 rfl (lv_at hl 0 rfl) ?_
      refine wvv (As := []) (rest := []) (b := (g 45)) (d := 2) F hK hP hD hS hA (s_X12_ahead2 l G g q I101 J102 R105 L104 hvI hvR   (by omega) (by omega) (by omega)) kmV_X12_ahead mlX12_247 clX12 rfl 0 (Wm_at0 G g q I101 J102 R105 L104) ⟨(Nat.le_of_ble_eq_true rfl), (Nat.le_of_ble_eq_true rfl)⟩ hl.1 rfl (Nat.le_of_ble_eq_true rfl) dX12_goesOn_473 (fun u107 H locs hwr106 hP hD hS => ?_)
      obtain ⟨I108, J109, R110, L111⟩ := u107
      replace hP : va_P G.1 vwCl (Wm G g q I108 J109 R110 L111) H := hP
      replace hD : va_D A (Wm G g q I108 J109 R110 L111) := hD
      obtain ⟨hvI, hvR, tIr106, tRr106, F0r106, F1r106, F2r106, F3r106, F4r106, F5r106, F6r106, F7r106, F8r106⟩ := hwr106
      replace F0r106 : ((I101 4).toInt ≤ (I108 3).toInt) := F0r106
      replace F1r106 : ((I108 3).toInt ≤ (I108 4).toInt) := F1r106
      replace F2r106 : ((I108 4).toInt ≤ (I101 1).toInt) := F2r106
      replace F3r106 : ((¬ (I108 2).toInt = 0) → (I108 3).toInt < (I108 4).toInt) := F3r106
      replace F4r106 : ((¬ (I101 6).toInt = 0) → (¬ (I108 6).toInt = 0)) := F4r106
      replace F5r106 : ((I101 3).toInt ≤ (I108 3).toInt) := F5r106
      replace F6r106 : (TL I108 (R105 0)) := F6r106
      replace F7r106 : (WB I108 (J109 0)) := F7r106
      replace F8r106 : (TL I101 (R105 0) → (I101 2).toInt = 1 → (I108 6).toInt = 0 → ((I108 2).toInt = 1 ∨ (I108 2).toInt = 2) → (I101 4).toInt + 1 ≤ (I108 3).toInt) := F8r106
      replace hvI : InvI Wm_lo Wm_hi I108 := hvI
      replace hvR : InvR Wm_rl R110 := hvR
      replace tIr106 : SmF ([2, 3, 4, 5, 6, 7] : List Nat) I101 I108 := tIr106
      replace tRr106 : SmF ([] : List Nat) R105 R110 := tRr106
      have hv_I108 := hvI
      have hsI := smF_tr hsI tIr106 (by decide)
      have hsR := smF_tr hsR tRr106 (by decide)
      have u_I108_1 : (I108 1).toInt = (I101 1).toInt := congrArg Int32.toInt (tIr106 1 rfl)
      have w_I108_2 := rg (hvI 2 (by decide)) (0) (3) rfl rfl
      have w_I108_3 := rg (hvI 3 (by decide)) (0) (1800) rfl rfl
      have w_I108_4 := rg (hvI 4 (by decide)) (0) (1800) rfl rfl
      have w_I108_5 := rg (hvI 5 (by decide)) (0) (9999) rfl rfl
      have w_I108_6 := rg (hvI 6 (by decide)) (0) (5) rfl rfl
      have u_I108_11 : (I108 11).toInt = (I101 11).toInt := congrArg Int32.toInt (tIr106 11 rfl)
      have u_I108_12 : (I108 12).toInt = (I101 12).toInt := congrArg Int32.toInt (tIr106 12 rfl)
      have u_I108_13 : (I108 13).toInt = (I101 13).toInt := congrArg Int32.toInt (tIr106 13 rfl)
      have u_I108_14 : (I108 14).toInt = (I101 14).toInt := congrArg Int32.toInt (tIr106 14 rfl)
      have u_I108_15 : (I108 15).toInt = (I101 15).toInt := congrArg Int32.toInt (tIr106 15 rfl)
      have u_I108_16 : (I108 16).toInt = (I101 16).toInt := congrArg Int32.toInt (tIr106 16 rfl)
      have nr106_0 : ((I108 3).toInt ≤ (I108 4).toInt) := by omega
      have nr106_1 : ((I108 4).toInt ≤ (I0 1).toInt) := by omega
      have nr106_2 : ((¬ (I108 2).toInt = 0) → (I108 3).toInt < (I108 4).toInt) := by omega
      have nr106_3 : ((¬ (I0 6).toInt = 0) → (¬ (I108 6).toInt = 0)) := by omega
      have nr106_4 : ((I0 3).toInt ≤ (I108 3).toInt) := by omega
      clear nr99_0 nr99_1 nr99_2 nr99_3 nr99_4 F1r106 F2r106 F3r106 F4r106 F5r106
      have ker106 := ke_sm keR105 (congrArg Int32.toInt (tIr106 12 rfl)) (congrArg Int32.toInt (tIr106 11 rfl)) (tRr106 26 rfl)
      have rsr106 := rs_ahead rmR105 tIr106 tRr106 F0r106 F6r106 F7r106 F8r106
      refine lv_aload_n hx hb dX12_goesOn_476 rfl (lv_at hl 0 rfl) ?_
      refine lv_iconst (v := 0) hx hb dX12_goesOn_477 (by decide) ?_
      refine p_fld (W1 := fun y => Wm G g q y J109 R110 L111) (n := 16) (v := 0) F hK hP hD hS 0 (Wm_at0 G g q I108 J109 R110 L111) clX12 54 (by decide) flX12_176 rfl (nar01 (by decide)) rfl (Nat.le_of_ble_eq_true rfl) dX12_goesOn_478 (Wm_setI16 G g q I108 J109 R110 L111 _) (fun I112 H locs eI112 hP hD hS => ?_)
      have hvI : InvI Wm_lo Wm_hi I112 := inv_upI hvI 16 eI112 (by decide)
      have hsI := smF_up hsI eI112 (by decide)
      have hv_I112 := hvI
      have u_I112_1 : (I112 1).toInt = (I108 1).toInt := by rw [eI112]; rfl
      have u_I112_2 : (I112 2).toInt = (I108 2).toInt := by rw [eI112]; rfl
      have u_I112_3 : (I112 3).toInt = (I108 3).toInt := by rw [eI112]; rfl
      have u_I112_4 : (I112 4).toInt = (I108 4).toInt := by rw [eI112]; rfl
      have u_I112_5 : (I112 5).toInt = (I108 5).toInt := by rw [eI112]; rfl
      have u_I112_6 : (I112 6).toInt = (I108 6).toInt := by rw [eI112]; rfl
      have u_I112_11 : (I112 11).toInt = (I108 11).toInt := by rw [eI112]; rfl
      have u_I112_12 : (I112 12).toInt = (I108 12).toInt := by rw [eI112]; rfl
      have u_I112_13 : (I112 13).toInt = (I108 13).toInt := by rw [eI112]; rfl
      have u_I112_14 : (I112 14).toInt = (I108 14).toInt := by rw [eI112]; rfl
      have u_I112_15 : (I112 15).toInt = (I108 15).toInt := by rw [eI112]; rfl
      have u_I112_16 : (I112 16).toInt = 0 := by rw [eI112]; rfl
      have keI112 := ke_sm ker106 (congrArg Int32.toInt (up_ne eI112 (by decide))) (congrArg Int32.toInt (up_ne eI112 (by decide))) rfl
      refine lv_iconst (v := 1) hx hb dX12_goesOn_481 (by decide) ?_
      rw [hQ]
      exact q_z F hr hlk (I112, J109, R110, L111) hP hD hS ⟨hvI, hvR, hsI, hsR, (show ((0 : Int) ≤ 1 ∧ 1 ≤ (1 : Int)) from by omega), (show ((1 = 1 ∧ (I112 6).toInt = 0) → (I0 3).toInt < (I112 3).toInt) from by omega), (show ((I112 3).toInt ≤ (I112 4).toInt) from by omega), (show ((I112 4).toInt ≤ (I0 1).toInt) from by omega), (show ((¬ (I112 2).toInt = 0) → (I112 3).toInt < (I112 4).toInt) from by omega), (show ((¬ (I0 6).toInt = 0) → (¬ (I112 6).toInt = 0)) from by omega), (show ((I0 3).toInt ≤ (I112 3).toInt) from by omega), (show (1 = 1 → RS a (Int32.toNatClampNeg (I112 16)) I112 (J109 0) R110) from fun _ => rs_op (r := 0) rsr106 eI112), (show (1 = 0 → EN a I112 R110) from fun h => absurd h (by decide)), (show (KE I0 (R0 26) I112 (R110 26)) from keI112)⟩ dX12_goesOn_482 (Nat.le_of_ble_eq_true rfl) (Nat.le_of_ble_eq_true rfl) (nar01 (by decide))
    · have gc98 : ¬ ((I_451 6).toInt ≤ 0) := fun q0 => c98 ((tle _ _).mpr q0)
      refine lv_iconst (v := 0) hx hb dX12_goesOn_458 (by decide) ?_
      rw [hQ]
      exact q_z F hr hlk (I_451, J_451, R_451, L_451) hP hD hS ⟨hvI, hvR, hsI, hsR, (show ((0 : Int) ≤ 0 ∧ 0 ≤ (1 : Int)) from by omega), (show ((0 = 1 ∧ (I_451 6).toInt = 0) → (I0 3).toInt < (I_451 3).toInt) from by omega), (show ((I_451 3).toInt ≤ (I_451 4).toInt) from by omega), (show ((I_451 4).toInt ≤ (I0 1).toInt) from by omega), (show ((¬ (I_451 2).toInt = 0) → (I_451 3).toInt < (I_451 4).toInt) from by omega), (show ((¬ (I0 6).toInt = 0) → (¬ (I_451 6).toInt = 0)) from by omega), (show ((I0 3).toInt ≤ (I_451 3).toInt) from by omega), (show (0 = 1 → RS a (Int32.toNatClampNeg (I_451 16)) I_451 (J_451 0) R_451) from fun h => absurd h (by decide)), (show (0 = 0 → EN a I_451 R_451) from fun _ h => absurd h (by omega)), (show (KE I0 (R0 26) I_451 (R_451 26)) from xl2_451)⟩ dX12_goesOn_459 (Nat.le_of_ble_eq_true rfl) (Nat.le_of_ble_eq_true rfl) (nar01 (by decide))
  have lab_578 : ∀  (I_578 : Nat → Int32) (J_578 : Nat → Int64) (R_578 : Nat → Nat → Int32) (L_578 : Nat → Nat → Int64) (H : Heap) (locs : List Loc) (ls : Array Slot), InvI Wm_lo Wm_hi I_578 → InvR Wm_rl R_578 → SmF ([2, 3, 4, 5, 6, 7, 11, 13, 14, 15, 16] : List Nat) I0 I_578 → SmF ([26, 27, 28, 29, 30, 33] : List Nat) R0 R_578 → ((I_578 2).toInt = 3) → ((I_578 16).toInt = 1) → (1 ≤ (I_578 13).toInt) → ((I_578 3).toInt ≤ (I_578 4).toInt) → ((I_578 4).toInt ≤ (I0 1).toInt) → ((¬ (I_578 2).toInt = 0) → (I_578 3).toInt < (I_578 4).toInt) → ((¬ (I0 6).toInt = 0) → (¬ (I_578 6).toInt = 0)) → ((I0 3).toInt ≤ (I_578 3).toInt) → (RM a 1 I_578 R_578) → (KE I0 (R0 26) I_578 (R_578 26)) → va_P G.1 vwCl (Wm G g q I_578 J_578 R_578 L_578) H → va_D A (Wm G g q I_578 J_578 R_578 L_578) → va_S A s.heap H locs → lv_has ls 5 [(0, .ref (g 45))] → W p l e (rmD 3 0 0) s m [.ref (g 45)].toArray below meth c H locs 0 0 Q (F0 m 578 ls []) := by
    intro I_578 J_578 R_578 L_578 H locs ls hvI hvR hsI hsR z0_578 z1_578 z2_578 z3_578 z4_578 z5_578 z6_578 z7_578 xl0_578 xl1_578 hP hD hS hl
    have hv_I_578 := hvI
    have w_I_578_1 := rg (hvI 1 (by decide)) (0) (1800) rfl rfl
    have v_I_578_1 : (I_578 1).toInt = (I0 1).toInt := congrArg Int32.toInt (hsI 1 rfl)
    have w_I_578_2 := rg (hvI 2 (by decide)) (0) (3) rfl rfl
    have w_I_578_3 := rg (hvI 3 (by decide)) (0) (1800) rfl rfl
    have w_I_578_4 := rg (hvI 4 (by decide)) (0) (1800) rfl rfl
    have w_I_578_5 := rg (hvI 5 (by decide)) (0) (9999) rfl rfl
    have w_I_578_6 := rg (hvI 6 (by decide)) (0) (5) rfl rfl
    have w_I_578_11 := rg (hvI 11 (by decide)) (0) (1800) rfl rfl
    have w_I_578_12 := rg (hvI 12 (by decide)) (0) (1) rfl rfl
    have v_I_578_12 : (I_578 12).toInt = (I0 12).toInt := congrArg Int32.toInt (hsI 12 rfl)
    have w_I_578_13 := rg (hvI 13 (by decide)) (0) (9) rfl rfl
    have w_I_578_14 := rg (hvI 14 (by decide)) (0) (8) rfl rfl
    have w_I_578_15 := rg (hvI 15 (by decide)) (0) (499) rfl rfl
    have w_I_578_16 := rg (hvI 16 (by decide)) (0) (1) rfl rfl
    have hst578 : (I0 3).toInt < (I_578 4).toInt := by omega
    refine lv_aload_n hx hb dX12_goesOn_578 rfl (lv_at hl 0 rfl) ?_
    refine wvv (As := []) (rest := []) (b := (g 45)) (d := 2) F hK hP hD hS hA (s_X12_ahead2 l G g q I_578 J_578 R_578 L_578 hvI hvR   (by omega) (by omega) (by omega)) kmV_X12_ahead mlX12_247 clX12 rfl 0 (Wm_at0 G g q I_578 J_578 R_578 L_578) ⟨(Nat.le_of_ble_eq_true rfl), (Nat.le_of_ble_eq_true rfl)⟩ hl.1 rfl (Nat.le_of_ble_eq_true rfl) dX12_goesOn_579 (fun u114 H locs hwr113 hP hD hS => ?_)
    obtain ⟨I115, J116, R117, L118⟩ := u114
    replace hP : va_P G.1 vwCl (Wm G g q I115 J116 R117 L118) H := hP
    replace hD : va_D A (Wm G g q I115 J116 R117 L118) := hD
    obtain ⟨hvI, hvR, tIr113, tRr113, F0r113, F1r113, F2r113, F3r113, F4r113, F5r113, F6r113, F7r113, F8r113⟩ := hwr113
    replace F0r113 : ((I_578 4).toInt ≤ (I115 3).toInt) := F0r113
    replace F1r113 : ((I115 3).toInt ≤ (I115 4).toInt) := F1r113
    replace F2r113 : ((I115 4).toInt ≤ (I_578 1).toInt) := F2r113
    replace F3r113 : ((¬ (I115 2).toInt = 0) → (I115 3).toInt < (I115 4).toInt) := F3r113
    replace F4r113 : ((¬ (I_578 6).toInt = 0) → (¬ (I115 6).toInt = 0)) := F4r113
    replace F5r113 : ((I_578 3).toInt ≤ (I115 3).toInt) := F5r113
    replace F6r113 : (TL I115 (R_578 0)) := F6r113
    replace F7r113 : (WB I115 (J116 0)) := F7r113
    replace F8r113 : (TL I_578 (R_578 0) → (I_578 2).toInt = 1 → (I115 6).toInt = 0 → ((I115 2).toInt = 1 ∨ (I115 2).toInt = 2) → (I_578 4).toInt + 1 ≤ (I115 3).toInt) := F8r113
    replace hvI : InvI Wm_lo Wm_hi I115 := hvI
    replace hvR : InvR Wm_rl R117 := hvR
    replace tIr113 : SmF ([2, 3, 4, 5, 6, 7] : List Nat) I_578 I115 := tIr113
    replace tRr113 : SmF ([] : List Nat) R_578 R117 := tRr113
    have hv_I115 := hvI
    have hsI := smF_tr hsI tIr113 (by decide)
    have hsR := smF_tr hsR tRr113 (by decide)
    have u_I115_1 : (I115 1).toInt = (I_578 1).toInt := congrArg Int32.toInt (tIr113 1 rfl)
    have w_I115_2 := rg (hvI 2 (by decide)) (0) (3) rfl rfl
    have w_I115_3 := rg (hvI 3 (by decide)) (0) (1800) rfl rfl
    have w_I115_4 := rg (hvI 4 (by decide)) (0) (1800) rfl rfl
    have w_I115_5 := rg (hvI 5 (by decide)) (0) (9999) rfl rfl
    have w_I115_6 := rg (hvI 6 (by decide)) (0) (5) rfl rfl
    have u_I115_11 : (I115 11).toInt = (I_578 11).toInt := congrArg Int32.toInt (tIr113 11 rfl)
    have u_I115_12 : (I115 12).toInt = (I_578 12).toInt := congrArg Int32.toInt (tIr113 12 rfl)
    have u_I115_13 : (I115 13).toInt = (I_578 13).toInt := congrArg Int32.toInt (tIr113 13 rfl)
    have u_I115_14 : (I115 14).toInt = (I_578 14).toInt := congrArg Int32.toInt (tIr113 14 rfl)
    have u_I115_15 : (I115 15).toInt = (I_578 15).toInt := congrArg Int32.toInt (tIr113 15 rfl)
    have u_I115_16 : (I115 16).toInt = (I_578 16).toInt := congrArg Int32.toInt (tIr113 16 rfl)
    have nr113_0 : ((I115 3).toInt ≤ (I115 4).toInt) := by omega
    have nr113_1 : ((I115 4).toInt ≤ (I0 1).toInt) := by omega
    have nr113_2 : ((¬ (I115 2).toInt = 0) → (I115 3).toInt < (I115 4).toInt) := by omega
    have nr113_3 : ((¬ (I0 6).toInt = 0) → (¬ (I115 6).toInt = 0)) := by omega
    have nr113_4 : ((I0 3).toInt ≤ (I115 3).toInt) := by omega
    clear z3_578 z4_578 z5_578 z6_578 z7_578 F1r113 F2r113 F3r113 F4r113 F5r113
    have ker113 := ke_sm xl1_578 (congrArg Int32.toInt (tIr113 12 rfl)) (congrArg Int32.toInt (tIr113 11 rfl)) (tRr113 26 rfl)
    have rsr113 := rs_ahead xl0_578 tIr113 tRr113 F0r113 F6r113 F7r113 F8r113
    refine lv_iconst (v := 1) hx hb dX12_goesOn_582 (by decide) ?_
    rw [hQ]
    exact q_z F hr hlk (I115, J116, R117, L118) hP hD hS ⟨hvI, hvR, hsI, hsR, (show ((0 : Int) ≤ 1 ∧ 1 ≤ (1 : Int)) from by omega), (show ((1 = 1 ∧ (I115 6).toInt = 0) → (I0 3).toInt < (I115 3).toInt) from by omega), (show ((I115 3).toInt ≤ (I115 4).toInt) from by omega), (show ((I115 4).toInt ≤ (I0 1).toInt) from by omega), (show ((¬ (I115 2).toInt = 0) → (I115 3).toInt < (I115 4).toInt) from by omega), (show ((¬ (I0 6).toInt = 0) → (¬ (I115 6).toInt = 0)) from by omega), (show ((I0 3).toInt ≤ (I115 3).toInt) from by omega), (show (1 = 1 → RS a (Int32.toNatClampNeg (I115 16)) I115 (J116 0) R117) from fun _ => rs_cl rsr113 (by omega)), (show (1 = 0 → EN a I115 R117) from fun h => absurd h (by decide)), (show (KE I0 (R0 26) I115 (R117 26)) from ker113)⟩ dX12_goesOn_583 (Nat.le_of_ble_eq_true rfl) (Nat.le_of_ble_eq_true rfl) (nar01 (by decide))
  have lab_561 : ∀ (a2_561 : Int32) (I_561 : Nat → Int32) (J_561 : Nat → Int64) (R_561 : Nat → Nat → Int32) (L_561 : Nat → Nat → Int64) (H : Heap) (locs : List Loc) (ls : Array Slot), InvI Wm_lo Wm_hi I_561 → InvR Wm_rl R_561 → SmF ([2, 3, 4, 5, 6, 7, 11, 13, 14, 15, 16] : List Nat) I0 I_561 → SmF ([26, 27, 28, 29, 30, 33] : List Nat) R0 R_561 → ((2 : Int) ≤ a2_561.toInt ∧ a2_561.toInt ≤ (5 : Int)) → ((I_561 2).toInt = 3) → ((I_561 16).toInt = 1) → (1 ≤ (I_561 13).toInt) → ((I_561 3).toInt ≤ (I_561 4).toInt) → ((I_561 4).toInt ≤ (I0 1).toInt) → ((¬ (I_561 2).toInt = 0) → (I_561 3).toInt < (I_561 4).toInt) → ((¬ (I0 6).toInt = 0) → (¬ (I_561 6).toInt = 0)) → ((I0 3).toInt ≤ (I_561 3).toInt) → (RM a 1 I_561 R_561) → (KE I0 (R0 26) I_561 (R_561 26)) → va_P G.1 vwCl (Wm G g q I_561 J_561 R_561 L_561) H → va_D A (Wm G g q I_561 J_561 R_561 L_561) → va_S A s.heap H locs → lv_has ls 5 [(0, .ref (g 45)), (2, .int a2_561)] → W p l e (rmD 3 0 0) s m [.ref (g 45)].toArray below meth c H locs 0 0 Q (F0 m 561 ls []) := by
    intro a2_561 I_561 J_561 R_561 L_561 H locs ls hvI hvR hsI hsR y0_561 z0_561 z1_561 z2_561 z3_561 z4_561 z5_561 z6_561 z7_561 xl0_561 xl1_561 hP hD hS hl
    have hv_I_561 := hvI
    have w_I_561_1 := rg (hvI 1 (by decide)) (0) (1800) rfl rfl
    have v_I_561_1 : (I_561 1).toInt = (I0 1).toInt := congrArg Int32.toInt (hsI 1 rfl)
    have w_I_561_2 := rg (hvI 2 (by decide)) (0) (3) rfl rfl
    have w_I_561_3 := rg (hvI 3 (by decide)) (0) (1800) rfl rfl
    have w_I_561_4 := rg (hvI 4 (by decide)) (0) (1800) rfl rfl
    have w_I_561_5 := rg (hvI 5 (by decide)) (0) (9999) rfl rfl
    have w_I_561_6 := rg (hvI 6 (by decide)) (0) (5) rfl rfl
    have w_I_561_11 := rg (hvI 11 (by decide)) (0) (1800) rfl rfl
    have w_I_561_12 := rg (hvI 12 (by decide)) (0) (1) rfl rfl
    have v_I_561_12 : (I_561 12).toInt = (I0 12).toInt := congrArg Int32.toInt (hsI 12 rfl)
    have w_I_561_13 := rg (hvI 13 (by decide)) (0) (9) rfl rfl
    have w_I_561_14 := rg (hvI 14 (by decide)) (0) (8) rfl rfl
    have w_I_561_15 := rg (hvI 15 (by decide)) (0) (499) rfl rfl
    have w_I_561_16 := rg (hvI 16 (by decide)) (0) (1) rfl rfl
    refine lv_iload_n hx hb dX12_goesOn_561 rfl (lv_at hl 1 rfl) ?_
    refine lv_iconst (v := 5) hx hb dX12_goesOn_562 (by decide) ?_
    refine lv_icmp_ne (tgt := 578) hx hb dX12_goesOn_563 (by decide) (fun c119 => ?_) (fun c119 => ?_)
    · have gc119 : ¬ (a2_561.toInt = 5) := fun q0 => c119 (Int32.toInt_inj.mp q0)
      exact lab_578  I_561 J_561 R_561 L_561 _ _ _ hvI hvR hsI hsR (show ((I_561 2).toInt = 3) from by omega) (show ((I_561 16).toInt = 1) from by omega) (show (1 ≤ (I_561 13).toInt) from by omega) (show ((I_561 3).toInt ≤ (I_561 4).toInt) from by omega) (show ((I_561 4).toInt ≤ (I0 1).toInt) from by omega) (show ((¬ (I_561 2).toInt = 0) → (I_561 3).toInt < (I_561 4).toInt) from by omega) (show ((¬ (I0 6).toInt = 0) → (¬ (I_561 6).toInt = 0)) from by omega) (show ((I0 3).toInt ≤ (I_561 3).toInt) from by omega) (show (RM a 1 I_561 R_561) from xl0_561) (show (KE I0 (R0 26) I_561 (R_561 26)) from xl1_561) hP hD hS (lv_sub hl [0] rfl)
    · have gc119 : a2_561.toInt = 5 := congrArg Int32.toInt c119
      refine lv_aload_n hx hb dX12_goesOn_566 rfl (lv_at hl 0 rfl) ?_
      refine g_get F hK hP 0 (Wm_at0 G g q I_561 J_561 R_561 L_561) clX12 46 (by decide) flX12_152 rfl dX12_goesOn_567 ?_
      refine lv_aload_n hx hb dX12_goesOn_570 rfl (lv_at hl 0 rfl) ?_
      refine g_get F hK hP 0 (Wm_at0 G g q I_561 J_561 R_561 L_561) clX12 50 (by decide) flX12_164 rfl dX12_goesOn_571 ?_
      have w_I_561_13 := rg (hv_I_561 13 (by decide)) (0) (9) rfl rfl
      refine lv_iconst (v := 1) hx hb dX12_goesOn_574 (by decide) ?_
      refine lv_isub hx hb dX12_goesOn_575 ?_
      refine lv_topi (fun x120 ex120 => ?_)
      have fx120 : x120.toInt = (I_561 13).toInt - 1 := by rw [ex120]; exact t_sub (by show (-2147483648 : Int) ≤ (I_561 13).toInt - 1; omega) (by show (I_561 13).toInt - 1 ≤ 2147483647; omega)
      refine lv_iconst (v := 2) hx hb dX12_goesOn_576 (by decide) ?_
      refine p_row (W1 := fun y => Wm G g q I_561 J_561 y L_561) (n := 29) F hK hP hD hS 33 (Wm_at33 G g q I_561 J_561 R_561 L_561) (in_of (by omega)) dX12_goesOn_577 (Wm_rowR29 G g q I_561 J_561 R_561 L_561) (fun R121 H locs eR121 hP hD hS => ?_)
      have hvR : InvR Wm_rl R121 := inv_upR hvR 29 eR121 (upd_in (hvR 29 (by decide)) (by decide))
      have hsR := smF_up hsR eR121 (by decide)
      have keR121 := ke_sm xl1_561 rfl rfl (up_ne eR121 (by decide))
      have rmR121 := rm_ph (R' := R121) (k := Int32.toNatClampNeg x120) xl0_561 (by have := clamp_nn (x := x120) (by omega); omega) eR121
      exact lab_578  I_561 J_561 R121 L_561 _ _ _ hvI hvR hsI hsR (show ((I_561 2).toInt = 3) from by omega) (show ((I_561 16).toInt = 1) from by omega) (show (1 ≤ (I_561 13).toInt) from by omega) (show ((I_561 3).toInt ≤ (I_561 4).toInt) from by omega) (show ((I_561 4).toInt ≤ (I0 1).toInt) from by omega) (show ((¬ (I_561 2).toInt = 0) → (I_561 3).toInt < (I_561 4).toInt) from by omega) (show ((¬ (I0 6).toInt = 0) → (¬ (I_561 6).toInt = 0)) from by omega) (show ((I0 3).toInt ≤ (I_561 3).toInt) from by omega) (show (RM a 1 I_561 R121) from rmR121) (show (KE I0 (R0 26) I_561 (R121 26)) from keR121) hP hD hS (lv_sub hl [0] rfl)
  have lab_511 : ∀ (a1_511 : Int32) (a2_511 : Int32) (I_511 : Nat → Int32) (J_511 : Nat → Int64) (R_511 : Nat → Nat → Int32) (L_511 : Nat → Nat → Int64) (H : Heap) (locs : List Loc) (ls : Array Slot), InvI Wm_lo Wm_hi I_511 → InvR Wm_rl R_511 → SmF ([2, 3, 4, 5, 6, 7, 11, 13, 14, 15, 16] : List Nat) I0 I_511 → SmF ([26, 27, 28, 29, 30, 33] : List Nat) R0 R_511 → ((0 : Int) ≤ a1_511.toInt ∧ a1_511.toInt ≤ (8 : Int)) → ((2 : Int) ≤ a2_511.toInt ∧ a2_511.toInt ≤ (5 : Int)) → (a1_511.toInt = (I0 13).toInt - 1) → ((I_511 6).toInt = 0 → (I0 2).toInt = 3) → (2 ≤ a2_511.toInt) → (¬ a2_511.toInt = 3) → ((I_511 3).toInt ≤ (I_511 4).toInt) → ((I_511 4).toInt ≤ (I0 1).toInt) → ((¬ (I_511 2).toInt = 0) → (I_511 3).toInt < (I_511 4).toInt) → ((¬ (I0 6).toInt = 0) → (¬ (I_511 6).toInt = 0)) → ((I0 3).toInt ≤ (I_511 3).toInt) → ((I_511 6).toInt = 0 → (I0 = I_511 ∧ J0 = J_511 ∧ R0 = R_511)) → ((R0 28 d).toInt = a2_511.toInt) → (KE I0 (R0 26) I_511 (R_511 26)) → va_P G.1 vwCl (Wm G g q I_511 J_511 R_511 L_511) H → va_D A (Wm G g q I_511 J_511 R_511 L_511) → va_S A s.heap H locs → lv_has ls 5 [(0, .ref (g 45)), (1, .int a1_511), (2, .int a2_511)] → W p l e (rmD 3 0 0) s m [.ref (g 45)].toArray below meth c H locs 0 0 Q (F0 m 511 ls []) := by
    intro a1_511 a2_511 I_511 J_511 R_511 L_511 H locs ls hvI hvR hsI hsR y0_511 y1_511 z0_511 z1_511 z2_511 z3_511 z4_511 z5_511 z6_511 z7_511 z8_511 xl0_511 xl1_511 xl2_511 hP hD hS hl
    have hv_I_511 := hvI
    have w_I_511_1 := rg (hvI 1 (by decide)) (0) (1800) rfl rfl
    have v_I_511_1 : (I_511 1).toInt = (I0 1).toInt := congrArg Int32.toInt (hsI 1 rfl)
    have w_I_511_2 := rg (hvI 2 (by decide)) (0) (3) rfl rfl
    have w_I_511_3 := rg (hvI 3 (by decide)) (0) (1800) rfl rfl
    have w_I_511_4 := rg (hvI 4 (by decide)) (0) (1800) rfl rfl
    have w_I_511_5 := rg (hvI 5 (by decide)) (0) (9999) rfl rfl
    have w_I_511_6 := rg (hvI 6 (by decide)) (0) (5) rfl rfl
    have w_I_511_11 := rg (hvI 11 (by decide)) (0) (1800) rfl rfl
    have w_I_511_12 := rg (hvI 12 (by decide)) (0) (1) rfl rfl
    have v_I_511_12 : (I_511 12).toInt = (I0 12).toInt := congrArg Int32.toInt (hsI 12 rfl)
    have w_I_511_13 := rg (hvI 13 (by decide)) (0) (9) rfl rfl
    have w_I_511_14 := rg (hvI 14 (by decide)) (0) (8) rfl rfl
    have w_I_511_15 := rg (hvI 15 (by decide)) (0) (499) rfl rfl
    have w_I_511_16 := rg (hvI 16 (by decide)) (0) (1) rfl rfl
    refine lv_aload_n hx hb dX12_goesOn_511 rfl (lv_at hl 0 rfl) ?_
    refine g_get F hK hP 0 (Wm_at0 G g q I_511 J_511 R_511 L_511) clX12 8 (by decide) flX12_36 rfl dX12_goesOn_512 ?_
    have w_I_511_6 := rg (hv_I_511 6 (by decide)) (0) (5) rfl rfl
    refine lv_if_le (tgt := 520) hx hb dX12_goesOn_515 (by decide) (fun c122 => ?_) (fun c122 => ?_)
    · have gc122 : (I_511 6).toInt ≤ 0 := (tle _ _).mp c122
      obtain ⟨qI, qJ, qR⟩ := xl0_511 (by omega)
      subst qI
      subst qJ
      subst qR
      refine lv_aload_n hx hb dX12_goesOn_520 rfl (lv_at hl 0 rfl) ?_
      refine lv_iconst (v := 1) hx hb dX12_goesOn_521 (by decide) ?_
      refine wvv (As := [.int 1]) (rest := []) (b := (g 45)) (d := 2) F hK hP hD hS hA (s_X12_joins l G g q I0 J0 R0 L_511 hvI hvR  1 (by decide) (by omega) (by omega) a d n (hd) (hn) (hRB)) kmV_X12_joins mlX12_342 clX12 rfl 0 (Wm_at0 G g q I0 J0 R0 L_511) ⟨(Nat.le_of_ble_eq_true rfl), (Nat.le_of_ble_eq_true rfl)⟩ hl.1 rfl (Nat.le_of_ble_eq_true rfl) dX12_goesOn_522 (fun u124 H locs hwr123 hP hD hS => ?_)
      obtain ⟨I125, J126, R127, L128⟩ := u124
      replace hP : va_P G.1 vwCl (Wm G g q I125 J126 R127 L128) H := hP
      replace hD : va_D A (Wm G g q I125 J126 R127 L128) := hD
      obtain ⟨hvI, hvR, tIr123, tRr123, F0r123, F1r123, F2r123, F3r123, F4r123, F5r123, F6r123⟩ := hwr123
      replace F0r123 : ((I125 11).toInt + (I125 15).toInt = (I0 11).toInt + (I0 15).toInt) := F0r123
      replace F1r123 : ((I125 15).toInt ≤ (I0 15).toInt) := F1r123
      replace F2r123 : (∃ n1 : Nat, 1800 * (I0 12).toInt + (I125 11).toInt = ((a : Nat) : Int) + (n1 : Int) ∧ RB d (Int32.toNatClampNeg (I125 15)) n1 a 1 (R0 28) (R0 29) (R0 30) (R0 31) (R0 32) (R0 33) (R127 26)) := F2r123
      replace F3r123 : (∀ i : Nat, (Int32.toNatClampNeg (R0 32 d)) ≤ i → i < (Int32.toNatClampNeg (I125 15)) → ((rkV (R0 33 i) : Nat) : Int) < (1 : Int)) := F3r123
      replace F4r123 : (nNn (R0 33) (Int32.toNatClampNeg (I125 15)) ≤ nNn (R0 33) (Int32.toNatClampNeg (I0 15))) := F4r123
      replace F5r123 : ((Int32.toNatClampNeg (R0 32 d)) ≤ (Int32.toNatClampNeg (I125 15))) := F5r123
      replace F6r123 : (KE I0 (R0 26) I125 (R127 26)) := F6r123
      replace hvI : InvI Wm_lo Wm_hi I125 := hvI
      replace hvR : InvR Wm_rl R127 := hvR
      replace tIr123 : SmF ([11, 15] : List Nat) I0 I125 := tIr123
      replace tRr123 : SmF ([26, 27] : List Nat) R0 R127 := tRr123
      have hv_I125 := hvI
      have hsI := smF_tr hsI tIr123 (by decide)
      have hsR := smF_tr hsR tRr123 (by decide)
      have u_I125_1 : (I125 1).toInt = (I0 1).toInt := congrArg Int32.toInt (tIr123 1 rfl)
      have u_I125_2 : (I125 2).toInt = (I0 2).toInt := congrArg Int32.toInt (tIr123 2 rfl)
      have u_I125_3 : (I125 3).toInt = (I0 3).toInt := congrArg Int32.toInt (tIr123 3 rfl)
      have u_I125_4 : (I125 4).toInt = (I0 4).toInt := congrArg Int32.toInt (tIr123 4 rfl)
      have u_I125_5 : (I125 5).toInt = (I0 5).toInt := congrArg Int32.toInt (tIr123 5 rfl)
      have u_I125_6 : (I125 6).toInt = (I0 6).toInt := congrArg Int32.toInt (tIr123 6 rfl)
      have w_I125_11 := rg (hvI 11 (by decide)) (0) (1800) rfl rfl
      have u_I125_12 : (I125 12).toInt = (I0 12).toInt := congrArg Int32.toInt (tIr123 12 rfl)
      have u_I125_13 : (I125 13).toInt = (I0 13).toInt := congrArg Int32.toInt (tIr123 13 rfl)
      have u_I125_14 : (I125 14).toInt = (I0 14).toInt := congrArg Int32.toInt (tIr123 14 rfl)
      have w_I125_15 := rg (hvI 15 (by decide)) (0) (499) rfl rfl
      have u_I125_16 : (I125 16).toInt = (I0 16).toInt := congrArg Int32.toInt (tIr123 16 rfl)
      have nr123_0 : ((I125 3).toInt ≤ (I125 4).toInt) := by omega
      have nr123_1 : ((I125 4).toInt ≤ (I0 1).toInt) := by omega
      have nr123_2 : ((¬ (I125 2).toInt = 0) → (I125 3).toInt < (I125 4).toInt) := by omega
      have nr123_3 : ((¬ (I0 6).toInt = 0) → (¬ (I125 6).toInt = 0)) := by omega
      have nr123_4 : ((I0 3).toInt ≤ (I125 3).toInt) := by omega
      clear z4_511 z5_511 z6_511 z7_511 z8_511
      have ker123 := ke_tr (ke_rf I0 (R0 26)) F6r123
      have jdr123 := jd_of (k := 1) hd ho hBY tIr123 tRr123 F0r123 F2r123 F3r123 F4r123 F5r123 rfl
      have hkr123 : (R127 28 d).toInt = (R0 28 d).toInt := congrArg Int32.toInt (congrFun (tRr123 28 rfl) d)
      have hdp := jd_pos jdr123 (by omega)
      refine lv_aload_n hx hb dX12_goesOn_525 rfl (lv_at hl 0 rfl) ?_
      refine lv_dup hx hb dX12_goesOn_526 rfl ?_
      refine g_get F hK hP 0 (Wm_at0 G g q I125 J126 R127 L128) clX12 50 (by decide) flX12_164 rfl dX12_goesOn_527 ?_
      refine cst_i ((tIr123 13 rfl)) ?_
      have w_I0_13 := rg (hvI0 13 (by decide)) (0) (9) rfl rfl
      refine lv_iconst (v := 1) hx hb dX12_goesOn_530 (by decide) ?_
      refine lv_isub hx hb dX12_goesOn_531 ?_
      refine lv_topi (fun x129 ex129 => ?_)
      have fx129 : x129.toInt = (I0 13).toInt - 1 := by rw [ex129]; exact t_sub (by show (-2147483648 : Int) ≤ (I0 13).toInt - 1; omega) (by show (I0 13).toInt - 1 ≤ 2147483647; omega)
      refine p_fld (W1 := fun y => Wm G g q y J126 R127 L128) (n := 13) (v := x129) F hK hP hD hS 0 (Wm_at0 G g q I125 J126 R127 L128) clX12 50 (by decide) flX12_164 rfl rfl rfl (Nat.le_of_ble_eq_true rfl) dX12_goesOn_532 (Wm_setI13 G g q I125 J126 R127 L128 _) (fun I130 H locs eI130 hP hD hS => ?_)
      have hvI : InvI Wm_lo Wm_hi I130 := inv_upI hvI 13 eI130 (show ((0 : Int) ≤ x129.toInt ∧ x129.toInt ≤ (9 : Int)) from by omega)
      have hsI := smF_up hsI eI130 (by decide)
      have hv_I130 := hvI
      have u_I130_1 : (I130 1).toInt = (I125 1).toInt := by rw [eI130]; rfl
      have u_I130_2 : (I130 2).toInt = (I125 2).toInt := by rw [eI130]; rfl
      have u_I130_3 : (I130 3).toInt = (I125 3).toInt := by rw [eI130]; rfl
      have u_I130_4 : (I130 4).toInt = (I125 4).toInt := by rw [eI130]; rfl
      have u_I130_5 : (I130 5).toInt = (I125 5).toInt := by rw [eI130]; rfl
      have u_I130_6 : (I130 6).toInt = (I125 6).toInt := by rw [eI130]; rfl
      have u_I130_11 : (I130 11).toInt = (I125 11).toInt := by rw [eI130]; rfl
      have u_I130_12 : (I130 12).toInt = (I125 12).toInt := by rw [eI130]; rfl
      have u_I130_13 : (I130 13).toInt = x129.toInt := by rw [eI130]; rfl
      have u_I130_14 : (I130 14).toInt = (I125 14).toInt := by rw [eI130]; rfl
      have u_I130_15 : (I130 15).toInt = (I125 15).toInt := by rw [eI130]; rfl
      have u_I130_16 : (I130 16).toInt = (I125 16).toInt := by rw [eI130]; rfl
      have keI130 := ke_sm ker123 (congrArg Int32.toInt (up_ne eI130 (by decide))) (congrArg Int32.toInt (up_ne eI130 (by decide))) rfl
      refine lv_aload_n hx hb dX12_goesOn_535 rfl (lv_at hl 0 rfl) ?_
      refine lv_dup hx hb dX12_goesOn_536 rfl ?_
      refine g_get F hK hP 0 (Wm_at0 G g q I130 J126 R127 L128) clX12 51 (by decide) flX12_167 rfl dX12_goesOn_537 ?_
      refine cst_i (((up_ne (j := 14) eI130 (by decide)).trans (tIr123 14 rfl))) ?_
      have w_I0_14 := rg (hvI0 14 (by decide)) (0) (8) rfl rfl
      refine lv_iconst (v := 1) hx hb dX12_goesOn_540 (by decide) ?_
      refine lv_isub hx hb dX12_goesOn_541 ?_
      refine lv_topi (fun x131 ex131 => ?_)
      have fx131 : x131.toInt = (I0 14).toInt - 1 := by rw [ex131]; exact t_sub (by show (-2147483648 : Int) ≤ (I0 14).toInt - 1; omega) (by show (I0 14).toInt - 1 ≤ 2147483647; omega)
      refine p_fld (W1 := fun y => Wm G g q y J126 R127 L128) (n := 14) (v := x131) F hK hP hD hS 0 (Wm_at0 G g q I130 J126 R127 L128) clX12 51 (by decide) flX12_167 rfl rfl rfl (Nat.le_of_ble_eq_true rfl) dX12_goesOn_542 (Wm_setI14 G g q I130 J126 R127 L128 _) (fun I132 H locs eI132 hP hD hS => ?_)
      have hvI : InvI Wm_lo Wm_hi I132 := inv_upI hvI 14 eI132 (show ((0 : Int) ≤ x131.toInt ∧ x131.toInt ≤ (8 : Int)) from by omega)
      have hsI := smF_up hsI eI132 (by decide)
      have hv_I132 := hvI
      have u_I132_1 : (I132 1).toInt = (I130 1).toInt := by rw [eI132]; rfl
      have u_I132_2 : (I132 2).toInt = (I130 2).toInt := by rw [eI132]; rfl
      have u_I132_3 : (I132 3).toInt = (I130 3).toInt := by rw [eI132]; rfl
      have u_I132_4 : (I132 4).toInt = (I130 4).toInt := by rw [eI132]; rfl
      have u_I132_5 : (I132 5).toInt = (I130 5).toInt := by rw [eI132]; rfl
      have u_I132_6 : (I132 6).toInt = (I130 6).toInt := by rw [eI132]; rfl
      have u_I132_11 : (I132 11).toInt = (I130 11).toInt := by rw [eI132]; rfl
      have u_I132_12 : (I132 12).toInt = (I130 12).toInt := by rw [eI132]; rfl
      have u_I132_13 : (I132 13).toInt = (I130 13).toInt := by rw [eI132]; rfl
      have u_I132_14 : (I132 14).toInt = x131.toInt := by rw [eI132]; rfl
      have u_I132_15 : (I132 15).toInt = (I130 15).toInt := by rw [eI132]; rfl
      have u_I132_16 : (I132 16).toInt = (I130 16).toInt := by rw [eI132]; rfl
      have keI132 := ke_sm keI130 (congrArg Int32.toInt (up_ne eI132 (by decide))) (congrArg Int32.toInt (up_ne eI132 (by decide))) rfl
      refine lv_iload_n hx hb dX12_goesOn_545 rfl (lv_at hl 2 rfl) ?_
      refine lv_iconst (v := 4) hx hb dX12_goesOn_546 (by decide) ?_
      refine lv_icmp_ne (tgt := 561) hx hb dX12_goesOn_547 (by decide) (fun c133 => ?_) (fun c133 => ?_)
      · have gc133 : ¬ (a2_511.toInt = 4) := fun q0 => c133 (Int32.toInt_inj.mp q0)
        exact lab_561 a2_511 I132 J126 R127 L128 _ _ _ hvI hvR hsI hsR (show ((2 : Int) ≤ a2_511.toInt ∧ a2_511.toInt ≤ (5 : Int)) from by omega) (show ((I132 2).toInt = 3) from by omega) (show ((I132 16).toInt = 1) from by omega) (show (1 ≤ (I132 13).toInt) from by omega) (show ((I132 3).toInt ≤ (I132 4).toInt) from by omega) (show ((I132 4).toInt ≤ (I0 1).toInt) from by omega) (show ((¬ (I132 2).toInt = 0) → (I132 3).toInt < (I132 4).toInt) from by omega) (show ((¬ (I0 6).toInt = 0) → (¬ (I132 6).toInt = 0)) from by omega) (show ((I0 3).toInt ≤ (I132 3).toInt) from by omega) (show (RM a 1 I132 R127) from rm_close jdr123 (by omega) (by omega) (by omega) (by omega) (by omega) (by omega) (by omega) (by omega) (by omega)) (show (KE I0 (R0 26) I132 (R127 26)) from keI132) hP hD hS (lv_sub hl [0, 2] rfl)
      · have gc133 : a2_511.toInt = 4 := congrArg Int32.toInt c133
        refine lv_aload_n hx hb dX12_goesOn_550 rfl (lv_at hl 0 rfl) ?_
        refine lv_aload_n hx hb dX12_goesOn_551 rfl (lv_at hl 0 rfl) ?_
        refine g_get F hK hP 0 (Wm_at0 G g q I132 J126 R127 L128) clX12 48 (by decide) flX12_158 rfl dX12_goesOn_552 ?_
        refine lv_iload_n hx hb dX12_goesOn_555 rfl (lv_at hl 1 rfl) ?_
        refine g_iald F hK hP 35 (Wm_at35 G g q I132 J126 R127 L128) (in_of (by omega)) dX12_goesOn_556 rfl ?_
        refine lv_topi (fun x134 ex134 => ?_)
        have gx134 : x134.toInt = (R0 31 (Int32.toNatClampNeg a1_511)).toInt := congrArg Int32.toInt ((ex134).trans (congrFun (hsR 31 rfl) _))
        have fx134 : ((0 : Int) ≤ x134.toInt ∧ x134.toInt ≤ (22 : Int)) := by rw [ex134]; exact hvR 31 (by decide) _ (clamp_lt (n := 20) (in_of (by omega)))
        refine lv_iconst (v := 0) hx hb dX12_goesOn_557 (by decide) ?_
        refine wvv (As := [.int x134, .int 0]) (rest := []) (b := (g 45)) (d := 1) F hK hP hD hS hA (s_X12_add l G g q I132 J126 R127 L128 hvI hvR  x134 0 (show ((0 : Int) ≤ x134.toInt ∧ x134.toInt ≤ (22 : Int)) from by omega) (by decide) (by omega)) kmV_X12_add mlX12_323 clX12 rfl 0 (Wm_at0 G g q I132 J126 R127 L128) ⟨(Nat.le_of_ble_eq_true rfl), (Nat.le_of_ble_eq_true rfl)⟩ hl.1 rfl (Nat.le_of_ble_eq_true rfl) dX12_goesOn_558 (fun u136 H locs hwr135 hP hD hS => ?_)
        obtain ⟨I137, J138, R139, L140⟩ := u136
        replace hP : va_P G.1 vwCl (Wm G g q I137 J138 R139 L140) H := hP
        replace hD : va_D A (Wm G g q I137 J138 R139 L140) := hD
        obtain ⟨hvI, hvR, tIr135, tRr135, F0r135, F1r135⟩ := hwr135
        replace F0r135 : ((I137 11).toInt = (I132 11).toInt + 1) := F0r135
        replace F1r135 : (R139 26 = upd (R127 26) ((1800 * (I132 12).toInt + (I132 11).toInt).toNat) x134) := F1r135
        replace hvI : InvI Wm_lo Wm_hi I137 := hvI
        replace hvR : InvR Wm_rl R139 := hvR
        replace tIr135 : SmF ([11] : List Nat) I132 I137 := tIr135
        replace tRr135 : SmF ([26, 27] : List Nat) R127 R139 := tRr135
        have hv_I137 := hvI
        have hsI := smF_tr hsI tIr135 (by decide)
        have hsR := smF_tr hsR tRr135 (by decide)
        have u_I137_1 : (I137 1).toInt = (I132 1).toInt := congrArg Int32.toInt (tIr135 1 rfl)
        have u_I137_2 : (I137 2).toInt = (I132 2).toInt := congrArg Int32.toInt (tIr135 2 rfl)
        have u_I137_3 : (I137 3).toInt = (I132 3).toInt := congrArg Int32.toInt (tIr135 3 rfl)
        have u_I137_4 : (I137 4).toInt = (I132 4).toInt := congrArg Int32.toInt (tIr135 4 rfl)
        have u_I137_5 : (I137 5).toInt = (I132 5).toInt := congrArg Int32.toInt (tIr135 5 rfl)
        have u_I137_6 : (I137 6).toInt = (I132 6).toInt := congrArg Int32.toInt (tIr135 6 rfl)
        have w_I137_11 := rg (hvI 11 (by decide)) (0) (1800) rfl rfl
        have u_I137_12 : (I137 12).toInt = (I132 12).toInt := congrArg Int32.toInt (tIr135 12 rfl)
        have u_I137_13 : (I137 13).toInt = (I132 13).toInt := congrArg Int32.toInt (tIr135 13 rfl)
        have u_I137_14 : (I137 14).toInt = (I132 14).toInt := congrArg Int32.toInt (tIr135 14 rfl)
        have u_I137_15 : (I137 15).toInt = (I132 15).toInt := congrArg Int32.toInt (tIr135 15 rfl)
        have u_I137_16 : (I137 16).toInt = (I132 16).toInt := congrArg Int32.toInt (tIr135 16 rfl)
        have nr135_0 : ((I137 3).toInt ≤ (I137 4).toInt) := by omega
        have nr135_1 : ((I137 4).toInt ≤ (I0 1).toInt) := by omega
        have nr135_2 : ((¬ (I137 2).toInt = 0) → (I137 3).toInt < (I137 4).toInt) := by omega
        have nr135_3 : ((¬ (I0 6).toInt = 0) → (¬ (I137 6).toInt = 0)) := by omega
        have nr135_4 : ((I0 3).toInt ≤ (I137 3).toInt) := by omega
        clear nr123_0 nr123_1 nr123_2 nr123_3 nr123_4
        have ker135 := ke_add keI132 (congrArg Int32.toInt (tIr135 12 rfl)) F0r135 F1r135 (by omega)
        have rmr135 := rm_pair (v := x134) jdr123 (by omega) (by omega) (by omega) (by omega) (by omega) (by omega) (by omega) (by omega) tIr135 tRr135 F0r135 F1r135 (by rw [tRr123 31 rfl]; exact (at_cl (f := R0 31) (x := a1_511) gx134.symm (by omega)).symm)
        exact lab_561 a2_511 I137 J138 R139 L140 _ _ _ hvI hvR hsI hsR (show ((2 : Int) ≤ a2_511.toInt ∧ a2_511.toInt ≤ (5 : Int)) from by omega) (show ((I137 2).toInt = 3) from by omega) (show ((I137 16).toInt = 1) from by omega) (show (1 ≤ (I137 13).toInt) from by omega) (show ((I137 3).toInt ≤ (I137 4).toInt) from by omega) (show ((I137 4).toInt ≤ (I0 1).toInt) from by omega) (show ((¬ (I137 2).toInt = 0) → (I137 3).toInt < (I137 4).toInt) from by omega) (show ((¬ (I0 6).toInt = 0) → (¬ (I137 6).toInt = 0)) from by omega) (show ((I0 3).toInt ≤ (I137 3).toInt) from by omega) (show (RM a 1 I137 R139) from rmr135) (show (KE I0 (R0 26) I137 (R139 26)) from ker135) hP hD hS (lv_sub hl [0, 2] rfl)
    · have gc122 : ¬ ((I_511 6).toInt ≤ 0) := fun q0 => c122 ((tle _ _).mpr q0)
      refine lv_iconst (v := 0) hx hb dX12_goesOn_518 (by decide) ?_
      rw [hQ]
      exact q_z F hr hlk (I_511, J_511, R_511, L_511) hP hD hS ⟨hvI, hvR, hsI, hsR, (show ((0 : Int) ≤ 0 ∧ 0 ≤ (1 : Int)) from by omega), (show ((0 = 1 ∧ (I_511 6).toInt = 0) → (I0 3).toInt < (I_511 3).toInt) from by omega), (show ((I_511 3).toInt ≤ (I_511 4).toInt) from by omega), (show ((I_511 4).toInt ≤ (I0 1).toInt) from by omega), (show ((¬ (I_511 2).toInt = 0) → (I_511 3).toInt < (I_511 4).toInt) from by omega), (show ((¬ (I0 6).toInt = 0) → (¬ (I_511 6).toInt = 0)) from by omega), (show ((I0 3).toInt ≤ (I_511 3).toInt) from by omega), (show (0 = 1 → RS a (Int32.toNatClampNeg (I_511 16)) I_511 (J_511 0) R_511) from fun h => absurd h (by decide)), (show (0 = 0 → EN a I_511 R_511) from fun _ h => absurd h (by omega)), (show (KE I0 (R0 26) I_511 (R_511 26)) from xl2_511)⟩ dX12_goesOn_519 (Nat.le_of_ble_eq_true rfl) (Nat.le_of_ble_eq_true rfl) (nar01 (by decide))
  have lab_496 : ∀ (a1_496 : Int32) (a2_496 : Int32) (b0_496 : Int32) (I_496 : Nat → Int32) (J_496 : Nat → Int64) (R_496 : Nat → Nat → Int32) (L_496 : Nat → Nat → Int64) (H : Heap) (locs : List Loc) (ls : Array Slot), InvI Wm_lo Wm_hi I_496 → InvR Wm_rl R_496 → SmF ([2, 3, 4, 5, 6, 7, 11, 13, 14, 15, 16] : List Nat) I0 I_496 → SmF ([26, 27, 28, 29, 30, 33] : List Nat) R0 R_496 → ((0 : Int) ≤ a1_496.toInt ∧ a1_496.toInt ≤ (8 : Int)) → ((2 : Int) ≤ a2_496.toInt ∧ a2_496.toInt ≤ (5 : Int)) → ((41 : Int) ≤ b0_496.toInt ∧ b0_496.toInt ≤ (93 : Int)) → (a1_496.toInt = (I0 13).toInt - 1) → ((I_496 2).toInt = (I0 2).toInt) → ((I_496 3).toInt = (I0 3).toInt) → ((I_496 4).toInt = (I0 4).toInt) → ((I_496 5).toInt = (I0 5).toInt) → (2 ≤ a2_496.toInt) → (¬ a2_496.toInt = 3) → ((I_496 3).toInt ≤ (I_496 4).toInt) → ((I_496 4).toInt ≤ (I0 1).toInt) → ((¬ (I_496 2).toInt = 0) → (I_496 3).toInt < (I_496 4).toInt) → ((¬ (I0 6).toInt = 0) → (¬ (I_496 6).toInt = 0)) → ((I0 3).toInt ≤ (I_496 3).toInt) → ((I_496 6).toInt = 0 → (I0 = I_496 ∧ J0 = J_496 ∧ R0 = R_496)) → ((R0 28 d).toInt = a2_496.toInt) → (KE I0 (R0 26) I_496 (R_496 26)) → va_P G.1 vwCl (Wm G g q I_496 J_496 R_496 L_496) H → va_D A (Wm G g q I_496 J_496 R_496 L_496) → va_S A s.heap H locs → lv_has ls 5 [(0, .ref (g 45)), (1, .int a1_496), (2, .int a2_496)] → W p l e (rmD 3 0 0) s m [.ref (g 45)].toArray below meth c H locs 0 0 Q (F0 m 496 ls [.int b0_496, .ref (g 45)]) := by
    intro a1_496 a2_496 b0_496 I_496 J_496 R_496 L_496 H locs ls hvI hvR hsI hsR y0_496 y1_496 y2_496 z0_496 z1_496 z2_496 z3_496 z4_496 z5_496 z6_496 z7_496 z8_496 z9_496 z10_496 z11_496 xl0_496 xl1_496 xl2_496 hP hD hS hl
    have hv_I_496 := hvI
    have w_I_496_1 := rg (hvI 1 (by decide)) (0) (1800) rfl rfl
    have v_I_496_1 : (I_496 1).toInt = (I0 1).toInt := congrArg Int32.toInt (hsI 1 rfl)
    have w_I_496_2 := rg (hvI 2 (by decide)) (0) (3) rfl rfl
    have w_I_496_3 := rg (hvI 3 (by decide)) (0) (1800) rfl rfl
    have w_I_496_4 := rg (hvI 4 (by decide)) (0) (1800) rfl rfl
    have w_I_496_5 := rg (hvI 5 (by decide)) (0) (9999) rfl rfl
    have w_I_496_6 := rg (hvI 6 (by decide)) (0) (5) rfl rfl
    have w_I_496_11 := rg (hvI 11 (by decide)) (0) (1800) rfl rfl
    have w_I_496_12 := rg (hvI 12 (by decide)) (0) (1) rfl rfl
    have v_I_496_12 : (I_496 12).toInt = (I0 12).toInt := congrArg Int32.toInt (hsI 12 rfl)
    have w_I_496_13 := rg (hvI 13 (by decide)) (0) (9) rfl rfl
    have w_I_496_14 := rg (hvI 14 (by decide)) (0) (8) rfl rfl
    have w_I_496_15 := rg (hvI 15 (by decide)) (0) (499) rfl rfl
    have w_I_496_16 := rg (hvI 16 (by decide)) (0) (1) rfl rfl
    refine wvi (As := [.int b0_496]) (rest := []) (b := (g 45)) (d := 1) F hK hP hD hS hA (s_X12_isSign2 l G g q I_496 J_496 R_496 L_496 hvI hvR  b0_496 (show ((37 : Int) ≤ b0_496.toInt ∧ b0_496.toInt ≤ (93 : Int)) from by omega)) kmV_X12_isSign mlX12_244 clX12 rfl 0 (Wm_at0 G g q I_496 J_496 R_496 L_496) ⟨(Nat.le_of_ble_eq_true rfl), (Nat.le_of_ble_eq_true rfl)⟩ hl.1 rfl (Nat.le_of_ble_eq_true rfl) dX12_goesOn_496 (fun r141 u142 H locs hwr141 hP hD hS => ?_)
    obtain ⟨F0r141, F1r141⟩ := hwr141
    replace F0r141 : ((0 : Int) ≤ r141.toInt ∧ r141.toInt ≤ (1 : Int)) := F0r141
    replace F1r141 : ((r141.toInt = 1 ∧ (I_496 2).toInt = 3 ∧ (I_496 5).toInt = b0_496.toInt) ∨ (r141.toInt = 0 ∧ (¬ (I_496 2).toInt = 3 ∨ ¬ (I_496 5).toInt = b0_496.toInt))) := F1r141
    refine lv_if_ne (tgt := 511) hx hb dX12_goesOn_499 (by decide) (fun c143 => ?_) (fun c143 => ?_)
    · have gc143 : ¬ (r141.toInt = 0) := fun q0 => c143 (Int32.toInt_inj.mp q0)
      exact lab_511 a1_496 a2_496 I_496 J_496 R_496 L_496 _ _ _ hvI hvR hsI hsR (show ((0 : Int) ≤ a1_496.toInt ∧ a1_496.toInt ≤ (8 : Int)) from by omega) (show ((2 : Int) ≤ a2_496.toInt ∧ a2_496.toInt ≤ (5 : Int)) from by omega) (show (a1_496.toInt = (I0 13).toInt - 1) from by omega) (show ((I_496 6).toInt = 0 → (I0 2).toInt = 3) from by omega) (show (2 ≤ a2_496.toInt) from by omega) (show (¬ a2_496.toInt = 3) from by omega) (show ((I_496 3).toInt ≤ (I_496 4).toInt) from by omega) (show ((I_496 4).toInt ≤ (I0 1).toInt) from by omega) (show ((¬ (I_496 2).toInt = 0) → (I_496 3).toInt < (I_496 4).toInt) from by omega) (show ((¬ (I0 6).toInt = 0) → (¬ (I_496 6).toInt = 0)) from by omega) (show ((I0 3).toInt ≤ (I_496 3).toInt) from by omega) (show ((I_496 6).toInt = 0 → (I0 = I_496 ∧ J0 = J_496 ∧ R0 = R_496)) from xl0_496) (show ((R0 28 d).toInt = a2_496.toInt) from xl1_496) (show (KE I0 (R0 26) I_496 (R_496 26)) from xl2_496) hP hD hS (lv_sub hl [0, 1, 2] rfl)
    · have gc143 : r141.toInt = 0 := congrArg Int32.toInt c143
      refine lv_aload_n hx hb dX12_goesOn_502 rfl (lv_at hl 0 rfl) ?_
      refine lv_iconst (v := 1) hx hb dX12_goesOn_503 (by decide) ?_
      refine lv_aload_n hx hb dX12_goesOn_504 rfl (lv_at hl 0 rfl) ?_
      refine g_get F hK hP 0 (Wm_at0 G g q I_496 J_496 R_496 L_496) clX12 4 (by decide) flX12_23 rfl dX12_goesOn_505 ?_
      have w_I_496_3 := rg (hv_I_496 3 (by decide)) (0) (1800) rfl rfl
      refine wvv (As := [.int 1, .int (I_496 3)]) (rest := []) (b := (g 45)) (d := 1) F hK hP hD hS hA (s_X12_blame l G g q I_496 J_496 R_496 L_496 hvI hvR  1 ((I_496 3)) (by decide) (show ((0 : Int) ≤ (I_496 3).toInt ∧ (I_496 3).toInt ≤ (1800 : Int)) from by omega)) kmV_X12_blame mlX12_240 clX12 rfl 0 (Wm_at0 G g q I_496 J_496 R_496 L_496) ⟨(Nat.le_of_ble_eq_true rfl), (Nat.le_of_ble_eq_true rfl)⟩ hl.1 rfl (Nat.le_of_ble_eq_true rfl) dX12_goesOn_508 (fun u145 H locs hwr144 hP hD hS => ?_)
      obtain ⟨I146, J147, R148, L149⟩ := u145
      replace hP : va_P G.1 vwCl (Wm G g q I146 J147 R148 L149) H := hP
      replace hD : va_D A (Wm G g q I146 J147 R148 L149) := hD
      obtain ⟨hvI, hvR, tIr144, tRr144, F0r144⟩ := hwr144
      replace F0r144 : (¬ (I146 6).toInt = 0) := F0r144
      replace hvI : InvI Wm_lo Wm_hi I146 := hvI
      replace hvR : InvR Wm_rl R148 := hvR
      replace tIr144 : SmF ([6, 7] : List Nat) I_496 I146 := tIr144
      replace tRr144 : SmF ([] : List Nat) R_496 R148 := tRr144
      have hv_I146 := hvI
      have hsI := smF_tr hsI tIr144 (by decide)
      have hsR := smF_tr hsR tRr144 (by decide)
      have u_I146_1 : (I146 1).toInt = (I_496 1).toInt := congrArg Int32.toInt (tIr144 1 rfl)
      have u_I146_2 : (I146 2).toInt = (I_496 2).toInt := congrArg Int32.toInt (tIr144 2 rfl)
      have u_I146_3 : (I146 3).toInt = (I_496 3).toInt := congrArg Int32.toInt (tIr144 3 rfl)
      have u_I146_4 : (I146 4).toInt = (I_496 4).toInt := congrArg Int32.toInt (tIr144 4 rfl)
      have u_I146_5 : (I146 5).toInt = (I_496 5).toInt := congrArg Int32.toInt (tIr144 5 rfl)
      have w_I146_6 := rg (hvI 6 (by decide)) (0) (5) rfl rfl
      have u_I146_11 : (I146 11).toInt = (I_496 11).toInt := congrArg Int32.toInt (tIr144 11 rfl)
      have u_I146_12 : (I146 12).toInt = (I_496 12).toInt := congrArg Int32.toInt (tIr144 12 rfl)
      have u_I146_13 : (I146 13).toInt = (I_496 13).toInt := congrArg Int32.toInt (tIr144 13 rfl)
      have u_I146_14 : (I146 14).toInt = (I_496 14).toInt := congrArg Int32.toInt (tIr144 14 rfl)
      have u_I146_15 : (I146 15).toInt = (I_496 15).toInt := congrArg Int32.toInt (tIr144 15 rfl)
      have u_I146_16 : (I146 16).toInt = (I_496 16).toInt := congrArg Int32.toInt (tIr144 16 rfl)
      have nr144_0 : ((I146 3).toInt ≤ (I146 4).toInt) := by omega
      have nr144_1 : ((I146 4).toInt ≤ (I0 1).toInt) := by omega
      have nr144_2 : ((¬ (I146 2).toInt = 0) → (I146 3).toInt < (I146 4).toInt) := by omega
      have nr144_3 : ((¬ (I0 6).toInt = 0) → (¬ (I146 6).toInt = 0)) := by omega
      have nr144_4 : ((I0 3).toInt ≤ (I146 3).toInt) := by omega
      clear z7_496 z8_496 z9_496 z10_496 z11_496
      have ker144 := ke_sm xl2_496 (congrArg Int32.toInt (tIr144 12 rfl)) (congrArg Int32.toInt (tIr144 11 rfl)) (tRr144 26 rfl)
      exact lab_511 a1_496 a2_496 I146 J147 R148 L149 _ _ _ hvI hvR hsI hsR (show ((0 : Int) ≤ a1_496.toInt ∧ a1_496.toInt ≤ (8 : Int)) from by omega) (show ((2 : Int) ≤ a2_496.toInt ∧ a2_496.toInt ≤ (5 : Int)) from by omega) (show (a1_496.toInt = (I0 13).toInt - 1) from by omega) (show ((I146 6).toInt = 0 → (I0 2).toInt = 3) from by omega) (show (2 ≤ a2_496.toInt) from by omega) (show (¬ a2_496.toInt = 3) from by omega) (show ((I146 3).toInt ≤ (I146 4).toInt) from by omega) (show ((I146 4).toInt ≤ (I0 1).toInt) from by omega) (show ((¬ (I146 2).toInt = 0) → (I146 3).toInt < (I146 4).toInt) from by omega) (show ((¬ (I0 6).toInt = 0) → (¬ (I146 6).toInt = 0)) from by omega) (show ((I0 3).toInt ≤ (I146 3).toInt) from by omega) (show ((I146 6).toInt = 0 → (I0 = I146 ∧ J0 = J147 ∧ R0 = R148)) from fun h => absurd h (by omega)) (show ((R0 28 d).toInt = a2_496.toInt) from xl1_496) (show (KE I0 (R0 26) I146 (R148 26)) from ker144) hP hD hS (lv_sub hl [0, 1, 2] rfl)
  have lab_409 : ∀ (a1_409 : Int32) (a2_409 : Int32) (I_409 : Nat → Int32) (J_409 : Nat → Int64) (R_409 : Nat → Nat → Int32) (L_409 : Nat → Nat → Int64) (H : Heap) (locs : List Loc) (ls : Array Slot), InvI Wm_lo Wm_hi I_409 → InvR Wm_rl R_409 → SmF ([2, 3, 4, 5, 6, 7, 11, 13, 14, 15, 16] : List Nat) I0 I_409 → SmF ([26, 27, 28, 29, 30, 33] : List Nat) R0 R_409 → ((0 : Int) ≤ a1_409.toInt ∧ a1_409.toInt ≤ (8 : Int)) → ((0 : Int) ≤ a2_409.toInt ∧ a2_409.toInt ≤ (5 : Int)) → (a1_409.toInt = (I0 13).toInt - 1) → ((I_409 2).toInt = (I0 2).toInt) → ((I_409 3).toInt = (I0 3).toInt) → ((I_409 4).toInt = (I0 4).toInt) → ((I_409 5).toInt = (I0 5).toInt) → ((I_409 3).toInt ≤ (I_409 4).toInt) → ((I_409 4).toInt ≤ (I0 1).toInt) → ((¬ (I_409 2).toInt = 0) → (I_409 3).toInt < (I_409 4).toInt) → ((¬ (I0 6).toInt = 0) → (¬ (I_409 6).toInt = 0)) → ((I0 3).toInt ≤ (I_409 3).toInt) → ((I_409 6).toInt = 0 → (I0 = I_409 ∧ J0 = J_409 ∧ R0 = R_409)) → ((R0 28 d).toInt = a2_409.toInt) → (KE I0 (R0 26) I_409 (R_409 26)) → va_P G.1 vwCl (Wm G g q I_409 J_409 R_409 L_409) H → va_D A (Wm G g q I_409 J_409 R_409 L_409) → va_S A s.heap H locs → lv_has ls 5 [(0, .ref (g 45)), (1, .int a1_409), (2, .int a2_409)] → W p l e (rmD 3 0 0) s m [.ref (g 45)].toArray below meth c H locs 0 0 Q (F0 m 409 ls []) := by
    intro a1_409 a2_409 I_409 J_409 R_409 L_409 H locs ls hvI hvR hsI hsR y0_409 y1_409 z0_409 z1_409 z2_409 z3_409 z4_409 z5_409 z6_409 z7_409 z8_409 z9_409 xl0_409 xl1_409 xl2_409 hP hD hS hl
    have hv_I_409 := hvI
    have w_I_409_1 := rg (hvI 1 (by decide)) (0) (1800) rfl rfl
    have v_I_409_1 : (I_409 1).toInt = (I0 1).toInt := congrArg Int32.toInt (hsI 1 rfl)
    have w_I_409_2 := rg (hvI 2 (by decide)) (0) (3) rfl rfl
    have w_I_409_3 := rg (hvI 3 (by decide)) (0) (1800) rfl rfl
    have w_I_409_4 := rg (hvI 4 (by decide)) (0) (1800) rfl rfl
    have w_I_409_5 := rg (hvI 5 (by decide)) (0) (9999) rfl rfl
    have w_I_409_6 := rg (hvI 6 (by decide)) (0) (5) rfl rfl
    have w_I_409_11 := rg (hvI 11 (by decide)) (0) (1800) rfl rfl
    have w_I_409_12 := rg (hvI 12 (by decide)) (0) (1) rfl rfl
    have v_I_409_12 : (I_409 12).toInt = (I0 12).toInt := congrArg Int32.toInt (hsI 12 rfl)
    have w_I_409_13 := rg (hvI 13 (by decide)) (0) (9) rfl rfl
    have w_I_409_14 := rg (hvI 14 (by decide)) (0) (8) rfl rfl
    have w_I_409_15 := rg (hvI 15 (by decide)) (0) (499) rfl rfl
    have w_I_409_16 := rg (hvI 16 (by decide)) (0) (1) rfl rfl
    refine lv_iload_n hx hb dX12_goesOn_409 rfl (lv_at hl 2 rfl) ?_
    refine lv_iconst (v := 2) hx hb dX12_goesOn_410 (by decide) ?_
    refine lv_icmp_ge (tgt := 428) hx hb dX12_goesOn_411 (by decide) (fun c150 => ?_) (fun c150 => ?_)
    · have gc150 : 2 ≤ a2_409.toInt := (tle _ _).mp c150
      refine lv_iload_n hx hb dX12_goesOn_428 rfl (lv_at hl 2 rfl) ?_
      refine lv_iconst (v := 3) hx hb dX12_goesOn_429 (by decide) ?_
      refine lv_icmp_ne (tgt := 483) hx hb dX12_goesOn_430 (by decide) (fun c151 => ?_) (fun c151 => ?_)
      · have gc151 : ¬ (a2_409.toInt = 3) := fun q0 => c151 (Int32.toInt_inj.mp q0)
        refine lv_aload_n hx hb dX12_goesOn_483 rfl (lv_at hl 0 rfl) ?_
        refine lv_iload_n hx hb dX12_goesOn_484 rfl (lv_at hl 2 rfl) ?_
        refine lv_iconst (v := 5) hx hb dX12_goesOn_485 (by decide) ?_
        refine lv_icmp_ne (tgt := 494) hx hb dX12_goesOn_486 (by decide) (fun c152 => ?_) (fun c152 => ?_)
        · have gc152 : ¬ (a2_409.toInt = 5) := fun q0 => c152 (Int32.toInt_inj.mp q0)
          refine lv_bipush (v := 41) hx hb dX12_goesOn_494 (by decide) ?_
          exact lab_496 a1_409 a2_409 41 I_409 J_409 R_409 L_409 _ _ _ hvI hvR hsI hsR (show ((0 : Int) ≤ a1_409.toInt ∧ a1_409.toInt ≤ (8 : Int)) from by omega) (show ((2 : Int) ≤ a2_409.toInt ∧ a2_409.toInt ≤ (5 : Int)) from by omega) (by decide) (show (a1_409.toInt = (I0 13).toInt - 1) from by omega) (show ((I_409 2).toInt = (I0 2).toInt) from by omega) (show ((I_409 3).toInt = (I0 3).toInt) from by omega) (show ((I_409 4).toInt = (I0 4).toInt) from by omega) (show ((I_409 5).toInt = (I0 5).toInt) from by omega) (show (2 ≤ a2_409.toInt) from by omega) (show (¬ a2_409.toInt = 3) from by omega) (show ((I_409 3).toInt ≤ (I_409 4).toInt) from by omega) (show ((I_409 4).toInt ≤ (I0 1).toInt) from by omega) (show ((¬ (I_409 2).toInt = 0) → (I_409 3).toInt < (I_409 4).toInt) from by omega) (show ((¬ (I0 6).toInt = 0) → (¬ (I_409 6).toInt = 0)) from by omega) (show ((I0 3).toInt ≤ (I_409 3).toInt) from by omega) (show ((I_409 6).toInt = 0 → (I0 = I_409 ∧ J0 = J_409 ∧ R0 = R_409)) from xl0_409) (show ((R0 28 d).toInt = a2_409.toInt) from xl1_409) (show (KE I0 (R0 26) I_409 (R_409 26)) from xl2_409) hP hD hS (lv_sub hl [0, 1, 2] rfl)
        · have gc152 : a2_409.toInt = 5 := congrArg Int32.toInt c152
          refine lv_bipush (v := 93) hx hb dX12_goesOn_489 (by decide) ?_
          refine lv_goto (tgt := 496) hx hb dX12_goesOn_491 (by decide) ?_
          exact lab_496 a1_409 a2_409 93 I_409 J_409 R_409 L_409 _ _ _ hvI hvR hsI hsR (show ((0 : Int) ≤ a1_409.toInt ∧ a1_409.toInt ≤ (8 : Int)) from by omega) (show ((2 : Int) ≤ a2_409.toInt ∧ a2_409.toInt ≤ (5 : Int)) from by omega) (by decide) (show (a1_409.toInt = (I0 13).toInt - 1) from by omega) (show ((I_409 2).toInt = (I0 2).toInt) from by omega) (show ((I_409 3).toInt = (I0 3).toInt) from by omega) (show ((I_409 4).toInt = (I0 4).toInt) from by omega) (show ((I_409 5).toInt = (I0 5).toInt) from by omega) (show (2 ≤ a2_409.toInt) from by omega) (show (¬ a2_409.toInt = 3) from by omega) (show ((I_409 3).toInt ≤ (I_409 4).toInt) from by omega) (show ((I_409 4).toInt ≤ (I0 1).toInt) from by omega) (show ((¬ (I_409 2).toInt = 0) → (I_409 3).toInt < (I_409 4).toInt) from by omega) (show ((¬ (I0 6).toInt = 0) → (¬ (I_409 6).toInt = 0)) from by omega) (show ((I0 3).toInt ≤ (I_409 3).toInt) from by omega) (show ((I_409 6).toInt = 0 → (I0 = I_409 ∧ J0 = J_409 ∧ R0 = R_409)) from xl0_409) (show ((R0 28 d).toInt = a2_409.toInt) from xl1_409) (show (KE I0 (R0 26) I_409 (R_409 26)) from xl2_409) hP hD hS (lv_sub hl [0, 1, 2] rfl)
      · have gc151 : a2_409.toInt = 3 := congrArg Int32.toInt c151
        refine lv_aload_n hx hb dX12_goesOn_433 rfl (lv_at hl 0 rfl) ?_
        refine lv_bipush (v := 44) hx hb dX12_goesOn_434 (by decide) ?_
        refine wvi (As := [.int 44]) (rest := []) (b := (g 45)) (d := 1) F hK hP hD hS hA (s_X12_isSign2 l G g q I_409 J_409 R_409 L_409 hvI hvR  44 (by decide)) kmV_X12_isSign mlX12_244 clX12 rfl 0 (Wm_at0 G g q I_409 J_409 R_409 L_409) ⟨(Nat.le_of_ble_eq_true rfl), (Nat.le_of_ble_eq_true rfl)⟩ hl.1 rfl (Nat.le_of_ble_eq_true rfl) dX12_goesOn_436 (fun r153 u154 H locs hwr153 hP hD hS => ?_)
        obtain ⟨F0r153, F1r153⟩ := hwr153
        replace F0r153 : ((0 : Int) ≤ r153.toInt ∧ r153.toInt ≤ (1 : Int)) := F0r153
        replace F1r153 : ((r153.toInt = 1 ∧ (I_409 2).toInt = 3 ∧ (I_409 5).toInt = (44 : Int)) ∨ (r153.toInt = 0 ∧ (¬ (I_409 2).toInt = 3 ∨ ¬ (I_409 5).toInt = (44 : Int)))) := F1r153
        refine lv_if_ne (tgt := 451) hx hb dX12_goesOn_439 (by decide) (fun c155 => ?_) (fun c155 => ?_)
        · have gc155 : ¬ (r153.toInt = 0) := fun q0 => c155 (Int32.toInt_inj.mp q0)
          exact lab_451 a1_409 I_409 J_409 R_409 L_409 _ _ _ hvI hvR hsI hsR (show ((0 : Int) ≤ a1_409.toInt ∧ a1_409.toInt ≤ (8 : Int)) from by omega) (show (a1_409.toInt = (I0 13).toInt - 1) from by omega) (show ((I_409 6).toInt = 0 → (I0 2).toInt = 3) from by omega) (show ((I_409 3).toInt ≤ (I_409 4).toInt) from by omega) (show ((I_409 4).toInt ≤ (I0 1).toInt) from by omega) (show ((¬ (I_409 2).toInt = 0) → (I_409 3).toInt < (I_409 4).toInt) from by omega) (show ((¬ (I0 6).toInt = 0) → (¬ (I_409 6).toInt = 0)) from by omega) (show ((I0 3).toInt ≤ (I_409 3).toInt) from by omega) (show ((I_409 6).toInt = 0 → (I0 = I_409 ∧ J0 = J_409 ∧ R0 = R_409)) from xl0_409) (show ((R0 28 d).toInt = 3) from (by omega)) (show (KE I0 (R0 26) I_409 (R_409 26)) from xl2_409) hP hD hS (lv_sub hl [0, 1] rfl)
        · have gc155 : r153.toInt = 0 := congrArg Int32.toInt c155
          refine lv_aload_n hx hb dX12_goesOn_442 rfl (lv_at hl 0 rfl) ?_
          refine lv_iconst (v := 1) hx hb dX12_goesOn_443 (by decide) ?_
          refine lv_aload_n hx hb dX12_goesOn_444 rfl (lv_at hl 0 rfl) ?_
          refine g_get F hK hP 0 (Wm_at0 G g q I_409 J_409 R_409 L_409) clX12 4 (by decide) flX12_23 rfl dX12_goesOn_445 ?_
          have w_I_409_3 := rg (hv_I_409 3 (by decide)) (0) (1800) rfl rfl
          refine wvv (As := [.int 1, .int (I_409 3)]) (rest := []) (b := (g 45)) (d := 1) F hK hP hD hS hA (s_X12_blame l G g q I_409 J_409 R_409 L_409 hvI hvR  1 ((I_409 3)) (by decide) (show ((0 : Int) ≤ (I_409 3).toInt ∧ (I_409 3).toInt ≤ (1800 : Int)) from by omega)) kmV_X12_blame mlX12_240 clX12 rfl 0 (Wm_at0 G g q I_409 J_409 R_409 L_409) ⟨(Nat.le_of_ble_eq_true rfl), (Nat.le_of_ble_eq_true rfl)⟩ hl.1 rfl (Nat.le_of_ble_eq_true rfl) dX12_goesOn_448 (fun u157 H locs hwr156 hP hD hS => ?_)
          obtain ⟨I158, J159, R160, L161⟩ := u157
          replace hP : va_P G.1 vwCl (Wm G g q I158 J159 R160 L161) H := hP
          replace hD : va_D A (Wm G g q I158 J159 R160 L161) := hD
          obtain ⟨hvI, hvR, tIr156, tRr156, F0r156⟩ := hwr156
          replace F0r156 : (¬ (I158 6).toInt = 0) := F0r156
          replace hvI : InvI Wm_lo Wm_hi I158 := hvI
          replace hvR : InvR Wm_rl R160 := hvR
          replace tIr156 : SmF ([6, 7] : List Nat) I_409 I158 := tIr156
          replace tRr156 : SmF ([] : List Nat) R_409 R160 := tRr156
          have hv_I158 := hvI
          have hsI := smF_tr hsI tIr156 (by decide)
          have hsR := smF_tr hsR tRr156 (by decide)
          have u_I158_1 : (I158 1).toInt = (I_409 1).toInt := congrArg Int32.toInt (tIr156 1 rfl)
          have u_I158_2 : (I158 2).toInt = (I_409 2).toInt := congrArg Int32.toInt (tIr156 2 rfl)
          have u_I158_3 : (I158 3).toInt = (I_409 3).toInt := congrArg Int32.toInt (tIr156 3 rfl)
          have u_I158_4 : (I158 4).toInt = (I_409 4).toInt := congrArg Int32.toInt (tIr156 4 rfl)
          have u_I158_5 : (I158 5).toInt = (I_409 5).toInt := congrArg Int32.toInt (tIr156 5 rfl)
          have w_I158_6 := rg (hvI 6 (by decide)) (0) (5) rfl rfl
          have u_I158_11 : (I158 11).toInt = (I_409 11).toInt := congrArg Int32.toInt (tIr156 11 rfl)
          have u_I158_12 : (I158 12).toInt = (I_409 12).toInt := congrArg Int32.toInt (tIr156 12 rfl)
          have u_I158_13 : (I158 13).toInt = (I_409 13).toInt := congrArg Int32.toInt (tIr156 13 rfl)
          have u_I158_14 : (I158 14).toInt = (I_409 14).toInt := congrArg Int32.toInt (tIr156 14 rfl)
          have u_I158_15 : (I158 15).toInt = (I_409 15).toInt := congrArg Int32.toInt (tIr156 15 rfl)
          have u_I158_16 : (I158 16).toInt = (I_409 16).toInt := congrArg Int32.toInt (tIr156 16 rfl)
          have nr156_0 : ((I158 3).toInt ≤ (I158 4).toInt) := by omega
          have nr156_1 : ((I158 4).toInt ≤ (I0 1).toInt) := by omega
          have nr156_2 : ((¬ (I158 2).toInt = 0) → (I158 3).toInt < (I158 4).toInt) := by omega
          have nr156_3 : ((¬ (I0 6).toInt = 0) → (¬ (I158 6).toInt = 0)) := by omega
          have nr156_4 : ((I0 3).toInt ≤ (I158 3).toInt) := by omega
          clear z5_409 z6_409 z7_409 z8_409 z9_409
          have ker156 := ke_sm xl2_409 (congrArg Int32.toInt (tIr156 12 rfl)) (congrArg Int32.toInt (tIr156 11 rfl)) (tRr156 26 rfl)
          exact lab_451 a1_409 I158 J159 R160 L161 _ _ _ hvI hvR hsI hsR (show ((0 : Int) ≤ a1_409.toInt ∧ a1_409.toInt ≤ (8 : Int)) from by omega) (show (a1_409.toInt = (I0 13).toInt - 1) from by omega) (show ((I158 6).toInt = 0 → (I0 2).toInt = 3) from by omega) (show ((I158 3).toInt ≤ (I158 4).toInt) from by omega) (show ((I158 4).toInt ≤ (I0 1).toInt) from by omega) (show ((¬ (I158 2).toInt = 0) → (I158 3).toInt < (I158 4).toInt) from by omega) (show ((¬ (I0 6).toInt = 0) → (¬ (I158 6).toInt = 0)) from by omega) (show ((I0 3).toInt ≤ (I158 3).toInt) from by omega) (show ((I158 6).toInt = 0 → (I0 = I158 ∧ J0 = J159 ∧ R0 = R160)) from fun h => absurd h (by omega)) (show ((R0 28 d).toInt = 3) from (by omega)) (show (KE I0 (R0 26) I158 (R160 26)) from ker156) hP hD hS (lv_sub hl [0, 1] rfl)
    · have gc150 : ¬ (2 ≤ a2_409.toInt) := fun q0 => c150 ((tle _ _).mpr q0)
      refine lv_aload_n hx hb dX12_goesOn_414 rfl (lv_at hl 0 rfl) ?_
      refine g_get F hK hP 0 (Wm_at0 G g q I_409 J_409 R_409 L_409) clX12 8 (by decide) flX12_36 rfl dX12_goesOn_415 ?_
      have w_I_409_6 := rg (hv_I_409 6 (by decide)) (0) (5) rfl rfl
      refine lv_if_ne (tgt := 426) hx hb dX12_goesOn_418 (by decide) (fun c162 => ?_) (fun c162 => ?_)
      · have gc162 : ¬ ((I_409 6).toInt = 0) := fun q0 => c162 (Int32.toInt_inj.mp q0)
        refine lv_iconst (v := 0) hx hb dX12_goesOn_426 (by decide) ?_
        rw [hQ]
        exact q_z F hr hlk (I_409, J_409, R_409, L_409) hP hD hS ⟨hvI, hvR, hsI, hsR, (show ((0 : Int) ≤ 0 ∧ 0 ≤ (1 : Int)) from by omega), (show ((0 = 1 ∧ (I_409 6).toInt = 0) → (I0 3).toInt < (I_409 3).toInt) from by omega), (show ((I_409 3).toInt ≤ (I_409 4).toInt) from by omega), (show ((I_409 4).toInt ≤ (I0 1).toInt) from by omega), (show ((¬ (I_409 2).toInt = 0) → (I_409 3).toInt < (I_409 4).toInt) from by omega), (show ((¬ (I0 6).toInt = 0) → (¬ (I_409 6).toInt = 0)) from by omega), (show ((I0 3).toInt ≤ (I_409 3).toInt) from by omega), (show (0 = 1 → RS a (Int32.toNatClampNeg (I_409 16)) I_409 (J_409 0) R_409) from fun h => absurd h (by decide)), (show (0 = 0 → EN a I_409 R_409) from fun _ h => absurd h (by omega)), (show (KE I0 (R0 26) I_409 (R_409 26)) from xl2_409)⟩ dX12_goesOn_427 (Nat.le_of_ble_eq_true rfl) (Nat.le_of_ble_eq_true rfl) (nar01 (by decide))
      · have gc162 : (I_409 6).toInt = 0 := congrArg Int32.toInt c162
        obtain ⟨qI, qJ, qR⟩ := xl0_409 (by omega)
        subst qI
        subst qJ
        subst qR
        refine lv_aload_n hx hb dX12_goesOn_421 rfl (lv_at hl 0 rfl) ?_
        refine lv_iconst (v := 1) hx hb dX12_goesOn_422 (by decide) ?_
        refine wvv (As := [.int 1]) (rest := []) (b := (g 45)) (d := 2) F hK hP hD hS hA (s_X12_joins l G g q I0 J0 R0 L_409 hvI hvR  1 (by decide) (by omega) (by omega) a d n (hd) (hn) (hRB)) kmV_X12_joins mlX12_342 clX12 rfl 0 (Wm_at0 G g q I0 J0 R0 L_409) ⟨(Nat.le_of_ble_eq_true rfl), (Nat.le_of_ble_eq_true rfl)⟩ hl.1 rfl (Nat.le_of_ble_eq_true rfl) dX12_goesOn_423 (fun u164 H locs hwr163 hP hD hS => ?_)
        obtain ⟨I165, J166, R167, L168⟩ := u164
        replace hP : va_P G.1 vwCl (Wm G g q I165 J166 R167 L168) H := hP
        replace hD : va_D A (Wm G g q I165 J166 R167 L168) := hD
        obtain ⟨hvI, hvR, tIr163, tRr163, F0r163, F1r163, F2r163, F3r163, F4r163, F5r163, F6r163⟩ := hwr163
        replace F0r163 : ((I165 11).toInt + (I165 15).toInt = (I0 11).toInt + (I0 15).toInt) := F0r163
        replace F1r163 : ((I165 15).toInt ≤ (I0 15).toInt) := F1r163
        replace F2r163 : (∃ n1 : Nat, 1800 * (I0 12).toInt + (I165 11).toInt = ((a : Nat) : Int) + (n1 : Int) ∧ RB d (Int32.toNatClampNeg (I165 15)) n1 a 1 (R0 28) (R0 29) (R0 30) (R0 31) (R0 32) (R0 33) (R167 26)) := F2r163
        replace F3r163 : (∀ i : Nat, (Int32.toNatClampNeg (R0 32 d)) ≤ i → i < (Int32.toNatClampNeg (I165 15)) → ((rkV (R0 33 i) : Nat) : Int) < (1 : Int)) := F3r163
        replace F4r163 : (nNn (R0 33) (Int32.toNatClampNeg (I165 15)) ≤ nNn (R0 33) (Int32.toNatClampNeg (I0 15))) := F4r163
        replace F5r163 : ((Int32.toNatClampNeg (R0 32 d)) ≤ (Int32.toNatClampNeg (I165 15))) := F5r163
        replace F6r163 : (KE I0 (R0 26) I165 (R167 26)) := F6r163
        replace hvI : InvI Wm_lo Wm_hi I165 := hvI
        replace hvR : InvR Wm_rl R167 := hvR
        replace tIr163 : SmF ([11, 15] : List Nat) I0 I165 := tIr163
        replace tRr163 : SmF ([26, 27] : List Nat) R0 R167 := tRr163
        have hv_I165 := hvI
        have hsI := smF_tr hsI tIr163 (by decide)
        have hsR := smF_tr hsR tRr163 (by decide)
        have u_I165_1 : (I165 1).toInt = (I0 1).toInt := congrArg Int32.toInt (tIr163 1 rfl)
        have u_I165_2 : (I165 2).toInt = (I0 2).toInt := congrArg Int32.toInt (tIr163 2 rfl)
        have u_I165_3 : (I165 3).toInt = (I0 3).toInt := congrArg Int32.toInt (tIr163 3 rfl)
        have u_I165_4 : (I165 4).toInt = (I0 4).toInt := congrArg Int32.toInt (tIr163 4 rfl)
        have u_I165_5 : (I165 5).toInt = (I0 5).toInt := congrArg Int32.toInt (tIr163 5 rfl)
        have u_I165_6 : (I165 6).toInt = (I0 6).toInt := congrArg Int32.toInt (tIr163 6 rfl)
        have w_I165_11 := rg (hvI 11 (by decide)) (0) (1800) rfl rfl
        have u_I165_12 : (I165 12).toInt = (I0 12).toInt := congrArg Int32.toInt (tIr163 12 rfl)
        have u_I165_13 : (I165 13).toInt = (I0 13).toInt := congrArg Int32.toInt (tIr163 13 rfl)
        have u_I165_14 : (I165 14).toInt = (I0 14).toInt := congrArg Int32.toInt (tIr163 14 rfl)
        have w_I165_15 := rg (hvI 15 (by decide)) (0) (499) rfl rfl
        have u_I165_16 : (I165 16).toInt = (I0 16).toInt := congrArg Int32.toInt (tIr163 16 rfl)
        have nr163_0 : ((I165 3).toInt ≤ (I165 4).toInt) := by omega
        have nr163_1 : ((I165 4).toInt ≤ (I0 1).toInt) := by omega
        have nr163_2 : ((¬ (I165 2).toInt = 0) → (I165 3).toInt < (I165 4).toInt) := by omega
        have nr163_3 : ((¬ (I0 6).toInt = 0) → (¬ (I165 6).toInt = 0)) := by omega
        have nr163_4 : ((I0 3).toInt ≤ (I165 3).toInt) := by omega
        clear z5_409 z6_409 z7_409 z8_409 z9_409
        have ker163 := ke_tr (ke_rf I0 (R0 26)) F6r163
        have jdr163 := jd_of (k := 1) hd ho hBY tIr163 tRr163 F0r163 F2r163 F3r163 F4r163 F5r163 rfl
        refine lv_iconst (v := 0) hx hb dX12_goesOn_426 (by decide) ?_
        rw [hQ]
        exact q_z F hr hlk (I165, J166, R167, L168) hP hD hS ⟨hvI, hvR, hsI, hsR, (show ((0 : Int) ≤ 0 ∧ 0 ≤ (1 : Int)) from by omega), (show ((0 = 1 ∧ (I165 6).toInt = 0) → (I0 3).toInt < (I165 3).toInt) from by omega), (show ((I165 3).toInt ≤ (I165 4).toInt) from by omega), (show ((I165 4).toInt ≤ (I0 1).toInt) from by omega), (show ((¬ (I165 2).toInt = 0) → (I165 3).toInt < (I165 4).toInt) from by omega), (show ((¬ (I0 6).toInt = 0) → (¬ (I165 6).toInt = 0)) from by omega), (show ((I0 3).toInt ≤ (I165 3).toInt) from by omega), (show (0 = 1 → RS a (Int32.toNatClampNeg (I165 16)) I165 (J166 0) R167) from fun h => absurd h (by decide)), (show (0 = 0 → EN a I165 R167) from fun _ => en_of jdr163 (by omega)), (show (KE I0 (R0 26) I165 (R167 26)) from ker163)⟩ dX12_goesOn_427 (Nat.le_of_ble_eq_true rfl) (Nat.le_of_ble_eq_true rfl) (nar01 (by decide))
  have lab_387 : ∀ (a1_387 : Int32) (a2_387 : Int32) (a3_387 : Int32) (I_387 : Nat → Int32) (J_387 : Nat → Int64) (R_387 : Nat → Nat → Int32) (L_387 : Nat → Nat → Int64) (H : Heap) (locs : List Loc) (ls : Array Slot), InvI Wm_lo Wm_hi I_387 → InvR Wm_rl R_387 → SmF ([2, 3, 4, 5, 6, 7, 11, 13, 14, 15, 16] : List Nat) I0 I_387 → SmF ([26, 27, 28, 29, 30, 33] : List Nat) R0 R_387 → ((0 : Int) ≤ a1_387.toInt ∧ a1_387.toInt ≤ (8 : Int)) → ((0 : Int) ≤ a2_387.toInt ∧ a2_387.toInt ≤ (5 : Int)) → ((0 : Int) ≤ a3_387.toInt ∧ a3_387.toInt ≤ (1 : Int)) → (a1_387.toInt = (I0 13).toInt - 1) → ((I_387 3).toInt ≤ (I_387 4).toInt) → ((I_387 4).toInt ≤ (I0 1).toInt) → ((¬ (I_387 2).toInt = 0) → (I_387 3).toInt < (I_387 4).toInt) → ((¬ (I0 6).toInt = 0) → (¬ (I_387 6).toInt = 0)) → ((I0 3).toInt ≤ (I_387 3).toInt) → (I0 = I_387 ∧ J0 = J_387 ∧ R0 = R_387) → ((R0 28 d).toInt = a2_387.toInt) → va_P G.1 vwCl (Wm G g q I_387 J_387 R_387 L_387) H → va_D A (Wm G g q I_387 J_387 R_387 L_387) → va_S A s.heap H locs → lv_has ls 5 [(0, .ref (g 45)), (1, .int a1_387), (2, .int a2_387), (3, .int a3_387)] → W p l e (rmD 3 0 0) s m [.ref (g 45)].toArray below meth c H locs 0 0 Q (F0 m 387 ls []) := by
    intro a1_387 a2_387 a3_387 I_387 J_387 R_387 L_387 H locs ls hvI hvR hsI hsR y0_387 y1_387 y2_387 z0_387 z1_387 z2_387 z3_387 z4_387 z5_387 xl0_387 xl1_387 hP hD hS hl
    have hv_I_387 := hvI
    have w_I_387_1 := rg (hvI 1 (by decide)) (0) (1800) rfl rfl
    have v_I_387_1 : (I_387 1).toInt = (I0 1).toInt := congrArg Int32.toInt (hsI 1 rfl)
    have w_I_387_2 := rg (hvI 2 (by decide)) (0) (3) rfl rfl
    have w_I_387_3 := rg (hvI 3 (by decide)) (0) (1800) rfl rfl
    have w_I_387_4 := rg (hvI 4 (by decide)) (0) (1800) rfl rfl
    have w_I_387_5 := rg (hvI 5 (by decide)) (0) (9999) rfl rfl
    have w_I_387_6 := rg (hvI 6 (by decide)) (0) (5) rfl rfl
    have w_I_387_11 := rg (hvI 11 (by decide)) (0) (1800) rfl rfl
    have w_I_387_12 := rg (hvI 12 (by decide)) (0) (1) rfl rfl
    have v_I_387_12 : (I_387 12).toInt = (I0 12).toInt := congrArg Int32.toInt (hsI 12 rfl)
    have w_I_387_13 := rg (hvI 13 (by decide)) (0) (9) rfl rfl
    have w_I_387_14 := rg (hvI 14 (by decide)) (0) (8) rfl rfl
    have w_I_387_15 := rg (hvI 15 (by decide)) (0) (499) rfl rfl
    have w_I_387_16 := rg (hvI 16 (by decide)) (0) (1) rfl rfl
    obtain ⟨qI, qJ, qR⟩ := xl0_387
    subst qI
    subst qJ
    subst qR
    refine lv_iload_n hx hb dX12_goesOn_387 rfl (lv_at hl 3 rfl) ?_
    refine lv_if_eq (tgt := 409) hx hb dX12_goesOn_388 (by decide) (fun c169 => ?_) (fun c169 => ?_)
    · have gc169 : a3_387.toInt = 0 := congrArg Int32.toInt c169
      exact lab_409 a1_387 a2_387 I0 J0 R0 L_387 _ _ _ hvI hvR hsI hsR (show ((0 : Int) ≤ a1_387.toInt ∧ a1_387.toInt ≤ (8 : Int)) from by omega) (show ((0 : Int) ≤ a2_387.toInt ∧ a2_387.toInt ≤ (5 : Int)) from by omega) (show (a1_387.toInt = (I0 13).toInt - 1) from by omega) (show ((I0 2).toInt = (I0 2).toInt) from by omega) (show ((I0 3).toInt = (I0 3).toInt) from by omega) (show ((I0 4).toInt = (I0 4).toInt) from by omega) (show ((I0 5).toInt = (I0 5).toInt) from by omega) (show ((I0 3).toInt ≤ (I0 4).toInt) from by omega) (show ((I0 4).toInt ≤ (I0 1).toInt) from by omega) (show ((¬ (I0 2).toInt = 0) → (I0 3).toInt < (I0 4).toInt) from by omega) (show ((¬ (I0 6).toInt = 0) → (¬ (I0 6).toInt = 0)) from by omega) (show ((I0 3).toInt ≤ (I0 3).toInt) from by omega) (show ((I0 6).toInt = 0 → (I0 = I0 ∧ J0 = J0 ∧ R0 = R0)) from fun _ => ⟨rfl, rfl, rfl⟩) (show ((R0 28 d).toInt = a2_387.toInt) from xl1_387) (show (KE I0 (R0 26) I0 (R0 26)) from (ke_rf I0 (R0 26))) hP hD hS (lv_sub hl [0, 1, 2] rfl)
    · have gc169 : ¬ (a3_387.toInt = 0) := fun q0 => c169 (Int32.toInt_inj.mp q0)
      refine lv_aload_n hx hb dX12_goesOn_391 rfl (lv_at hl 0 rfl) ?_
      refine g_get F hK hP 0 (Wm_at0 G g q I0 J0 R0 L_387) clX12 46 (by decide) flX12_152 rfl dX12_goesOn_392 ?_
      refine lv_iload_n hx hb dX12_goesOn_395 rfl (lv_at hl 1 rfl) ?_
      refine g_iald F hK hP 33 (Wm_at33 G g q I0 J0 R0 L_387) (in_of (by omega)) dX12_goesOn_396 rfl ?_
      refine lv_topi (fun x170 ex170 => ?_)
      have gx170 : x170.toInt = (R0 29 (Int32.toNatClampNeg a1_387)).toInt := congrArg Int32.toInt (ex170)
      have fx170 : ((0 : Int) ≤ x170.toInt ∧ x170.toInt ≤ (2 : Int)) := by rw [ex170]; exact hvR 29 (by decide) _ (clamp_lt (n := 20) (in_of (by omega)))
      refine lv_if_ne (tgt := 409) hx hb dX12_goesOn_397 (by decide) (fun c171 => ?_) (fun c171 => ?_)
      · have gc171 : ¬ (x170.toInt = 0) := fun q0 => c171 (Int32.toInt_inj.mp q0)
        exact lab_409 a1_387 a2_387 I0 J0 R0 L_387 _ _ _ hvI hvR hsI hsR (show ((0 : Int) ≤ a1_387.toInt ∧ a1_387.toInt ≤ (8 : Int)) from by omega) (show ((0 : Int) ≤ a2_387.toInt ∧ a2_387.toInt ≤ (5 : Int)) from by omega) (show (a1_387.toInt = (I0 13).toInt - 1) from by omega) (show ((I0 2).toInt = (I0 2).toInt) from by omega) (show ((I0 3).toInt = (I0 3).toInt) from by omega) (show ((I0 4).toInt = (I0 4).toInt) from by omega) (show ((I0 5).toInt = (I0 5).toInt) from by omega) (show ((I0 3).toInt ≤ (I0 4).toInt) from by omega) (show ((I0 4).toInt ≤ (I0 1).toInt) from by omega) (show ((¬ (I0 2).toInt = 0) → (I0 3).toInt < (I0 4).toInt) from by omega) (show ((¬ (I0 6).toInt = 0) → (¬ (I0 6).toInt = 0)) from by omega) (show ((I0 3).toInt ≤ (I0 3).toInt) from by omega) (show ((I0 6).toInt = 0 → (I0 = I0 ∧ J0 = J0 ∧ R0 = R0)) from fun _ => ⟨rfl, rfl, rfl⟩) (show ((R0 28 d).toInt = a2_387.toInt) from xl1_387) (show (KE I0 (R0 26) I0 (R0 26)) from (ke_rf I0 (R0 26))) hP hD hS (lv_sub hl [0, 1, 2] rfl)
      · have gc171 : x170.toInt = 0 := congrArg Int32.toInt c171
        refine lv_aload_n hx hb dX12_goesOn_400 rfl (lv_at hl 0 rfl) ?_
        refine lv_iconst (v := 1) hx hb dX12_goesOn_401 (by decide) ?_
        refine lv_aload_n hx hb dX12_goesOn_402 rfl (lv_at hl 0 rfl) ?_
        refine g_get F hK hP 0 (Wm_at0 G g q I0 J0 R0 L_387) clX12 4 (by decide) flX12_23 rfl dX12_goesOn_403 ?_
        have w_I0_3 := rg (hvI0 3 (by decide)) (0) (1800) rfl rfl
        refine wvv (As := [.int 1, .int (I0 3)]) (rest := []) (b := (g 45)) (d := 1) F hK hP hD hS hA (s_X12_blame l G g q I0 J0 R0 L_387 hvI hvR  1 ((I0 3)) (by decide) (show ((0 : Int) ≤ (I0 3).toInt ∧ (I0 3).toInt ≤ (1800 : Int)) from by omega)) kmV_X12_blame mlX12_240 clX12 rfl 0 (Wm_at0 G g q I0 J0 R0 L_387) ⟨(Nat.le_of_ble_eq_true rfl), (Nat.le_of_ble_eq_true rfl)⟩ hl.1 rfl (Nat.le_of_ble_eq_true rfl) dX12_goesOn_406 (fun u173 H locs hwr172 hP hD hS => ?_)
        obtain ⟨I174, J175, R176, L177⟩ := u173
        replace hP : va_P G.1 vwCl (Wm G g q I174 J175 R176 L177) H := hP
        replace hD : va_D A (Wm G g q I174 J175 R176 L177) := hD
        obtain ⟨hvI, hvR, tIr172, tRr172, F0r172⟩ := hwr172
        replace F0r172 : (¬ (I174 6).toInt = 0) := F0r172
        replace hvI : InvI Wm_lo Wm_hi I174 := hvI
        replace hvR : InvR Wm_rl R176 := hvR
        replace tIr172 : SmF ([6, 7] : List Nat) I0 I174 := tIr172
        replace tRr172 : SmF ([] : List Nat) R0 R176 := tRr172
        have hv_I174 := hvI
        have hsI := smF_tr hsI tIr172 (by decide)
        have hsR := smF_tr hsR tRr172 (by decide)
        have u_I174_1 : (I174 1).toInt = (I0 1).toInt := congrArg Int32.toInt (tIr172 1 rfl)
        have u_I174_2 : (I174 2).toInt = (I0 2).toInt := congrArg Int32.toInt (tIr172 2 rfl)
        have u_I174_3 : (I174 3).toInt = (I0 3).toInt := congrArg Int32.toInt (tIr172 3 rfl)
        have u_I174_4 : (I174 4).toInt = (I0 4).toInt := congrArg Int32.toInt (tIr172 4 rfl)
        have u_I174_5 : (I174 5).toInt = (I0 5).toInt := congrArg Int32.toInt (tIr172 5 rfl)
        have w_I174_6 := rg (hvI 6 (by decide)) (0) (5) rfl rfl
        have u_I174_11 : (I174 11).toInt = (I0 11).toInt := congrArg Int32.toInt (tIr172 11 rfl)
        have u_I174_12 : (I174 12).toInt = (I0 12).toInt := congrArg Int32.toInt (tIr172 12 rfl)
        have u_I174_13 : (I174 13).toInt = (I0 13).toInt := congrArg Int32.toInt (tIr172 13 rfl)
        have u_I174_14 : (I174 14).toInt = (I0 14).toInt := congrArg Int32.toInt (tIr172 14 rfl)
        have u_I174_15 : (I174 15).toInt = (I0 15).toInt := congrArg Int32.toInt (tIr172 15 rfl)
        have u_I174_16 : (I174 16).toInt = (I0 16).toInt := congrArg Int32.toInt (tIr172 16 rfl)
        have nr172_0 : ((I174 3).toInt ≤ (I174 4).toInt) := by omega
        have nr172_1 : ((I174 4).toInt ≤ (I0 1).toInt) := by omega
        have nr172_2 : ((¬ (I174 2).toInt = 0) → (I174 3).toInt < (I174 4).toInt) := by omega
        have nr172_3 : ((¬ (I0 6).toInt = 0) → (¬ (I174 6).toInt = 0)) := by omega
        have nr172_4 : ((I0 3).toInt ≤ (I174 3).toInt) := by omega
        clear z1_387 z2_387 z3_387 z4_387 z5_387
        have ker172 := ke_sm (ke_rf I0 (R0 26)) (congrArg Int32.toInt (tIr172 12 rfl)) (congrArg Int32.toInt (tIr172 11 rfl)) (tRr172 26 rfl)
        exact lab_409 a1_387 a2_387 I174 J175 R176 L177 _ _ _ hvI hvR hsI hsR (show ((0 : Int) ≤ a1_387.toInt ∧ a1_387.toInt ≤ (8 : Int)) from by omega) (show ((0 : Int) ≤ a2_387.toInt ∧ a2_387.toInt ≤ (5 : Int)) from by omega) (show (a1_387.toInt = (I0 13).toInt - 1) from by omega) (show ((I174 2).toInt = (I0 2).toInt) from by omega) (show ((I174 3).toInt = (I0 3).toInt) from by omega) (show ((I174 4).toInt = (I0 4).toInt) from by omega) (show ((I174 5).toInt = (I0 5).toInt) from by omega) (show ((I174 3).toInt ≤ (I174 4).toInt) from by omega) (show ((I174 4).toInt ≤ (I0 1).toInt) from by omega) (show ((¬ (I174 2).toInt = 0) → (I174 3).toInt < (I174 4).toInt) from by omega) (show ((¬ (I0 6).toInt = 0) → (¬ (I174 6).toInt = 0)) from by omega) (show ((I0 3).toInt ≤ (I174 3).toInt) from by omega) (show ((I174 6).toInt = 0 → (I0 = I174 ∧ J0 = J175 ∧ R0 = R176)) from fun h => absurd h (by omega)) (show ((R0 28 d).toInt = a2_387.toInt) from xl1_387) (show (KE I0 (R0 26) I174 (R176 26)) from ker172) hP hD hS (lv_sub hl [0, 1, 2] rfl)
  have lab_272 : ∀ (a1_272 : Int32) (a2_272 : Int32) (a3_272 : Int32) (I_272 : Nat → Int32) (J_272 : Nat → Int64) (R_272 : Nat → Nat → Int32) (L_272 : Nat → Nat → Int64) (H : Heap) (locs : List Loc) (ls : Array Slot), InvI Wm_lo Wm_hi I_272 → InvR Wm_rl R_272 → SmF ([2, 3, 4, 5, 6, 7, 11, 13, 14, 15, 16] : List Nat) I0 I_272 → SmF ([26, 27, 28, 29, 30, 33] : List Nat) R0 R_272 → ((0 : Int) ≤ a1_272.toInt ∧ a1_272.toInt ≤ (8 : Int)) → ((0 : Int) ≤ a2_272.toInt ∧ a2_272.toInt ≤ (5 : Int)) → ((0 : Int) ≤ a3_272.toInt ∧ a3_272.toInt ≤ (1 : Int)) → (a1_272.toInt = (I0 13).toInt - 1) → ((I_272 3).toInt ≤ (I_272 4).toInt) → ((I_272 4).toInt ≤ (I0 1).toInt) → ((¬ (I_272 2).toInt = 0) → (I_272 3).toInt < (I_272 4).toInt) → ((¬ (I0 6).toInt = 0) → (¬ (I_272 6).toInt = 0)) → ((I0 3).toInt ≤ (I_272 3).toInt) → (I0 = I_272 ∧ J0 = J_272 ∧ R0 = R_272) → ((R0 28 d).toInt = a2_272.toInt) → va_P G.1 vwCl (Wm G g q I_272 J_272 R_272 L_272) H → va_D A (Wm G g q I_272 J_272 R_272 L_272) → va_S A s.heap H locs → lv_has ls 5 [(0, .ref (g 45)), (1, .int a1_272), (2, .int a2_272), (3, .int a3_272)] → W p l e (rmD 3 0 0) s m [.ref (g 45)].toArray below meth c H locs 0 0 Q (F0 m 272 ls []) := by
    intro a1_272 a2_272 a3_272 I_272 J_272 R_272 L_272 H locs ls hvI hvR hsI hsR y0_272 y1_272 y2_272 z0_272 z1_272 z2_272 z3_272 z4_272 z5_272 xl0_272 xl1_272 hP hD hS hl
    have hv_I_272 := hvI
    have w_I_272_1 := rg (hvI 1 (by decide)) (0) (1800) rfl rfl
    have v_I_272_1 : (I_272 1).toInt = (I0 1).toInt := congrArg Int32.toInt (hsI 1 rfl)
    have w_I_272_2 := rg (hvI 2 (by decide)) (0) (3) rfl rfl
    have w_I_272_3 := rg (hvI 3 (by decide)) (0) (1800) rfl rfl
    have w_I_272_4 := rg (hvI 4 (by decide)) (0) (1800) rfl rfl
    have w_I_272_5 := rg (hvI 5 (by decide)) (0) (9999) rfl rfl
    have w_I_272_6 := rg (hvI 6 (by decide)) (0) (5) rfl rfl
    have w_I_272_11 := rg (hvI 11 (by decide)) (0) (1800) rfl rfl
    have w_I_272_12 := rg (hvI 12 (by decide)) (0) (1) rfl rfl
    have v_I_272_12 : (I_272 12).toInt = (I0 12).toInt := congrArg Int32.toInt (hsI 12 rfl)
    have w_I_272_13 := rg (hvI 13 (by decide)) (0) (9) rfl rfl
    have w_I_272_14 := rg (hvI 14 (by decide)) (0) (8) rfl rfl
    have w_I_272_15 := rg (hvI 15 (by decide)) (0) (499) rfl rfl
    have w_I_272_16 := rg (hvI 16 (by decide)) (0) (1) rfl rfl
    obtain ⟨qI, qJ, qR⟩ := xl0_272
    subst qI
    subst qJ
    subst qR
    refine lv_iload_n hx hb dX12_goesOn_272 rfl (lv_at hl 3 rfl) ?_
    refine lv_if_eq (tgt := 387) hx hb dX12_goesOn_273 (by decide) (fun c178 => ?_) (fun c178 => ?_)
    · have gc178 : a3_272.toInt = 0 := congrArg Int32.toInt c178
      exact lab_387 a1_272 a2_272 a3_272 I0 J0 R0 L_272 _ _ _ hvI hvR hsI hsR (show ((0 : Int) ≤ a1_272.toInt ∧ a1_272.toInt ≤ (8 : Int)) from by omega) (show ((0 : Int) ≤ a2_272.toInt ∧ a2_272.toInt ≤ (5 : Int)) from by omega) (show ((0 : Int) ≤ a3_272.toInt ∧ a3_272.toInt ≤ (1 : Int)) from by omega) (show (a1_272.toInt = (I0 13).toInt - 1) from by omega) (show ((I0 3).toInt ≤ (I0 4).toInt) from by omega) (show ((I0 4).toInt ≤ (I0 1).toInt) from by omega) (show ((¬ (I0 2).toInt = 0) → (I0 3).toInt < (I0 4).toInt) from by omega) (show ((¬ (I0 6).toInt = 0) → (¬ (I0 6).toInt = 0)) from by omega) (show ((I0 3).toInt ≤ (I0 3).toInt) from by omega) (show (I0 = I0 ∧ J0 = J0 ∧ R0 = R0) from ⟨rfl, rfl, rfl⟩) (show ((R0 28 d).toInt = a2_272.toInt) from xl1_272) hP hD hS (lv_sub hl [0, 1, 2, 3] rfl)
    · have gc178 : ¬ (a3_272.toInt = 0) := fun q0 => c178 (Int32.toInt_inj.mp q0)
      refine lv_aload_n hx hb dX12_goesOn_276 rfl (lv_at hl 0 rfl) ?_
      refine lv_ldc2 hx hb hown (F.2.2.2.2 _ clX12_298) dX12_goesOn_277 ?_
      refine wvi (As := [.long 6385252]) (rest := []) (b := (g 45)) (d := 1) F hK hP hD hS hA (s_X12_isWord2 l G g q I0 J0 R0 L_272 hvI hvR  6385252 ) kmV_X12_isWord mlX12_332 clX12 rfl 0 (Wm_at0 G g q I0 J0 R0 L_272) ⟨(Nat.le_of_ble_eq_true rfl), (Nat.le_of_ble_eq_true rfl)⟩ hl.1 rfl (Nat.le_of_ble_eq_true rfl) dX12_goesOn_280 (fun r179 u180 H locs hwr179 hP hD hS => ?_)
      obtain ⟨F0r179, F1r179, F2r179⟩ := hwr179
      replace F0r179 : ((0 : Int) ≤ r179.toInt ∧ r179.toInt ≤ (1 : Int)) := F0r179
      replace F1r179 : (r179.toInt = 1 → (I0 2).toInt = 1) := F1r179
      replace F2r179 : (r179.toInt = 1 → J0 0 = 6385252) := F2r179
      refine lv_if_ne (tgt := 296) hx hb dX12_goesOn_283 (by decide) (fun c181 => ?_) (fun c181 => ?_)
      · have gc181 : ¬ (r179.toInt = 0) := fun q0 => c181 (Int32.toInt_inj.mp q0)
        exact lab_296 a1_272 I0 J0 R0 L_272 _ _ _ hvI hvR hsI hsR (show ((0 : Int) ≤ a1_272.toInt ∧ a1_272.toInt ≤ (8 : Int)) from by omega) (show (a1_272.toInt = (I0 13).toInt - 1) from by omega) (show ((I0 2).toInt = 1) from by omega) (show ((I0 3).toInt ≤ (I0 4).toInt) from by omega) (show ((I0 4).toInt ≤ (I0 1).toInt) from by omega) (show ((¬ (I0 2).toInt = 0) → (I0 3).toInt < (I0 4).toInt) from by omega) (show ((¬ (I0 6).toInt = 0) → (¬ (I0 6).toInt = 0)) from by omega) (show ((I0 3).toInt ≤ (I0 3).toInt) from by omega) (show (I0 = I0 ∧ J0 = J0 ∧ R0 = R0) from ⟨rfl, rfl, rfl⟩) hP hD hS (lv_sub hl [0, 1] rfl)
      · have gc181 : r179.toInt = 0 := congrArg Int32.toInt c181
        refine lv_aload_n hx hb dX12_goesOn_286 rfl (lv_at hl 0 rfl) ?_
        refine lv_ldc2 hx hb hown (F.2.2.2.2 _ clX12_296) dX12_goesOn_287 ?_
        refine wvi (As := [.long 28530]) (rest := []) (b := (g 45)) (d := 1) F hK hP hD hS hA (s_X12_isWord2 l G g q I0 J0 R0 L_272 hvI hvR  28530 ) kmV_X12_isWord mlX12_332 clX12 rfl 0 (Wm_at0 G g q I0 J0 R0 L_272) ⟨(Nat.le_of_ble_eq_true rfl), (Nat.le_of_ble_eq_true rfl)⟩ hl.1 rfl (Nat.le_of_ble_eq_true rfl) dX12_goesOn_290 (fun r182 u183 H locs hwr182 hP hD hS => ?_)
        obtain ⟨F0r182, F1r182, F2r182⟩ := hwr182
        replace F0r182 : ((0 : Int) ≤ r182.toInt ∧ r182.toInt ≤ (1 : Int)) := F0r182
        replace F1r182 : (r182.toInt = 1 → (I0 2).toInt = 1) := F1r182
        replace F2r182 : (r182.toInt = 1 → J0 0 = 28530) := F2r182
        refine lv_if_eq (tgt := 387) hx hb dX12_goesOn_293 (by decide) (fun c184 => ?_) (fun c184 => ?_)
        · have gc184 : r182.toInt = 0 := congrArg Int32.toInt c184
          exact lab_387 a1_272 a2_272 a3_272 I0 J0 R0 L_272 _ _ _ hvI hvR hsI hsR (show ((0 : Int) ≤ a1_272.toInt ∧ a1_272.toInt ≤ (8 : Int)) from by omega) (show ((0 : Int) ≤ a2_272.toInt ∧ a2_272.toInt ≤ (5 : Int)) from by omega) (show ((0 : Int) ≤ a3_272.toInt ∧ a3_272.toInt ≤ (1 : Int)) from by omega) (show (a1_272.toInt = (I0 13).toInt - 1) from by omega) (show ((I0 3).toInt ≤ (I0 4).toInt) from by omega) (show ((I0 4).toInt ≤ (I0 1).toInt) from by omega) (show ((¬ (I0 2).toInt = 0) → (I0 3).toInt < (I0 4).toInt) from by omega) (show ((¬ (I0 6).toInt = 0) → (¬ (I0 6).toInt = 0)) from by omega) (show ((I0 3).toInt ≤ (I0 3).toInt) from by omega) (show (I0 = I0 ∧ J0 = J0 ∧ R0 = R0) from ⟨rfl, rfl, rfl⟩) (show ((R0 28 d).toInt = a2_272.toInt) from xl1_272) hP hD hS (lv_sub hl [0, 1, 2, 3] rfl)
        · have gc184 : ¬ (r182.toInt = 0) := fun q0 => c184 (Int32.toInt_inj.mp q0)
          exact lab_296 a1_272 I0 J0 R0 L_272 _ _ _ hvI hvR hsI hsR (show ((0 : Int) ≤ a1_272.toInt ∧ a1_272.toInt ≤ (8 : Int)) from by omega) (show (a1_272.toInt = (I0 13).toInt - 1) from by omega) (show ((I0 2).toInt = 1) from by omega) (show ((I0 3).toInt ≤ (I0 4).toInt) from by omega) (show ((I0 4).toInt ≤ (I0 1).toInt) from by omega) (show ((¬ (I0 2).toInt = 0) → (I0 3).toInt < (I0 4).toInt) from by omega) (show ((¬ (I0 6).toInt = 0) → (¬ (I0 6).toInt = 0)) from by omega) (show ((I0 3).toInt ≤ (I0 3).toInt) from by omega) (show (I0 = I0 ∧ J0 = J0 ∧ R0 = R0) from ⟨rfl, rfl, rfl⟩) hP hD hS (lv_sub hl [0, 1] rfl)
  have lab_175 : ∀ (a1_175 : Int32) (a2_175 : Int32) (a3_175 : Int32) (I_175 : Nat → Int32) (J_175 : Nat → Int64) (R_175 : Nat → Nat → Int32) (L_175 : Nat → Nat → Int64) (H : Heap) (locs : List Loc) (ls : Array Slot), InvI Wm_lo Wm_hi I_175 → InvR Wm_rl R_175 → SmF ([2, 3, 4, 5, 6, 7, 11, 13, 14, 15, 16] : List Nat) I0 I_175 → SmF ([26, 27, 28, 29, 30, 33] : List Nat) R0 R_175 → ((0 : Int) ≤ a1_175.toInt ∧ a1_175.toInt ≤ (8 : Int)) → ((0 : Int) ≤ a2_175.toInt ∧ a2_175.toInt ≤ (5 : Int)) → ((0 : Int) ≤ a3_175.toInt ∧ a3_175.toInt ≤ (1 : Int)) → (a1_175.toInt = (I0 13).toInt - 1) → ((I_175 3).toInt ≤ (I_175 4).toInt) → ((I_175 4).toInt ≤ (I0 1).toInt) → ((¬ (I_175 2).toInt = 0) → (I_175 3).toInt < (I_175 4).toInt) → ((¬ (I0 6).toInt = 0) → (¬ (I_175 6).toInt = 0)) → ((I0 3).toInt ≤ (I_175 3).toInt) → (I0 = I_175 ∧ J0 = J_175 ∧ R0 = R_175) → ((R0 28 d).toInt = a2_175.toInt) → va_P G.1 vwCl (Wm G g q I_175 J_175 R_175 L_175) H → va_D A (Wm G g q I_175 J_175 R_175 L_175) → va_S A s.heap H locs → lv_has ls 5 [(0, .ref (g 45)), (1, .int a1_175), (2, .int a2_175), (3, .int a3_175)] → W p l e (rmD 3 0 0) s m [.ref (g 45)].toArray below meth c H locs 0 0 Q (F0 m 175 ls []) := by
    intro a1_175 a2_175 a3_175 I_175 J_175 R_175 L_175 H locs ls hvI hvR hsI hsR y0_175 y1_175 y2_175 z0_175 z1_175 z2_175 z3_175 z4_175 z5_175 xl0_175 xl1_175 hP hD hS hl
    have hv_I_175 := hvI
    have w_I_175_1 := rg (hvI 1 (by decide)) (0) (1800) rfl rfl
    have v_I_175_1 : (I_175 1).toInt = (I0 1).toInt := congrArg Int32.toInt (hsI 1 rfl)
    have w_I_175_2 := rg (hvI 2 (by decide)) (0) (3) rfl rfl
    have w_I_175_3 := rg (hvI 3 (by decide)) (0) (1800) rfl rfl
    have w_I_175_4 := rg (hvI 4 (by decide)) (0) (1800) rfl rfl
    have w_I_175_5 := rg (hvI 5 (by decide)) (0) (9999) rfl rfl
    have w_I_175_6 := rg (hvI 6 (by decide)) (0) (5) rfl rfl
    have w_I_175_11 := rg (hvI 11 (by decide)) (0) (1800) rfl rfl
    have w_I_175_12 := rg (hvI 12 (by decide)) (0) (1) rfl rfl
    have v_I_175_12 : (I_175 12).toInt = (I0 12).toInt := congrArg Int32.toInt (hsI 12 rfl)
    have w_I_175_13 := rg (hvI 13 (by decide)) (0) (9) rfl rfl
    have w_I_175_14 := rg (hvI 14 (by decide)) (0) (8) rfl rfl
    have w_I_175_15 := rg (hvI 15 (by decide)) (0) (499) rfl rfl
    have w_I_175_16 := rg (hvI 16 (by decide)) (0) (1) rfl rfl
    obtain ⟨qI, qJ, qR⟩ := xl0_175
    subst qI
    subst qJ
    subst qR
    refine lv_iload_n hx hb dX12_goesOn_175 rfl (lv_at hl 3 rfl) ?_
    refine lv_if_eq (tgt := 272) hx hb dX12_goesOn_176 (by decide) (fun c185 => ?_) (fun c185 => ?_)
    · have gc185 : a3_175.toInt = 0 := congrArg Int32.toInt c185
      exact lab_272 a1_175 a2_175 a3_175 I0 J0 R0 L_175 _ _ _ hvI hvR hsI hsR (show ((0 : Int) ≤ a1_175.toInt ∧ a1_175.toInt ≤ (8 : Int)) from by omega) (show ((0 : Int) ≤ a2_175.toInt ∧ a2_175.toInt ≤ (5 : Int)) from by omega) (show ((0 : Int) ≤ a3_175.toInt ∧ a3_175.toInt ≤ (1 : Int)) from by omega) (show (a1_175.toInt = (I0 13).toInt - 1) from by omega) (show ((I0 3).toInt ≤ (I0 4).toInt) from by omega) (show ((I0 4).toInt ≤ (I0 1).toInt) from by omega) (show ((¬ (I0 2).toInt = 0) → (I0 3).toInt < (I0 4).toInt) from by omega) (show ((¬ (I0 6).toInt = 0) → (¬ (I0 6).toInt = 0)) from by omega) (show ((I0 3).toInt ≤ (I0 3).toInt) from by omega) (show (I0 = I0 ∧ J0 = J0 ∧ R0 = R0) from ⟨rfl, rfl, rfl⟩) (show ((R0 28 d).toInt = a2_175.toInt) from xl1_175) hP hD hS (lv_sub hl [0, 1, 2, 3] rfl)
    · have gc185 : ¬ (a3_175.toInt = 0) := fun q0 => c185 (Int32.toInt_inj.mp q0)
      refine lv_aload_n hx hb dX12_goesOn_179 rfl (lv_at hl 0 rfl) ?_
      refine g_get F hK hP 0 (Wm_at0 G g q I0 J0 R0 L_175) clX12 46 (by decide) flX12_152 rfl dX12_goesOn_180 ?_
      refine lv_iload_n hx hb dX12_goesOn_183 rfl (lv_at hl 1 rfl) ?_
      refine g_iald F hK hP 33 (Wm_at33 G g q I0 J0 R0 L_175) (in_of (by omega)) dX12_goesOn_184 rfl ?_
      refine lv_topi (fun x186 ex186 => ?_)
      have gx186 : x186.toInt = (R0 29 (Int32.toNatClampNeg a1_175)).toInt := congrArg Int32.toInt (ex186)
      have fx186 : ((0 : Int) ≤ x186.toInt ∧ x186.toInt ≤ (2 : Int)) := by rw [ex186]; exact hvR 29 (by decide) _ (clamp_lt (n := 20) (in_of (by omega)))
      refine lv_if_ne (tgt := 272) hx hb dX12_goesOn_185 (by decide) (fun c187 => ?_) (fun c187 => ?_)
      · have gc187 : ¬ (x186.toInt = 0) := fun q0 => c187 (Int32.toInt_inj.mp q0)
        exact lab_272 a1_175 a2_175 a3_175 I0 J0 R0 L_175 _ _ _ hvI hvR hsI hsR (show ((0 : Int) ≤ a1_175.toInt ∧ a1_175.toInt ≤ (8 : Int)) from by omega) (show ((0 : Int) ≤ a2_175.toInt ∧ a2_175.toInt ≤ (5 : Int)) from by omega) (show ((0 : Int) ≤ a3_175.toInt ∧ a3_175.toInt ≤ (1 : Int)) from by omega) (show (a1_175.toInt = (I0 13).toInt - 1) from by omega) (show ((I0 3).toInt ≤ (I0 4).toInt) from by omega) (show ((I0 4).toInt ≤ (I0 1).toInt) from by omega) (show ((¬ (I0 2).toInt = 0) → (I0 3).toInt < (I0 4).toInt) from by omega) (show ((¬ (I0 6).toInt = 0) → (¬ (I0 6).toInt = 0)) from by omega) (show ((I0 3).toInt ≤ (I0 3).toInt) from by omega) (show (I0 = I0 ∧ J0 = J0 ∧ R0 = R0) from ⟨rfl, rfl, rfl⟩) (show ((R0 28 d).toInt = a2_175.toInt) from xl1_175) hP hD hS (lv_sub hl [0, 1, 2, 3] rfl)
      · have gc187 : x186.toInt = 0 := congrArg Int32.toInt c187
        refine lv_aload_n hx hb dX12_goesOn_188 rfl (lv_at hl 0 rfl) ?_
        refine lv_bipush (v := 60) hx hb dX12_goesOn_189 (by decide) ?_
        refine wvi (As := [.int 60]) (rest := []) (b := (g 45)) (d := 1) F hK hP hD hS hA (s_X12_isSign2 l G g q I0 J0 R0 L_175 hvI hvR  60 (by decide)) kmV_X12_isSign mlX12_244 clX12 rfl 0 (Wm_at0 G g q I0 J0 R0 L_175) ⟨(Nat.le_of_ble_eq_true rfl), (Nat.le_of_ble_eq_true rfl)⟩ hl.1 rfl (Nat.le_of_ble_eq_true rfl) dX12_goesOn_191 (fun r188 u189 H locs hwr188 hP hD hS => ?_)
        obtain ⟨F0r188, F1r188⟩ := hwr188
        replace F0r188 : ((0 : Int) ≤ r188.toInt ∧ r188.toInt ≤ (1 : Int)) := F0r188
        replace F1r188 : ((r188.toInt = 1 ∧ (I0 2).toInt = 3 ∧ (I0 5).toInt = (60 : Int)) ∨ (r188.toInt = 0 ∧ (¬ (I0 2).toInt = 3 ∨ ¬ (I0 5).toInt = (60 : Int)))) := F1r188
        refine lv_if_ne (tgt := 215) hx hb dX12_goesOn_194 (by decide) (fun c190 => ?_) (fun c190 => ?_)
        · have gc190 : ¬ (r188.toInt = 0) := fun q0 => c190 (Int32.toInt_inj.mp q0)
          exact lab_215 a1_175 I0 J0 R0 L_175 _ _ _ hvI hvR hsI hsR (show ((0 : Int) ≤ a1_175.toInt ∧ a1_175.toInt ≤ (8 : Int)) from by omega) (show (a1_175.toInt = (I0 13).toInt - 1) from by omega) (show ((I0 2).toInt = 3) from by omega) (show ((I0 3).toInt ≤ (I0 4).toInt) from by omega) (show ((I0 4).toInt ≤ (I0 1).toInt) from by omega) (show ((¬ (I0 2).toInt = 0) → (I0 3).toInt < (I0 4).toInt) from by omega) (show ((¬ (I0 6).toInt = 0) → (¬ (I0 6).toInt = 0)) from by omega) (show ((I0 3).toInt ≤ (I0 3).toInt) from by omega) (show (I0 = I0 ∧ J0 = J0 ∧ R0 = R0) from ⟨rfl, rfl, rfl⟩) (show ((R0 29 d).toInt = 0) from at_cl (x := a1_175) (show (R0 29 (Int32.toNatClampNeg a1_175)).toInt = 0 from by omega) (by omega)) hP hD hS (lv_sub hl [0, 1] rfl)
        · have gc190 : r188.toInt = 0 := congrArg Int32.toInt c190
          refine lv_aload_n hx hb dX12_goesOn_197 rfl (lv_at hl 0 rfl) ?_
          refine lv_bipush (v := 62) hx hb dX12_goesOn_198 (by decide) ?_
          refine wvi (As := [.int 62]) (rest := []) (b := (g 45)) (d := 1) F hK hP hD hS hA (s_X12_isSign2 l G g q I0 J0 R0 L_175 hvI hvR  62 (by decide)) kmV_X12_isSign mlX12_244 clX12 rfl 0 (Wm_at0 G g q I0 J0 R0 L_175) ⟨(Nat.le_of_ble_eq_true rfl), (Nat.le_of_ble_eq_true rfl)⟩ hl.1 rfl (Nat.le_of_ble_eq_true rfl) dX12_goesOn_200 (fun r191 u192 H locs hwr191 hP hD hS => ?_)
          obtain ⟨F0r191, F1r191⟩ := hwr191
          replace F0r191 : ((0 : Int) ≤ r191.toInt ∧ r191.toInt ≤ (1 : Int)) := F0r191
          replace F1r191 : ((r191.toInt = 1 ∧ (I0 2).toInt = 3 ∧ (I0 5).toInt = (62 : Int)) ∨ (r191.toInt = 0 ∧ (¬ (I0 2).toInt = 3 ∨ ¬ (I0 5).toInt = (62 : Int)))) := F1r191
          refine lv_if_ne (tgt := 215) hx hb dX12_goesOn_203 (by decide) (fun c193 => ?_) (fun c193 => ?_)
          · have gc193 : ¬ (r191.toInt = 0) := fun q0 => c193 (Int32.toInt_inj.mp q0)
            exact lab_215 a1_175 I0 J0 R0 L_175 _ _ _ hvI hvR hsI hsR (show ((0 : Int) ≤ a1_175.toInt ∧ a1_175.toInt ≤ (8 : Int)) from by omega) (show (a1_175.toInt = (I0 13).toInt - 1) from by omega) (show ((I0 2).toInt = 3) from by omega) (show ((I0 3).toInt ≤ (I0 4).toInt) from by omega) (show ((I0 4).toInt ≤ (I0 1).toInt) from by omega) (show ((¬ (I0 2).toInt = 0) → (I0 3).toInt < (I0 4).toInt) from by omega) (show ((¬ (I0 6).toInt = 0) → (¬ (I0 6).toInt = 0)) from by omega) (show ((I0 3).toInt ≤ (I0 3).toInt) from by omega) (show (I0 = I0 ∧ J0 = J0 ∧ R0 = R0) from ⟨rfl, rfl, rfl⟩) (show ((R0 29 d).toInt = 0) from at_cl (x := a1_175) (show (R0 29 (Int32.toNatClampNeg a1_175)).toInt = 0 from by omega) (by omega)) hP hD hS (lv_sub hl [0, 1] rfl)
          · have gc193 : r191.toInt = 0 := congrArg Int32.toInt c193
            refine lv_aload_n hx hb dX12_goesOn_206 rfl (lv_at hl 0 rfl) ?_
            refine lv_bipush (v := 61) hx hb dX12_goesOn_207 (by decide) ?_
            refine wvi (As := [.int 61]) (rest := []) (b := (g 45)) (d := 1) F hK hP hD hS hA (s_X12_isSign2 l G g q I0 J0 R0 L_175 hvI hvR  61 (by decide)) kmV_X12_isSign mlX12_244 clX12 rfl 0 (Wm_at0 G g q I0 J0 R0 L_175) ⟨(Nat.le_of_ble_eq_true rfl), (Nat.le_of_ble_eq_true rfl)⟩ hl.1 rfl (Nat.le_of_ble_eq_true rfl) dX12_goesOn_209 (fun r194 u195 H locs hwr194 hP hD hS => ?_)
            obtain ⟨F0r194, F1r194⟩ := hwr194
            replace F0r194 : ((0 : Int) ≤ r194.toInt ∧ r194.toInt ≤ (1 : Int)) := F0r194
            replace F1r194 : ((r194.toInt = 1 ∧ (I0 2).toInt = 3 ∧ (I0 5).toInt = (61 : Int)) ∨ (r194.toInt = 0 ∧ (¬ (I0 2).toInt = 3 ∨ ¬ (I0 5).toInt = (61 : Int)))) := F1r194
            refine lv_if_eq (tgt := 272) hx hb dX12_goesOn_212 (by decide) (fun c196 => ?_) (fun c196 => ?_)
            · have gc196 : r194.toInt = 0 := congrArg Int32.toInt c196
              exact lab_272 a1_175 a2_175 a3_175 I0 J0 R0 L_175 _ _ _ hvI hvR hsI hsR (show ((0 : Int) ≤ a1_175.toInt ∧ a1_175.toInt ≤ (8 : Int)) from by omega) (show ((0 : Int) ≤ a2_175.toInt ∧ a2_175.toInt ≤ (5 : Int)) from by omega) (show ((0 : Int) ≤ a3_175.toInt ∧ a3_175.toInt ≤ (1 : Int)) from by omega) (show (a1_175.toInt = (I0 13).toInt - 1) from by omega) (show ((I0 3).toInt ≤ (I0 4).toInt) from by omega) (show ((I0 4).toInt ≤ (I0 1).toInt) from by omega) (show ((¬ (I0 2).toInt = 0) → (I0 3).toInt < (I0 4).toInt) from by omega) (show ((¬ (I0 6).toInt = 0) → (¬ (I0 6).toInt = 0)) from by omega) (show ((I0 3).toInt ≤ (I0 3).toInt) from by omega) (show (I0 = I0 ∧ J0 = J0 ∧ R0 = R0) from ⟨rfl, rfl, rfl⟩) (show ((R0 28 d).toInt = a2_175.toInt) from xl1_175) hP hD hS (lv_sub hl [0, 1, 2, 3] rfl)
            · have gc196 : ¬ (r194.toInt = 0) := fun q0 => c196 (Int32.toInt_inj.mp q0)
              exact lab_215 a1_175 I0 J0 R0 L_175 _ _ _ hvI hvR hsI hsR (show ((0 : Int) ≤ a1_175.toInt ∧ a1_175.toInt ≤ (8 : Int)) from by omega) (show (a1_175.toInt = (I0 13).toInt - 1) from by omega) (show ((I0 2).toInt = 3) from by omega) (show ((I0 3).toInt ≤ (I0 4).toInt) from by omega) (show ((I0 4).toInt ≤ (I0 1).toInt) from by omega) (show ((¬ (I0 2).toInt = 0) → (I0 3).toInt < (I0 4).toInt) from by omega) (show ((¬ (I0 6).toInt = 0) → (¬ (I0 6).toInt = 0)) from by omega) (show ((I0 3).toInt ≤ (I0 3).toInt) from by omega) (show (I0 = I0 ∧ J0 = J0 ∧ R0 = R0) from ⟨rfl, rfl, rfl⟩) (show ((R0 29 d).toInt = 0) from at_cl (x := a1_175) (show (R0 29 (Int32.toNatClampNeg a1_175)).toInt = 0 from by omega) (by omega)) hP hD hS (lv_sub hl [0, 1] rfl)
  have w_I0_1 := rg (hvI 1 (by decide)) (0) (1800) rfl rfl
  have w_I0_2 := rg (hvI 2 (by decide)) (0) (3) rfl rfl
  have w_I0_3 := rg (hvI 3 (by decide)) (0) (1800) rfl rfl
  have w_I0_4 := rg (hvI 4 (by decide)) (0) (1800) rfl rfl
  have w_I0_5 := rg (hvI 5 (by decide)) (0) (9999) rfl rfl
  have w_I0_6 := rg (hvI 6 (by decide)) (0) (5) rfl rfl
  have w_I0_11 := rg (hvI 11 (by decide)) (0) (1800) rfl rfl
  have w_I0_12 := rg (hvI 12 (by decide)) (0) (1) rfl rfl
  have w_I0_13 := rg (hvI 13 (by decide)) (0) (9) rfl rfl
  have w_I0_14 := rg (hvI 14 (by decide)) (0) (8) rfl rfl
  have w_I0_15 := rg (hvI 15 (by decide)) (0) (499) rfl rfl
  have w_I0_16 := rg (hvI 16 (by decide)) (0) (1) rfl rfl
  refine lv_aload_n hx hb dX12_goesOn_0 rfl (lv_at hl 0 rfl) ?_
  refine g_get F hK hP 0 (Wm_at0 G g q I0 J0 R0 L0) clX12 50 (by decide) flX12_164 rfl dX12_goesOn_1 ?_
  have w_I0_13 := rg (hvI0 13 (by decide)) (0) (9) rfl rfl
  refine lv_iconst (v := 1) hx hb dX12_goesOn_4 (by decide) ?_
  refine lv_isub hx hb dX12_goesOn_5 ?_
  refine lv_topi (fun x197 ex197 => ?_)
  have fx197 : x197.toInt = (I0 13).toInt - 1 := by rw [ex197]; exact t_sub (by show (-2147483648 : Int) ≤ (I0 13).toInt - 1; omega) (by show (I0 13).toInt - 1 ≤ 2147483647; omega)
  refine lv_istore_n (lv' := [(1, .int x197), (0, .ref (g 45))]) hx hb dX12_goesOn_6 rfl hl (by decide) rfl (fun ls hl => ?_)
  refine lv_aload_n hx hb dX12_goesOn_7 rfl (lv_at hl 1 rfl) ?_
  refine g_get F hK hP 0 (Wm_at0 G g q I0 J0 R0 L0) clX12 45 (by decide) flX12_149 rfl dX12_goesOn_8 ?_
  refine lv_iload_n hx hb dX12_goesOn_11 rfl (lv_at hl 0 rfl) ?_
  refine g_iald F hK hP 32 (Wm_at32 G g q I0 J0 R0 L0) (in_of (by omega)) dX12_goesOn_12 rfl ?_
  refine lv_topi (fun x198 ex198 => ?_)
  have gx198 : x198.toInt = (R0 28 (Int32.toNatClampNeg x197)).toInt := congrArg Int32.toInt (ex198)
  have fx198 : ((0 : Int) ≤ x198.toInt ∧ x198.toInt ≤ (5 : Int)) := by rw [ex198]; exact hvR 28 (by decide) _ (clamp_lt (n := 20) (in_of (by omega)))
  refine lv_istore_n (lv' := [(2, .int x198), (1, .int x197), (0, .ref (g 45))]) hx hb dX12_goesOn_13 rfl hl (by decide) rfl (fun ls hl => ?_)
  refine lv_iload_n hx hb dX12_goesOn_14 rfl (lv_at hl 0 rfl) ?_
  refine w0i (As := [.int x198]) (rest := []) (d := 1) F hK hP hD hS hA (s_X12_isTest l G  x198 (show ((0 : Int) ≤ x198.toInt ∧ x198.toInt ≤ (5 : Int)) from by omega)) kmS_X12_isTest mlX12_329 ⟨(Nat.le_of_ble_eq_true rfl), (Nat.le_of_ble_eq_true rfl)⟩ hl.1 rfl (Nat.le_of_ble_eq_true rfl) dX12_goesOn_15 (fun r199 u200 H locs hwr199 hP hD hS => ?_)
  have F0r199 := hwr199
  replace F0r199 : ((0 : Int) ≤ r199.toInt ∧ r199.toInt ≤ (1 : Int)) := F0r199
  refine lv_istore_n (lv' := [(3, .int r199), (2, .int x198), (1, .int x197), (0, .ref (g 45))]) hx hb dX12_goesOn_18 rfl hl (by decide) rfl (fun ls hl => ?_)
  refine lv_aload_n hx hb dX12_goesOn_19 rfl (lv_at hl 3 rfl) ?_
  refine g_get F hK hP 0 (Wm_at0 G g q I0 J0 R0 L0) clX12 46 (by decide) flX12_152 rfl dX12_goesOn_20 ?_
  refine lv_iload_n hx hb dX12_goesOn_23 rfl (lv_at hl 2 rfl) ?_
  refine g_iald F hK hP 33 (Wm_at33 G g q I0 J0 R0 L0) (in_of (by omega)) dX12_goesOn_24 rfl ?_
  refine lv_topi (fun x201 ex201 => ?_)
  have gx201 : x201.toInt = (R0 29 (Int32.toNatClampNeg x197)).toInt := congrArg Int32.toInt (ex201)
  have fx201 : ((0 : Int) ≤ x201.toInt ∧ x201.toInt ≤ (2 : Int)) := by rw [ex201]; exact hvR 29 (by decide) _ (clamp_lt (n := 20) (in_of (by omega)))
  refine lv_iconst (v := 2) hx hb dX12_goesOn_25 (by decide) ?_
  refine lv_icmp_ge (tgt := 175) hx hb dX12_goesOn_26 (by decide) (fun c202 => ?_) (fun c202 => ?_)
  · have gc202 : 2 ≤ x201.toInt := (tle _ _).mp c202
    exact lab_175 x197 x198 r199 I0 J0 R0 L0 _ _ _ hvI hvR hsI hsR (show ((0 : Int) ≤ x197.toInt ∧ x197.toInt ≤ (8 : Int)) from by omega) (show ((0 : Int) ≤ x198.toInt ∧ x198.toInt ≤ (5 : Int)) from by omega) (show ((0 : Int) ≤ r199.toInt ∧ r199.toInt ≤ (1 : Int)) from by omega) (show (x197.toInt = (I0 13).toInt - 1) from by omega) (show ((I0 3).toInt ≤ (I0 4).toInt) from by omega) (show ((I0 4).toInt ≤ (I0 1).toInt) from by omega) (show ((¬ (I0 2).toInt = 0) → (I0 3).toInt < (I0 4).toInt) from by omega) (show ((¬ (I0 6).toInt = 0) → (¬ (I0 6).toInt = 0)) from by omega) (show ((I0 3).toInt ≤ (I0 3).toInt) from by omega) (show (I0 = I0 ∧ J0 = J0 ∧ R0 = R0) from ⟨rfl, rfl, rfl⟩) (show ((R0 28 d).toInt = x198.toInt) from at_cl (x := x197) gx198.symm (by omega)) hP hD hS (lv_sub hl [3, 2, 1, 0] rfl)
  · have gc202 : ¬ (2 ≤ x201.toInt) := fun q0 => c202 ((tle _ _).mpr q0)
    refine lv_aload_n hx hb dX12_goesOn_29 rfl (lv_at hl 3 rfl) ?_
    refine lv_bipush (v := 43) hx hb dX12_goesOn_30 (by decide) ?_
    refine wvi (As := [.int 43]) (rest := []) (b := (g 45)) (d := 1) F hK hP hD hS hA (s_X12_isSign2 l G g q I0 J0 R0 L0 hvI hvR  43 (by decide)) kmV_X12_isSign mlX12_244 clX12 rfl 0 (Wm_at0 G g q I0 J0 R0 L0) ⟨(Nat.le_of_ble_eq_true rfl), (Nat.le_of_ble_eq_true rfl)⟩ hl.1 rfl (Nat.le_of_ble_eq_true rfl) dX12_goesOn_32 (fun r203 u204 H locs hwr203 hP hD hS => ?_)
    obtain ⟨F0r203, F1r203⟩ := hwr203
    replace F0r203 : ((0 : Int) ≤ r203.toInt ∧ r203.toInt ≤ (1 : Int)) := F0r203
    replace F1r203 : ((r203.toInt = 1 ∧ (I0 2).toInt = 3 ∧ (I0 5).toInt = (43 : Int)) ∨ (r203.toInt = 0 ∧ (¬ (I0 2).toInt = 3 ∨ ¬ (I0 5).toInt = (43 : Int)))) := F1r203
    refine lv_if_ne (tgt := 74) hx hb dX12_goesOn_35 (by decide) (fun c205 => ?_) (fun c205 => ?_)
    · have gc205 : ¬ (r203.toInt = 0) := fun q0 => c205 (Int32.toInt_inj.mp q0)
      exact lab_74  I0 J0 R0 L0 _ _ _ hvI hvR hsI hsR (show ((I0 2).toInt = 3) from by omega) (show ((I0 3).toInt ≤ (I0 4).toInt) from by omega) (show ((I0 4).toInt ≤ (I0 1).toInt) from by omega) (show ((¬ (I0 2).toInt = 0) → (I0 3).toInt < (I0 4).toInt) from by omega) (show ((¬ (I0 6).toInt = 0) → (¬ (I0 6).toInt = 0)) from by omega) (show ((I0 3).toInt ≤ (I0 3).toInt) from by omega) (show (I0 = I0 ∧ J0 = J0 ∧ R0 = R0) from ⟨rfl, rfl, rfl⟩) hP hD hS (lv_sub hl [3] rfl)
    · have gc205 : r203.toInt = 0 := congrArg Int32.toInt c205
      refine lv_aload_n hx hb dX12_goesOn_38 rfl (lv_at hl 3 rfl) ?_
      refine lv_bipush (v := 45) hx hb dX12_goesOn_39 (by decide) ?_
      refine wvi (As := [.int 45]) (rest := []) (b := (g 45)) (d := 1) F hK hP hD hS hA (s_X12_isSign2 l G g q I0 J0 R0 L0 hvI hvR  45 (by decide)) kmV_X12_isSign mlX12_244 clX12 rfl 0 (Wm_at0 G g q I0 J0 R0 L0) ⟨(Nat.le_of_ble_eq_true rfl), (Nat.le_of_ble_eq_true rfl)⟩ hl.1 rfl (Nat.le_of_ble_eq_true rfl) dX12_goesOn_41 (fun r206 u207 H locs hwr206 hP hD hS => ?_)
      obtain ⟨F0r206, F1r206⟩ := hwr206
      replace F0r206 : ((0 : Int) ≤ r206.toInt ∧ r206.toInt ≤ (1 : Int)) := F0r206
      replace F1r206 : ((r206.toInt = 1 ∧ (I0 2).toInt = 3 ∧ (I0 5).toInt = (45 : Int)) ∨ (r206.toInt = 0 ∧ (¬ (I0 2).toInt = 3 ∨ ¬ (I0 5).toInt = (45 : Int)))) := F1r206
      refine lv_if_ne (tgt := 74) hx hb dX12_goesOn_44 (by decide) (fun c208 => ?_) (fun c208 => ?_)
      · have gc208 : ¬ (r206.toInt = 0) := fun q0 => c208 (Int32.toInt_inj.mp q0)
        exact lab_74  I0 J0 R0 L0 _ _ _ hvI hvR hsI hsR (show ((I0 2).toInt = 3) from by omega) (show ((I0 3).toInt ≤ (I0 4).toInt) from by omega) (show ((I0 4).toInt ≤ (I0 1).toInt) from by omega) (show ((¬ (I0 2).toInt = 0) → (I0 3).toInt < (I0 4).toInt) from by omega) (show ((¬ (I0 6).toInt = 0) → (¬ (I0 6).toInt = 0)) from by omega) (show ((I0 3).toInt ≤ (I0 3).toInt) from by omega) (show (I0 = I0 ∧ J0 = J0 ∧ R0 = R0) from ⟨rfl, rfl, rfl⟩) hP hD hS (lv_sub hl [3] rfl)
      · have gc208 : r206.toInt = 0 := congrArg Int32.toInt c208
        refine lv_aload_n hx hb dX12_goesOn_47 rfl (lv_at hl 3 rfl) ?_
        refine lv_bipush (v := 42) hx hb dX12_goesOn_48 (by decide) ?_
        refine wvi (As := [.int 42]) (rest := []) (b := (g 45)) (d := 1) F hK hP hD hS hA (s_X12_isSign2 l G g q I0 J0 R0 L0 hvI hvR  42 (by decide)) kmV_X12_isSign mlX12_244 clX12 rfl 0 (Wm_at0 G g q I0 J0 R0 L0) ⟨(Nat.le_of_ble_eq_true rfl), (Nat.le_of_ble_eq_true rfl)⟩ hl.1 rfl (Nat.le_of_ble_eq_true rfl) dX12_goesOn_50 (fun r209 u210 H locs hwr209 hP hD hS => ?_)
        obtain ⟨F0r209, F1r209⟩ := hwr209
        replace F0r209 : ((0 : Int) ≤ r209.toInt ∧ r209.toInt ≤ (1 : Int)) := F0r209
        replace F1r209 : ((r209.toInt = 1 ∧ (I0 2).toInt = 3 ∧ (I0 5).toInt = (42 : Int)) ∨ (r209.toInt = 0 ∧ (¬ (I0 2).toInt = 3 ∨ ¬ (I0 5).toInt = (42 : Int)))) := F1r209
        refine lv_if_ne (tgt := 74) hx hb dX12_goesOn_53 (by decide) (fun c211 => ?_) (fun c211 => ?_)
        · have gc211 : ¬ (r209.toInt = 0) := fun q0 => c211 (Int32.toInt_inj.mp q0)
          exact lab_74  I0 J0 R0 L0 _ _ _ hvI hvR hsI hsR (show ((I0 2).toInt = 3) from by omega) (show ((I0 3).toInt ≤ (I0 4).toInt) from by omega) (show ((I0 4).toInt ≤ (I0 1).toInt) from by omega) (show ((¬ (I0 2).toInt = 0) → (I0 3).toInt < (I0 4).toInt) from by omega) (show ((¬ (I0 6).toInt = 0) → (¬ (I0 6).toInt = 0)) from by omega) (show ((I0 3).toInt ≤ (I0 3).toInt) from by omega) (show (I0 = I0 ∧ J0 = J0 ∧ R0 = R0) from ⟨rfl, rfl, rfl⟩) hP hD hS (lv_sub hl [3] rfl)
        · have gc211 : r209.toInt = 0 := congrArg Int32.toInt c211
          refine lv_aload_n hx hb dX12_goesOn_56 rfl (lv_at hl 3 rfl) ?_
          refine lv_bipush (v := 47) hx hb dX12_goesOn_57 (by decide) ?_
          refine wvi (As := [.int 47]) (rest := []) (b := (g 45)) (d := 1) F hK hP hD hS hA (s_X12_isSign2 l G g q I0 J0 R0 L0 hvI hvR  47 (by decide)) kmV_X12_isSign mlX12_244 clX12 rfl 0 (Wm_at0 G g q I0 J0 R0 L0) ⟨(Nat.le_of_ble_eq_true rfl), (Nat.le_of_ble_eq_true rfl)⟩ hl.1 rfl (Nat.le_of_ble_eq_true rfl) dX12_goesOn_59 (fun r212 u213 H locs hwr212 hP hD hS => ?_)
          obtain ⟨F0r212, F1r212⟩ := hwr212
          replace F0r212 : ((0 : Int) ≤ r212.toInt ∧ r212.toInt ≤ (1 : Int)) := F0r212
          replace F1r212 : ((r212.toInt = 1 ∧ (I0 2).toInt = 3 ∧ (I0 5).toInt = (47 : Int)) ∨ (r212.toInt = 0 ∧ (¬ (I0 2).toInt = 3 ∨ ¬ (I0 5).toInt = (47 : Int)))) := F1r212
          refine lv_if_ne (tgt := 74) hx hb dX12_goesOn_62 (by decide) (fun c214 => ?_) (fun c214 => ?_)
          · have gc214 : ¬ (r212.toInt = 0) := fun q0 => c214 (Int32.toInt_inj.mp q0)
            exact lab_74  I0 J0 R0 L0 _ _ _ hvI hvR hsI hsR (show ((I0 2).toInt = 3) from by omega) (show ((I0 3).toInt ≤ (I0 4).toInt) from by omega) (show ((I0 4).toInt ≤ (I0 1).toInt) from by omega) (show ((¬ (I0 2).toInt = 0) → (I0 3).toInt < (I0 4).toInt) from by omega) (show ((¬ (I0 6).toInt = 0) → (¬ (I0 6).toInt = 0)) from by omega) (show ((I0 3).toInt ≤ (I0 3).toInt) from by omega) (show (I0 = I0 ∧ J0 = J0 ∧ R0 = R0) from ⟨rfl, rfl, rfl⟩) hP hD hS (lv_sub hl [3] rfl)
          · have gc214 : r212.toInt = 0 := congrArg Int32.toInt c214
            refine lv_aload_n hx hb dX12_goesOn_65 rfl (lv_at hl 3 rfl) ?_
            refine lv_bipush (v := 37) hx hb dX12_goesOn_66 (by decide) ?_
            refine wvi (As := [.int 37]) (rest := []) (b := (g 45)) (d := 1) F hK hP hD hS hA (s_X12_isSign2 l G g q I0 J0 R0 L0 hvI hvR  37 (by decide)) kmV_X12_isSign mlX12_244 clX12 rfl 0 (Wm_at0 G g q I0 J0 R0 L0) ⟨(Nat.le_of_ble_eq_true rfl), (Nat.le_of_ble_eq_true rfl)⟩ hl.1 rfl (Nat.le_of_ble_eq_true rfl) dX12_goesOn_68 (fun r215 u216 H locs hwr215 hP hD hS => ?_)
            obtain ⟨F0r215, F1r215⟩ := hwr215
            replace F0r215 : ((0 : Int) ≤ r215.toInt ∧ r215.toInt ≤ (1 : Int)) := F0r215
            replace F1r215 : ((r215.toInt = 1 ∧ (I0 2).toInt = 3 ∧ (I0 5).toInt = (37 : Int)) ∨ (r215.toInt = 0 ∧ (¬ (I0 2).toInt = 3 ∨ ¬ (I0 5).toInt = (37 : Int)))) := F1r215
            refine lv_if_eq (tgt := 175) hx hb dX12_goesOn_71 (by decide) (fun c217 => ?_) (fun c217 => ?_)
            · have gc217 : r215.toInt = 0 := congrArg Int32.toInt c217
              exact lab_175 x197 x198 r199 I0 J0 R0 L0 _ _ _ hvI hvR hsI hsR (show ((0 : Int) ≤ x197.toInt ∧ x197.toInt ≤ (8 : Int)) from by omega) (show ((0 : Int) ≤ x198.toInt ∧ x198.toInt ≤ (5 : Int)) from by omega) (show ((0 : Int) ≤ r199.toInt ∧ r199.toInt ≤ (1 : Int)) from by omega) (show (x197.toInt = (I0 13).toInt - 1) from by omega) (show ((I0 3).toInt ≤ (I0 4).toInt) from by omega) (show ((I0 4).toInt ≤ (I0 1).toInt) from by omega) (show ((¬ (I0 2).toInt = 0) → (I0 3).toInt < (I0 4).toInt) from by omega) (show ((¬ (I0 6).toInt = 0) → (¬ (I0 6).toInt = 0)) from by omega) (show ((I0 3).toInt ≤ (I0 3).toInt) from by omega) (show (I0 = I0 ∧ J0 = J0 ∧ R0 = R0) from ⟨rfl, rfl, rfl⟩) (show ((R0 28 d).toInt = x198.toInt) from at_cl (x := x197) gx198.symm (by omega)) hP hD hS (lv_sub hl [3, 2, 1, 0] rfl)
            · have gc217 : ¬ (r215.toInt = 0) := fun q0 => c217 (Int32.toInt_inj.mp q0)
              exact lab_74  I0 J0 R0 L0 _ _ _ hvI hvR hsI hsR (show ((I0 2).toInt = 3) from by omega) (show ((I0 3).toInt ≤ (I0 4).toInt) from by omega) (show ((I0 4).toInt ≤ (I0 1).toInt) from by omega) (show ((¬ (I0 2).toInt = 0) → (I0 3).toInt < (I0 4).toInt) from by omega) (show ((¬ (I0 6).toInt = 0) → (¬ (I0 6).toInt = 0)) from by omega) (show ((I0 3).toInt ≤ (I0 3).toInt) from by omega) (show (I0 = I0 ∧ J0 = J0 ∧ R0 = R0) from ⟨rfl, rfl, rfl⟩) hP hD hS (lv_sub hl [3] rfl)
