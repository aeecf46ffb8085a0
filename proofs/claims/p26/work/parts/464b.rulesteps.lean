set_option maxHeartbeats 4000000 in
set_option maxRecDepth 100000 in
theorem s_X12_add (l : Launch) (G : Gx) (g q : Nat → Nat) (I0 : Nat → Int32) (J0 : Nat → Int64) (R0 : Nat → Nat → Int32) (L0 : Nat → Nat → Int64) (hvI : InvI Wm_lo Wm_hi I0) (hvR : InvR Wm_rl R0)  (p1 : Int32) (p2 : Int32) (hp1 : ((0 : Int) ≤ p1.toInt ∧ p1.toInt ≤ (22 : Int))) (hp2 : ((0 : Int) ≤ p2.toInt ∧ p2.toInt ≤ (9999 : Int))) (hpre0 : ((I0 11).toInt ≤ 1799)) : CtV (S := St) l yX12_add cX12_add 3 none (rmD 1 0 0) G [.ref (g 45), .int p1, .int p2] (Wm G g q I0 J0 R0 L0) (fun u => InvI Wm_lo Wm_hi u.1 ∧ InvR Wm_rl u.2.2.1 ∧ SmF ([11] : List Nat) I0 u.1 ∧ SmF ([26, 27] : List Nat) R0 u.2.2.1 ∧ ((u.1 11).toInt = (I0 11).toInt + 1) ∧ (u.2.2.1 26 = upd (R0 26) ((1800 * (I0 12).toInt + (I0 11).toInt).toNat) p1)) (fun u => Wm G g q u.1 u.2.1 u.2.2.1 u.2.2.2) := by
  refine ctV_of (own := RX12) (by decide +kernel) rfl (Nat.le_of_ble_eq_true rfl) ?_
  intro p e s m below meth c A ls F hr hlk hnm hK hP hD hA hS hl
  have hx := F.1
  have hb := F.2.1
  have hown := F.2.2.2.1
  have hl : lv_has ls 3 [(0, .ref (g 45)), (1, .int p1), (2, .int p2)] := hl
  obtain ⟨Q, hQ⟩ : ∃ Q : State → Prop, Q = MQ below (va_Qv (S := St) (fun u => InvI Wm_lo Wm_hi u.1 ∧ InvR Wm_rl u.2.2.1 ∧ SmF ([11] : List Nat) I0 u.1 ∧ SmF ([26, 27] : List Nat) R0 u.2.2.1 ∧ ((u.1 11).toInt = (I0 11).toInt + 1) ∧ (u.2.2.1 26 = upd (R0 26) ((1800 * (I0 12).toInt + (I0 11).toInt).toNat) p1)) (BX G A (fun u => Wm G g q u.1 u.2.1 u.2.2.1 u.2.2.2)) A) [.ref (g 45), .int p1, .int p2].toArray s 0 0 A := ⟨_, rfl⟩
  rw [show (MQ below (va_Qv (S := St) (fun u => InvI Wm_lo Wm_hi u.1 ∧ InvR Wm_rl u.2.2.1 ∧ SmF ([11] : List Nat) I0 u.1 ∧ SmF ([26, 27] : List Nat) R0 u.2.2.1 ∧ ((u.1 11).toInt = (I0 11).toInt + 1) ∧ (u.2.2.1 26 = upd (R0 26) ((1800 * (I0 12).toInt + (I0 11).toInt).toNat) p1)) (BX G A (fun u => Wm G g q u.1 u.2.1 u.2.2.1 u.2.2.2)) A) [.ref (g 45), .int p1, .int p2].toArray s (rmD 1 0 0).cells (rmD 1 0 0).slots A) = Q from hQ.symm]
  have hsI := smF_rf ([11] : List Nat) I0
  have hsR := smF_rf ([26, 27] : List Nat) R0
  have hvI0 := hvI
  have w_I0_11 := rg (hvI 11 (by decide)) (0) (1800) rfl rfl
  refine lv_aload_n hx hb dX12_add_0 rfl (lv_at hl 0 rfl) ?_
  refine g_get F hK hP 0 (Wm_at0 G g q I0 J0 R0 L0) clX12 41 (by decide) flX12_137 rfl dX12_add_1 ?_
  refine lv_sipush (v := 1800) hx hb dX12_add_4 (by decide) ?_
  refine lv_aload_n hx hb dX12_add_7 rfl (lv_at hl 0 rfl) ?_
  refine g_get F hK hP 0 (Wm_at0 G g q I0 J0 R0 L0) clX12 44 (by decide) flX12_146 rfl dX12_add_8 ?_
  have w_I0_12 := rg (hvI0 12 (by decide)) (0) (1) rfl rfl
  refine lv_imul hx hb dX12_add_11 ?_
  refine lv_topi (fun x1 ex1 => ?_)
  have fx1 : x1.toInt = 1800 * (I0 12).toInt := by rw [ex1]; exact t_mul (by show (-2147483648 : Int) ≤ 1800 * (I0 12).toInt; omega) (by show 1800 * (I0 12).toInt ≤ 2147483647; omega)
  refine lv_aload_n hx hb dX12_add_12 rfl (lv_at hl 0 rfl) ?_
  refine g_get F hK hP 0 (Wm_at0 G g q I0 J0 R0 L0) clX12 43 (by decide) flX12_143 rfl dX12_add_13 ?_
  have w_I0_11 := rg (hvI0 11 (by decide)) (0) (1800) rfl rfl
  refine lv_iadd hx hb dX12_add_16 ?_
  refine lv_topi (fun x2 ex2 => ?_)
  have fx2 : x2.toInt = x1.toInt + (I0 11).toInt := by rw [ex2]; exact t_add (by show (-2147483648 : Int) ≤ x1.toInt + (I0 11).toInt; omega) (by show x1.toInt + (I0 11).toInt ≤ 2147483647; omega)
  refine lv_iload_n hx hb dX12_add_17 rfl (lv_at hl 1 rfl) ?_
  refine p_row (W1 := fun y => Wm G g q I0 J0 y L0) (n := 26) F hK hP hD hS 30 (Wm_at30 G g q I0 J0 R0 L0) (in_of (by omega)) dX12_add_18 (Wm_rowR26 G g q I0 J0 R0 L0) (fun R3 H locs eR3 hP hD hS => ?_)
  have hvR : InvR Wm_rl R3 := inv_upR hvR 26 eR3 (upd_in (hvR 26 (by decide)) (show ((0 : Int) ≤ p1.toInt ∧ p1.toInt ≤ (22 : Int)) from by omega))
  have hsR := smF_up hsR eR3 (by decide)
  refine lv_aload_n hx hb dX12_add_19 rfl (lv_at hl 0 rfl) ?_
  refine g_get F hK hP 0 (Wm_at0 G g q I0 J0 R3 L0) clX12 42 (by decide) flX12_140 rfl dX12_add_20 ?_
  refine lv_sipush (v := 1800) hx hb dX12_add_23 (by decide) ?_
  refine lv_aload_n hx hb dX12_add_26 rfl (lv_at hl 0 rfl) ?_
  refine g_get F hK hP 0 (Wm_at0 G g q I0 J0 R3 L0) clX12 44 (by decide) flX12_146 rfl dX12_add_27 ?_
  refine lv_imul hx hb dX12_add_30 ?_
  refine lv_topi (fun x4 ex4 => ?_)
  have fx4 : x4.toInt = 1800 * (I0 12).toInt := by rw [ex4]; exact t_mul (by show (-2147483648 : Int) ≤ 1800 * (I0 12).toInt; omega) (by show 1800 * (I0 12).toInt ≤ 2147483647; omega)
  refine lv_aload_n hx hb dX12_add_31 rfl (lv_at hl 0 rfl) ?_
  refine g_get F hK hP 0 (Wm_at0 G g q I0 J0 R3 L0) clX12 43 (by decide) flX12_143 rfl dX12_add_32 ?_
  refine lv_iadd hx hb dX12_add_35 ?_
  refine lv_topi (fun x5 ex5 => ?_)
  have fx5 : x5.toInt = x4.toInt + (I0 11).toInt := by rw [ex5]; exact t_add (by show (-2147483648 : Int) ≤ x4.toInt + (I0 11).toInt; omega) (by show x4.toInt + (I0 11).toInt ≤ 2147483647; omega)
  refine lv_iload_n hx hb dX12_add_36 rfl (lv_at hl 2 rfl) ?_
  refine p_row (W1 := fun y => Wm G g q I0 J0 y L0) (n := 27) F hK hP hD hS 31 (Wm_at31 G g q I0 J0 R3 L0) (in_of (by omega)) dX12_add_37 (Wm_rowR27 G g q I0 J0 R3 L0) (fun R6 H locs eR6 hP hD hS => ?_)
  have hvR : InvR Wm_rl R6 := inv_upR hvR 27 eR6 (upd_in (hvR 27 (by decide)) (full _))
  have hsR := smF_up hsR eR6 (by decide)
  refine lv_aload_n hx hb dX12_add_38 rfl (lv_at hl 0 rfl) ?_
  refine lv_dup hx hb dX12_add_39 rfl ?_
  refine g_get F hK hP 0 (Wm_at0 G g q I0 J0 R6 L0) clX12 43 (by decide) flX12_143 rfl dX12_add_40 ?_
  refine lv_iconst (v := 1) hx hb dX12_add_43 (by decide) ?_
  refine lv_iadd hx hb dX12_add_44 ?_
  refine lv_topi (fun x7 ex7 => ?_)
  have fx7 : x7.toInt = (I0 11).toInt + 1 := by rw [ex7]; exact t_add (by show (-2147483648 : Int) ≤ (I0 11).toInt + 1; omega) (by show (I0 11).toInt + 1 ≤ 2147483647; omega)
  refine p_fld (W1 := fun y => Wm G g q y J0 R6 L0) (n := 11) (v := x7) F hK hP hD hS 0 (Wm_at0 G g q I0 J0 R6 L0) clX12 43 (by decide) flX12_143 rfl rfl rfl (Nat.le_of_ble_eq_true rfl) dX12_add_45 (Wm_setI11 G g q I0 J0 R6 L0 _) (fun I8 H locs eI8 hP hD hS => ?_)
  have hvI : InvI Wm_lo Wm_hi I8 := inv_upI hvI 11 eI8 (show ((0 : Int) ≤ x7.toInt ∧ x7.toInt ≤ (1800 : Int)) from by omega)
  have hsI := smF_up hsI eI8 (by decide)
  have hv_I8 := hvI
  have u_I8_11 : (I8 11).toInt = x7.toInt := by rw [eI8]; rfl
  rw [hQ]
  exact q_v F hr hlk (I8, J0, R6, L0) hP hD hS ⟨hvI, hvR, hsI, hsR, (show ((I8 11).toInt = (I0 11).toInt + 1) from by omega), (show (R6 26 = upd (R0 26) ((1800 * (I0 12).toInt + (I0 11).toInt).toNat) p1) from by first | (rw [up_ne (j := 26) eR6 (by decide), eR3, va_up_self]; done) | (rw [up_ne (j := 26) eR6 (by decide), eR3, va_up_self]; exact congrArg (fun z => upd (R0 26) z p1) (show Int32.toNatClampNeg x2 = (1800 * (I0 12).toInt + (I0 11).toInt).toNat from by have := clamp_nn (x := x2) (by omega); omega)))⟩ dX12_add_48 (Nat.le_of_ble_eq_true rfl) (Nat.le_of_ble_eq_true rfl)
set_option maxHeartbeats 4000000 in
set_option maxRecDepth 100000 in
theorem s_X12_holdsBack (l : Launch) (G : Gx) (g q : Nat → Nat) (I0 : Nat → Int32) (J0 : Nat → Int64) (R0 : Nat → Nat → Int32) (L0 : Nat → Nat → Int64) (hvI : InvI Wm_lo Wm_hi I0) (hvR : InvR Wm_rl R0)  (p1 : Int32) (hp1 : ((0 : Int) ≤ p1.toInt ∧ p1.toInt ≤ (22 : Int))) (hpre0 : ((I0 15).toInt ≤ 498)) : CtV (S := St) l yX12_holdsBack cX12_holdsBack 2 none (rmD 1 0 0) G [.ref (g 45), .int p1] (Wm G g q I0 J0 R0 L0) (fun u => InvI Wm_lo Wm_hi u.1 ∧ InvR Wm_rl u.2.2.1 ∧ SmF ([15] : List Nat) I0 u.1 ∧ SmF ([33] : List Nat) R0 u.2.2.1 ∧ ((u.1 15).toInt = (I0 15).toInt + 1) ∧ (u.2.2.1 33 = upd (R0 33) (Int32.toNatClampNeg (I0 15)) p1)) (fun u => Wm G g q u.1 u.2.1 u.2.2.1 u.2.2.2) := by
  refine ctV_of (own := RX12) (by decide +kernel) rfl (Nat.le_of_ble_eq_true rfl) ?_
  intro p e s m below meth c A ls F hr hlk hnm hK hP hD hA hS hl
  have hx := F.1
  have hb := F.2.1
  have hown := F.2.2.2.1
  have hl : lv_has ls 2 [(0, .ref (g 45)), (1, .int p1)] := hl
  obtain ⟨Q, hQ⟩ : ∃ Q : State → Prop, Q = MQ below (va_Qv (S := St) (fun u => InvI Wm_lo Wm_hi u.1 ∧ InvR Wm_rl u.2.2.1 ∧ SmF ([15] : List Nat) I0 u.1 ∧ SmF ([33] : List Nat) R0 u.2.2.1 ∧ ((u.1 15).toInt = (I0 15).toInt + 1) ∧ (u.2.2.1 33 = upd (R0 33) (Int32.toNatClampNeg (I0 15)) p1)) (BX G A (fun u => Wm G g q u.1 u.2.1 u.2.2.1 u.2.2.2)) A) [.ref (g 45), .int p1].toArray s 0 0 A := ⟨_, rfl⟩
  rw [show (MQ below (va_Qv (S := St) (fun u => InvI Wm_lo Wm_hi u.1 ∧ InvR Wm_rl u.2.2.1 ∧ SmF ([15] : List Nat) I0 u.1 ∧ SmF ([33] : List Nat) R0 u.2.2.1 ∧ ((u.1 15).toInt = (I0 15).toInt + 1) ∧ (u.2.2.1 33 = upd (R0 33) (Int32.toNatClampNeg (I0 15)) p1)) (BX G A (fun u => Wm G g q u.1 u.2.1 u.2.2.1 u.2.2.2)) A) [.ref (g 45), .int p1].toArray s (rmD 1 0 0).cells (rmD 1 0 0).slots A) = Q from hQ.symm]
  have hsI := smF_rf ([15] : List Nat) I0
  have hsR := smF_rf ([33] : List Nat) R0
  have hvI0 := hvI
  have w_I0_15 := rg (hvI 15 (by decide)) (0) (499) rfl rfl
  refine lv_aload_n hx hb dX12_holdsBack_0 rfl (lv_at hl 0 rfl) ?_
  refine g_get F hK hP 0 (Wm_at0 G g q I0 J0 R0 L0) clX12 52 (by decide) flX12_170 rfl dX12_holdsBack_1 ?_
  refine lv_aload_n hx hb dX12_holdsBack_4 rfl (lv_at hl 0 rfl) ?_
  refine g_get F hK hP 0 (Wm_at0 G g q I0 J0 R0 L0) clX12 53 (by decide) flX12_173 rfl dX12_holdsBack_5 ?_
  have w_I0_15 := rg (hvI0 15 (by decide)) (0) (499) rfl rfl
  refine lv_iload_n hx hb dX12_holdsBack_8 rfl (lv_at hl 1 rfl) ?_
  refine p_row (W1 := fun y => Wm G g q I0 J0 y L0) (n := 33) F hK hP hD hS 37 (Wm_at37 G g q I0 J0 R0 L0) (in_of (by omega)) dX12_holdsBack_9 (Wm_rowR33 G g q I0 J0 R0 L0) (fun R1 H locs eR1 hP hD hS => ?_)
  have hvR : InvR Wm_rl R1 := inv_upR hvR 33 eR1 (upd_in (hvR 33 (by decide)) (show ((0 : Int) ≤ p1.toInt ∧ p1.toInt ≤ (22 : Int)) from by omega))
  have hsR := smF_up hsR eR1 (by decide)
  refine lv_aload_n hx hb dX12_holdsBack_10 rfl (lv_at hl 0 rfl) ?_
  refine lv_dup hx hb dX12_holdsBack_11 rfl ?_
  refine g_get F hK hP 0 (Wm_at0 G g q I0 J0 R1 L0) clX12 53 (by decide) flX12_173 rfl dX12_holdsBack_12 ?_
  refine lv_iconst (v := 1) hx hb dX12_holdsBack_15 (by decide) ?_
  refine lv_iadd hx hb dX12_holdsBack_16 ?_
  refine lv_topi (fun x2 ex2 => ?_)
  have fx2 : x2.toInt = (I0 15).toInt + 1 := by rw [ex2]; exact t_add (by show (-2147483648 : Int) ≤ (I0 15).toInt + 1; omega) (by show (I0 15).toInt + 1 ≤ 2147483647; omega)
  refine p_fld (W1 := fun y => Wm G g q y J0 R1 L0) (n := 15) (v := x2) F hK hP hD hS 0 (Wm_at0 G g q I0 J0 R1 L0) clX12 53 (by decide) flX12_173 rfl rfl rfl (Nat.le_of_ble_eq_true rfl) dX12_holdsBack_17 (Wm_setI15 G g q I0 J0 R1 L0 _) (fun I3 H locs eI3 hP hD hS => ?_)
  have hvI : InvI Wm_lo Wm_hi I3 := inv_upI hvI 15 eI3 (show ((0 : Int) ≤ x2.toInt ∧ x2.toInt ≤ (499 : Int)) from by omega)
  have hsI := smF_up hsI eI3 (by decide)
  have hv_I3 := hvI
  have u_I3_15 : (I3 15).toInt = x2.toInt := by rw [eI3]; rfl
  rw [hQ]
  exact q_v F hr hlk (I3, J0, R1, L0) hP hD hS ⟨hvI, hvR, hsI, hsR, (show ((I3 15).toInt = (I0 15).toInt + 1) from by omega), (show (R1 33 = upd (R0 33) (Int32.toNatClampNeg (I0 15)) p1) from by first | (rw [eR1, va_up_self]; done) | (rw [eR1, va_up_self]; exact congrArg (fun z => upd (R0 33) z p1) (show Int32.toNatClampNeg (I0 15) = Int32.toNatClampNeg (I0 15) from by have := clamp_nn (x := (I0 15)) (by omega); omega)))⟩ dX12_holdsBack_20 (Nat.le_of_ble_eq_true rfl) (Nat.le_of_ble_eq_true rfl)
set_option maxHeartbeats 4000000 in
set_option maxRecDepth 100000 in
theorem s_X12_pushes (l : Launch) (G : Gx) (g q : Nat → Nat) (I0 : Nat → Int32) (J0 : Nat → Int64) (R0 : Nat → Nat → Int32) (L0 : Nat → Nat → Int64) (hvI : InvI Wm_lo Wm_hi I0) (hvR : InvR Wm_rl R0)  (p1 : Int32) (hp1 : ((0 : Int) ≤ p1.toInt ∧ p1.toInt ≤ (5 : Int))) (hpre0 : ((I0 13).toInt ≤ 8)) : CtV (S := St) l yX12_pushes cX12_pushes 2 none (rmD 1 0 0) G [.ref (g 45), .int p1] (Wm G g q I0 J0 R0 L0) (fun u => InvI Wm_lo Wm_hi u.1 ∧ InvR Wm_rl u.2.2.1 ∧ SmF ([13] : List Nat) I0 u.1 ∧ SmF ([28, 29, 30, 32] : List Nat) R0 u.2.2.1 ∧ ((u.1 13).toInt = (I0 13).toInt + 1) ∧ (u.2.2.1 28 = upd (R0 28) (Int32.toNatClampNeg (I0 13)) p1) ∧ (u.2.2.1 29 = upd (R0 29) (Int32.toNatClampNeg (I0 13)) 0) ∧ (u.2.2.1 30 = upd (R0 30) (Int32.toNatClampNeg (I0 13)) 1) ∧ (u.2.2.1 32 = upd (R0 32) (Int32.toNatClampNeg (I0 13)) (I0 15)) ∧ (u.2.1 0 = J0 0)) (fun u => Wm G g q u.1 u.2.1 u.2.2.1 u.2.2.2) := by
  refine ctV_of (own := RX12) (by decide +kernel) rfl (Nat.le_of_ble_eq_true rfl) ?_
  intro p e s m below meth c A ls F hr hlk hnm hK hP hD hA hS hl
  have hx := F.1
  have hb := F.2.1
  have hown := F.2.2.2.1
  have hl : lv_has ls 2 [(0, .ref (g 45)), (1, .int p1)] := hl
  obtain ⟨Q, hQ⟩ : ∃ Q : State → Prop, Q = MQ below (va_Qv (S := St) (fun u => InvI Wm_lo Wm_hi u.1 ∧ InvR Wm_rl u.2.2.1 ∧ SmF ([13] : List Nat) I0 u.1 ∧ SmF ([28, 29, 30, 32] : List Nat) R0 u.2.2.1 ∧ ((u.1 13).toInt = (I0 13).toInt + 1) ∧ (u.2.2.1 28 = upd (R0 28) (Int32.toNatClampNeg (I0 13)) p1) ∧ (u.2.2.1 29 = upd (R0 29) (Int32.toNatClampNeg (I0 13)) 0) ∧ (u.2.2.1 30 = upd (R0 30) (Int32.toNatClampNeg (I0 13)) 1) ∧ (u.2.2.1 32 = upd (R0 32) (Int32.toNatClampNeg (I0 13)) (I0 15)) ∧ (u.2.1 0 = J0 0)) (BX G A (fun u => Wm G g q u.1 u.2.1 u.2.2.1 u.2.2.2)) A) [.ref (g 45), .int p1].toArray s 0 0 A := ⟨_, rfl⟩
  rw [show (MQ below (va_Qv (S := St) (fun u => InvI Wm_lo Wm_hi u.1 ∧ InvR Wm_rl u.2.2.1 ∧ SmF ([13] : List Nat) I0 u.1 ∧ SmF ([28, 29, 30, 32] : List Nat) R0 u.2.2.1 ∧ ((u.1 13).toInt = (I0 13).toInt + 1) ∧ (u.2.2.1 28 = upd (R0 28) (Int32.toNatClampNeg (I0 13)) p1) ∧ (u.2.2.1 29 = upd (R0 29) (Int32.toNatClampNeg (I0 13)) 0) ∧ (u.2.2.1 30 = upd (R0 30) (Int32.toNatClampNeg (I0 13)) 1) ∧ (u.2.2.1 32 = upd (R0 32) (Int32.toNatClampNeg (I0 13)) (I0 15)) ∧ (u.2.1 0 = J0 0)) (BX G A (fun u => Wm G g q u.1 u.2.1 u.2.2.1 u.2.2.2)) A) [.ref (g 45), .int p1].toArray s (rmD 1 0 0).cells (rmD 1 0 0).slots A) = Q from hQ.symm]
  have hsI := smF_rf ([13] : List Nat) I0
  have hsR := smF_rf ([28, 29, 30, 32] : List Nat) R0
  have hvI0 := hvI
  have w_I0_13 := rg (hvI 13 (by decide)) (0) (9) rfl rfl
  refine lv_aload_n hx hb dX12_pushes_0 rfl (lv_at hl 0 rfl) ?_
  refine g_get F hK hP 0 (Wm_at0 G g q I0 J0 R0 L0) clX12 45 (by decide) flX12_149 rfl dX12_pushes_1 ?_
  refine lv_aload_n hx hb dX12_pushes_4 rfl (lv_at hl 0 rfl) ?_
  refine g_get F hK hP 0 (Wm_at0 G g q I0 J0 R0 L0) clX12 50 (by decide) flX12_164 rfl dX12_pushes_5 ?_
  have w_I0_13 := rg (hvI0 13 (by decide)) (0) (9) rfl rfl
  refine lv_iload_n hx hb dX12_pushes_8 rfl (lv_at hl 1 rfl) ?_
  refine p_row (W1 := fun y => Wm G g q I0 J0 y L0) (n := 28) F hK hP hD hS 32 (Wm_at32 G g q I0 J0 R0 L0) (in_of (by omega)) dX12_pushes_9 (Wm_rowR28 G g q I0 J0 R0 L0) (fun R1 H locs eR1 hP hD hS => ?_)
  have hvR : InvR Wm_rl R1 := inv_upR hvR 28 eR1 (upd_in (hvR 28 (by decide)) (show ((0 : Int) ≤ p1.toInt ∧ p1.toInt ≤ (5 : Int)) from by omega))
  have hsR := smF_up hsR eR1 (by decide)
  refine lv_aload_n hx hb dX12_pushes_10 rfl (lv_at hl 0 rfl) ?_
  refine g_get F hK hP 0 (Wm_at0 G g q I0 J0 R1 L0) clX12 46 (by decide) flX12_152 rfl dX12_pushes_11 ?_
  refine lv_aload_n hx hb dX12_pushes_14 rfl (lv_at hl 0 rfl) ?_
  refine g_get F hK hP 0 (Wm_at0 G g q I0 J0 R1 L0) clX12 50 (by decide) flX12_164 rfl dX12_pushes_15 ?_
  refine lv_iconst (v := 0) hx hb dX12_pushes_18 (by decide) ?_
  refine p_row (W1 := fun y => Wm G g q I0 J0 y L0) (n := 29) F hK hP hD hS 33 (Wm_at33 G g q I0 J0 R1 L0) (in_of (by omega)) dX12_pushes_19 (Wm_rowR29 G g q I0 J0 R1 L0) (fun R2 H locs eR2 hP hD hS => ?_)
  have hvR : InvR Wm_rl R2 := inv_upR hvR 29 eR2 (upd_in (hvR 29 (by decide)) (by decide))
  have hsR := smF_up hsR eR2 (by decide)
  refine lv_aload_n hx hb dX12_pushes_20 rfl (lv_at hl 0 rfl) ?_
  refine g_get F hK hP 0 (Wm_at0 G g q I0 J0 R2 L0) clX12 47 (by decide) flX12_155 rfl dX12_pushes_21 ?_
  refine lv_aload_n hx hb dX12_pushes_24 rfl (lv_at hl 0 rfl) ?_
  refine g_get F hK hP 0 (Wm_at0 G g q I0 J0 R2 L0) clX12 50 (by decide) flX12_164 rfl dX12_pushes_25 ?_
  refine lv_iconst (v := 1) hx hb dX12_pushes_28 (by decide) ?_
  refine p_zrow (W1 := fun y => Wm G g q I0 J0 y L0) (n := 30) F hK hP hD hS 34 (Wm_at34 G g q I0 J0 R2 L0) (narz (by decide)) (in_of (by omega)) dX12_pushes_29 (Wm_rowR30 G g q I0 J0 R2 L0) (fun R3 H locs eR3 hP hD hS => ?_)
  have hvR : InvR Wm_rl R3 := inv_upR hvR 30 eR3 (upd_in (hvR 30 (by decide)) (by decide))
  have hsR := smF_up hsR eR3 (by decide)
  refine lv_aload_n hx hb dX12_pushes_30 rfl (lv_at hl 0 rfl) ?_
  refine g_get F hK hP 0 (Wm_at0 G g q I0 J0 R3 L0) clX12 49 (by decide) flX12_161 rfl dX12_pushes_31 ?_
  refine lv_aload_n hx hb dX12_pushes_34 rfl (lv_at hl 0 rfl) ?_
  refine g_get F hK hP 0 (Wm_at0 G g q I0 J0 R3 L0) clX12 50 (by decide) flX12_164 rfl dX12_pushes_35 ?_
  refine lv_aload_n hx hb dX12_pushes_38 rfl (lv_at hl 0 rfl) ?_
  refine g_get F hK hP 0 (Wm_at0 G g q I0 J0 R3 L0) clX12 53 (by decide) flX12_173 rfl dX12_pushes_39 ?_
  have w_I0_15 := rg (hvI0 15 (by decide)) (0) (499) rfl rfl
  refine p_row (W1 := fun y => Wm G g q I0 J0 y L0) (n := 32) F hK hP hD hS 36 (Wm_at36 G g q I0 J0 R3 L0) (in_of (by omega)) dX12_pushes_42 (Wm_rowR32 G g q I0 J0 R3 L0) (fun R4 H locs eR4 hP hD hS => ?_)
  have hvR : InvR Wm_rl R4 := inv_upR hvR 32 eR4 (upd_in (hvR 32 (by decide)) (show ((0 : Int) ≤ (I0 15).toInt ∧ (I0 15).toInt ≤ (499 : Int)) from by omega))
  have hsR := smF_up hsR eR4 (by decide)
  refine lv_aload_n hx hb dX12_pushes_43 rfl (lv_at hl 0 rfl) ?_
  refine lv_dup hx hb dX12_pushes_44 rfl ?_
  refine g_get F hK hP 0 (Wm_at0 G g q I0 J0 R4 L0) clX12 50 (by decide) flX12_164 rfl dX12_pushes_45 ?_
  refine lv_iconst (v := 1) hx hb dX12_pushes_48 (by decide) ?_
  refine lv_iadd hx hb dX12_pushes_49 ?_
  refine lv_topi (fun x5 ex5 => ?_)
  have fx5 : x5.toInt = (I0 13).toInt + 1 := by rw [ex5]; exact t_add (by show (-2147483648 : Int) ≤ (I0 13).toInt + 1; omega) (by show (I0 13).toInt + 1 ≤ 2147483647; omega)
  refine p_fld (W1 := fun y => Wm G g q y J0 R4 L0) (n := 13) (v := x5) F hK hP hD hS 0 (Wm_at0 G g q I0 J0 R4 L0) clX12 50 (by decide) flX12_164 rfl rfl rfl (Nat.le_of_ble_eq_true rfl) dX12_pushes_50 (Wm_setI13 G g q I0 J0 R4 L0 _) (fun I6 H locs eI6 hP hD hS => ?_)
  have hvI : InvI Wm_lo Wm_hi I6 := inv_upI hvI 13 eI6 (show ((0 : Int) ≤ x5.toInt ∧ x5.toInt ≤ (9 : Int)) from by omega)
  have hsI := smF_up hsI eI6 (by decide)
  have hv_I6 := hvI
  have u_I6_13 : (I6 13).toInt = x5.toInt := by rw [eI6]; rfl
  rw [hQ]
  exact q_v F hr hlk (I6, J0, R4, L0) hP hD hS ⟨hvI, hvR, hsI, hsR, (show ((I6 13).toInt = (I0 13).toInt + 1) from by omega), (show (R4 28 = upd (R0 28) (Int32.toNatClampNeg (I0 13)) p1) from by first | (rw [up_ne (j := 28) eR4 (by decide), up_ne (j := 28) eR3 (by decide), up_ne (j := 28) eR2 (by decide), eR1, va_up_self]; done) | (rw [up_ne (j := 28) eR4 (by decide), up_ne (j := 28) eR3 (by decide), up_ne (j := 28) eR2 (by decide), eR1, va_up_self]; exact congrArg (fun z => upd (R0 28) z p1) (show Int32.toNatClampNeg (I0 13) = Int32.toNatClampNeg (I0 13) from by have := clamp_nn (x := (I0 13)) (by omega); omega))), (show (R4 29 = upd (R0 29) (Int32.toNatClampNeg (I0 13)) 0) from by first | (rw [up_ne (j := 29) eR4 (by decide), up_ne (j := 29) eR3 (by decide), eR2, va_up_self, up_ne (j := 29) eR1 (by decide)]; done) | (rw [up_ne (j := 29) eR4 (by decide), up_ne (j := 29) eR3 (by decide), eR2, va_up_self, up_ne (j := 29) eR1 (by decide)]; exact congrArg (fun z => upd (R0 29) z 0) (show Int32.toNatClampNeg (I0 13) = Int32.toNatClampNeg (I0 13) from by have := clamp_nn (x := (I0 13)) (by omega); omega))), (show (R4 30 = upd (R0 30) (Int32.toNatClampNeg (I0 13)) 1) from by first | (rw [up_ne (j := 30) eR4 (by decide), eR3, va_up_self, up_ne (j := 30) eR2 (by decide), up_ne (j := 30) eR1 (by decide)]; done) | (rw [up_ne (j := 30) eR4 (by decide), eR3, va_up_self, up_ne (j := 30) eR2 (by decide), up_ne (j := 30) eR1 (by decide)]; exact congrArg (fun z => upd (R0 30) z 1) (show Int32.toNatClampNeg (I0 13) = Int32.toNatClampNeg (I0 13) from by have := clamp_nn (x := (I0 13)) (by omega); omega))), (show (R4 32 = upd (R0 32) (Int32.toNatClampNeg (I0 13)) (I0 15)) from by first | (rw [eR4, va_up_self, up_ne (j := 32) eR3 (by decide), up_ne (j := 32) eR2 (by decide), up_ne (j := 32) eR1 (by decide)]; done) | (rw [eR4, va_up_self, up_ne (j := 32) eR3 (by decide), up_ne (j := 32) eR2 (by decide), up_ne (j := 32) eR1 (by decide)]; exact congrArg (fun z => upd (R0 32) z (I0 15)) (show Int32.toNatClampNeg (I0 13) = Int32.toNatClampNeg (I0 13) from by have := clamp_nn (x := (I0 13)) (by omega); omega))), (show (J0 0 = J0 0) from rfl)⟩ dX12_pushes_53 (Nat.le_of_ble_eq_true rfl) (Nat.le_of_ble_eq_true rfl)
