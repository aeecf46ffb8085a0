set_option maxHeartbeats 4000000 in
set_option maxRecDepth 100000 in
theorem s_X12_rule (l : Launch) (G : Gx) (g q : Nat → Nat) (I0 : Nat → Int32) (J0 : Nat → Int64) (R0 : Nat → Nat → Int32) (L0 : Nat → Nat → Int64) (hvI : InvI Wm_lo Wm_hi I0) (hvR : InvR Wm_rl R0)   (hpre0 : ((I0 3).toInt ≤ (I0 4).toInt)) (hpre1 : ((I0 4).toInt ≤ (I0 1).toInt)) (hpre2 : ((¬ (I0 2).toInt = 0) → (I0 3).toInt < (I0 4).toInt)) (hpre3 : ((I0 11).toInt ≤ (I0 3).toInt)) (hpre4 : (¬ (I0 2).toInt = 0)) : CtV (S := St) l yX12_rule cX12_rule 2 none (rmD 6 0 0) G [.ref (g 45)] (Wm G g q I0 J0 R0 L0) (fun u => InvI Wm_lo Wm_hi u.1 ∧ InvR Wm_rl u.2.2.1 ∧ SmF ([2, 3, 4, 5, 6, 7, 11, 13, 14, 15, 16] : List Nat) I0 u.1 ∧ SmF ([22, 23, 24, 25, 26, 27, 28, 29, 30, 31, 32, 33] : List Nat) R0 u.2.2.1 ∧ (((u.1 6).toInt = 0 ∧ ¬ (I0 2).toInt = 0) → (I0 3).toInt < (u.1 3).toInt) ∧ ((u.1 3).toInt ≤ (u.1 4).toInt) ∧ ((u.1 4).toInt ≤ (I0 1).toInt) ∧ ((¬ (u.1 2).toInt = 0) → (u.1 3).toInt < (u.1 4).toInt) ∧ ((¬ (I0 6).toInt = 0) → (¬ (u.1 6).toInt = 0)) ∧ ((I0 3).toInt ≤ (u.1 3).toInt) ∧ (WK I0 R0 u.1 u.2.2.1)) (fun u => Wm G g q u.1 u.2.1 u.2.2.1 u.2.2.2) := by
  refine ctV_of (own := RX12) (by decide +kernel) rfl (Nat.le_of_ble_eq_true rfl) ?_
  intro p e s m below meth c A ls F hr hlk hnm hK hP hD hA hS hl
  have hx := F.1
  have hb := F.2.1
  have hown := F.2.2.2.1
  have hl : lv_has ls 2 [(0, .ref (g 45))] := hl
  obtain ⟨Q, hQ⟩ : ∃ Q : State → Prop, Q = MQ below (va_Qv (S := St) (fun u => InvI Wm_lo Wm_hi u.1 ∧ InvR Wm_rl u.2.2.1 ∧ SmF ([2, 3, 4, 5, 6, 7, 11, 13, 14, 15, 16] : List Nat) I0 u.1 ∧ SmF ([22, 23, 24, 25, 26, 27, 28, 29, 30, 31, 32, 33] : List Nat) R0 u.2.2.1 ∧ (((u.1 6).toInt = 0 ∧ ¬ (I0 2).toInt = 0) → (I0 3).toInt < (u.1 3).toInt) ∧ ((u.1 3).toInt ≤ (u.1 4).toInt) ∧ ((u.1 4).toInt ≤ (I0 1).toInt) ∧ ((¬ (u.1 2).toInt = 0) → (u.1 3).toInt < (u.1 4).toInt) ∧ ((¬ (I0 6).toInt = 0) → (¬ (u.1 6).toInt = 0)) ∧ ((I0 3).toInt ≤ (u.1 3).toInt) ∧ (WK I0 R0 u.1 u.2.2.1)) (BX G A (fun u => Wm G g q u.1 u.2.1 u.2.2.1 u.2.2.2)) A) [.ref (g 45)].toArray s 0 0 A := ⟨_, rfl⟩
  rw [show (MQ below (va_Qv (S := St) (fun u => InvI Wm_lo Wm_hi u.1 ∧ InvR Wm_rl u.2.2.1 ∧ SmF ([2, 3, 4, 5, 6, 7, 11, 13, 14, 15, 16] : List Nat) I0 u.1 ∧ SmF ([22, 23, 24, 25, 26, 27, 28, 29, 30, 31, 32, 33] : List Nat) R0 u.2.2.1 ∧ (((u.1 6).toInt = 0 ∧ ¬ (I0 2).toInt = 0) → (I0 3).toInt < (u.1 3).toInt) ∧ ((u.1 3).toInt ≤ (u.1 4).toInt) ∧ ((u.1 4).toInt ≤ (I0 1).toInt) ∧ ((¬ (u.1 2).toInt = 0) → (u.1 3).toInt < (u.1 4).toInt) ∧ ((¬ (I0 6).toInt = 0) → (¬ (u.1 6).toInt = 0)) ∧ ((I0 3).toInt ≤ (u.1 3).toInt) ∧ (WK I0 R0 u.1 u.2.2.1)) (BX G A (fun u => Wm G g q u.1 u.2.1 u.2.2.1 u.2.2.2)) A) [.ref (g 45)].toArray s (rmD 6 0 0).cells (rmD 6 0 0).slots A) = Q from hQ.symm]
  have hsI := smF_rf ([2, 3, 4, 5, 6, 7, 11, 13, 14, 15, 16] : List Nat) I0
  have hsR := smF_rf ([22, 23, 24, 25, 26, 27, 28, 29, 30, 31, 32, 33] : List Nat) R0
  have hvI0 := hvI
  have w_I0_1 := rg (hvI 1 (by decide)) (0) (1800) rfl rfl
  have w_I0_2 := rg (hvI 2 (by decide)) (0) (3) rfl rfl
  have w_I0_3 := rg (hvI 3 (by decide)) (0) (1800) rfl rfl
  have w_I0_4 := rg (hvI 4 (by decide)) (0) (1800) rfl rfl
  have w_I0_5 := rg (hvI 5 (by decide)) (0) (9999) rfl rfl
  have w_I0_6 := rg (hvI 6 (by decide)) (0) (5) rfl rfl
  have w_I0_11 := rg (hvI 11 (by decide)) (0) (1800) rfl rfl
  have w_I0_12 := rg (hvI 12 (by decide)) (0) (1) rfl rfl
  have w_I0_13 := rg (hvI 13 (by decide)) (0) (9) rfl rfl
  have w_I0_14 := rg (hvI 14 (by decide)) (0) (8) rfl rfl
  have w_I0_15 := rg (hvI 15 (by decide)) (0) (499) rfl rfl
  have w_I0_16 := rg (hvI 16 (by decide)) (0) (1) rfl rfl
  have hb0 : (I0 12).toInt = ((Int32.toNatClampNeg (I0 12)) : Int) := (clamp_nn (x := (I0 12)) (by omega)).symm
  have hr22 : ∀ j : Nat, j ≤ 1 → (0 : Int) ≤ (R0 22 j).toInt ∧ (R0 22 j).toInt ≤ 12 := fun j hj => rg (hvR 22 (by decide) j (by show j < 2; omega)) 0 12 rfl rfl
  have hrb := hr22 (Int32.toNatClampNeg (I0 12)) (by omega)
  have lab_89 : ∀ (a1_89 : Int32) (I_89 : Nat → Int32) (J_89 : Nat → Int64) (R_89 : Nat → Nat → Int32) (L_89 : Nat → Nat → Int64) (H : Heap) (locs : List Loc) (ls : Array Slot), InvI Wm_lo Wm_hi I_89 → InvR Wm_rl R_89 → SmF ([2, 3, 4, 5, 6, 7, 11, 13, 14, 15, 16] : List Nat) I0 I_89 → SmF ([22, 23, 24, 25, 26, 27, 28, 29, 30, 31, 32, 33] : List Nat) R0 R_89 → ((0 : Int) ≤ a1_89.toInt ∧ a1_89.toInt ≤ (23 : Int)) → ((I0 4).toInt ≤ (I_89 3).toInt) → ((R_89 22 (Int32.toNatClampNeg (I0 12))).toInt ≤ 11) → ((I_89 3).toInt ≤ (I_89 4).toInt) → ((I_89 4).toInt ≤ (I0 1).toInt) → ((¬ (I_89 2).toInt = 0) → (I_89 3).toInt < (I_89 4).toInt) → ((¬ (I0 6).toInt = 0) → (¬ (I_89 6).toInt = 0)) → ((I0 3).toInt ≤ (I_89 3).toInt) → (RU89 (Int32.toNatClampNeg (I0 12)) (Int32.toNatClampNeg a1_89) I0 R0 I_89 R_89) → (a1_89.toInt = 12 * (I0 12).toInt + (R0 22 (Int32.toNatClampNeg (I0 12))).toInt) → (R_89 22 = R0 22) → (KE I0 (R0 26) I_89 (R_89 26)) → va_P G.1 vwCl (Wm G g q I_89 J_89 R_89 L_89) H → va_D A (Wm G g q I_89 J_89 R_89 L_89) → va_S A s.heap H locs → lv_has ls 2 [(0, .ref (g 45)), (1, .int a1_89)] → W p l e (rmD 6 0 0) s m [.ref (g 45)].toArray below meth c H locs 0 0 Q (F0 m 89 ls []) := by
    intro a1_89 I_89 J_89 R_89 L_89 H locs ls hvI hvR hsI hsR y0_89 z0_89 z1_89 z2_89 z3_89 z4_89 z5_89 z6_89 xl0_89 xl1_89 xl2_89 xl3_89 hP hD hS hl
    have hv_I_89 := hvI
    have w_I_89_1 := rg (hvI 1 (by decide)) (0) (1800) rfl rfl
    have v_I_89_1 : (I_89 1).toInt = (I0 1).toInt := congrArg Int32.toInt (hsI 1 rfl)
    have w_I_89_2 := rg (hvI 2 (by decide)) (0) (3) rfl rfl
    have w_I_89_3 := rg (hvI 3 (by decide)) (0) (1800) rfl rfl
    have w_I_89_4 := rg (hvI 4 (by decide)) (0) (1800) rfl rfl
    have w_I_89_5 := rg (hvI 5 (by decide)) (0) (9999) rfl rfl
    have w_I_89_6 := rg (hvI 6 (by decide)) (0) (5) rfl rfl
    have w_I_89_11 := rg (hvI 11 (by decide)) (0) (1800) rfl rfl
    have w_I_89_12 := rg (hvI 12 (by decide)) (0) (1) rfl rfl
    have v_I_89_12 : (I_89 12).toInt = (I0 12).toInt := congrArg Int32.toInt (hsI 12 rfl)
    have w_I_89_13 := rg (hvI 13 (by decide)) (0) (9) rfl rfl
    have w_I_89_14 := rg (hvI 14 (by decide)) (0) (8) rfl rfl
    have w_I_89_15 := rg (hvI 15 (by decide)) (0) (499) rfl rfl
    have w_I_89_16 := rg (hvI 16 (by decide)) (0) (1) rfl rfl
    have q22 := congrArg Int32.toInt (congrFun xl2_89 (Int32.toNatClampNeg (I0 12)))
    refine lv_aload_n hx hb dX12_rule_89 rfl (lv_at hl 0 rfl) ?_
    refine g_get F hK hP 0 (Wm_at0 G g q I_89 J_89 R_89 L_89) clX12 40 (by decide) flX12_134 rfl dX12_rule_90 ?_
    refine lv_iload_n hx hb dX12_rule_93 rfl (lv_at hl 1 rfl) ?_
    refine lv_aload_n hx hb dX12_rule_94 rfl (lv_at hl 0 rfl) ?_
    refine g_get F hK hP 0 (Wm_at0 G g q I_89 J_89 R_89 L_89) clX12 43 (by decide) flX12_143 rfl dX12_rule_95 ?_
    have w_I_89_11 := rg (hv_I_89 11 (by decide)) (0) (1800) rfl rfl
    refine p_row (W1 := fun y => Wm G g q I_89 J_89 y L_89) (n := 25) F hK hP hD hS 29 (Wm_at29 G g q I_89 J_89 R_89 L_89) (in_of (by omega)) dX12_rule_98 (Wm_rowR25 G g q I_89 J_89 R_89 L_89) (fun R1 H locs eR1 hP hD hS => ?_)
    have hvR : InvR Wm_rl R1 := inv_upR hvR 25 eR1 (upd_in (hvR 25 (by decide)) (show ((0 : Int) ≤ (I_89 11).toInt ∧ (I_89 11).toInt ≤ (1800 : Int)) from by omega))
    have hsR := smF_up hsR eR1 (by decide)
    have keR1 := ke_sm xl3_89 rfl rfl (up_ne eR1 (by decide))
    refine lv_aload_n hx hb dX12_rule_99 rfl (lv_at hl 0 rfl) ?_
    refine g_get F hK hP 0 (Wm_at0 G g q I_89 J_89 R1 L_89) clX12 8 (by decide) flX12_36 rfl dX12_rule_100 ?_
    have w_I_89_6 := rg (hv_I_89 6 (by decide)) (0) (5) rfl rfl
    refine lv_if_ne (tgt := 119) hx hb dX12_rule_103 (by decide) (fun c2 => ?_) (fun c2 => ?_)
    · have gc2 : ¬ ((I_89 6).toInt = 0) := fun q0 => c2 (Int32.toInt_inj.mp q0)
      rw [hQ]
      exact q_v F hr hlk (I_89, J_89, R1, L_89) hP hD hS ⟨hvI, hvR, hsI, hsR, (show (((I_89 6).toInt = 0 ∧ ¬ (I0 2).toInt = 0) → (I0 3).toInt < (I_89 3).toInt) from by omega), (show ((I_89 3).toInt ≤ (I_89 4).toInt) from by omega), (show ((I_89 4).toInt ≤ (I0 1).toInt) from by omega), (show ((¬ (I_89 2).toInt = 0) → (I_89 3).toInt < (I_89 4).toInt) from by omega), (show ((¬ (I0 6).toInt = 0) → (¬ (I_89 6).toInt = 0)) from by omega), (show ((I0 3).toInt ≤ (I_89 3).toInt) from by omega), (show (WK I0 R0 I_89 R1) from wf_new (x := 0) xl0_89 xl3_89 hb0 (by omega) (by omega) (by omega) (fun j hj => (hr22 j hj).2) (by have := clamp_nn (x := a1_89) (by omega); omega) eR1 rfl (by omega) (Or.inl ⟨rfl, by omega⟩))⟩ dX12_rule_119 (Nat.le_of_ble_eq_true rfl) (Nat.le_of_ble_eq_true rfl)
    · have gc2 : (I_89 6).toInt = 0 := congrArg Int32.toInt c2
      refine lv_aload_n hx hb dX12_rule_106 rfl (lv_at hl 0 rfl) ?_
      refine g_get F hK hP 0 (Wm_at0 G g q I_89 J_89 R1 L_89) clX12 37 (by decide) flX12_125 rfl dX12_rule_107 ?_
      refine lv_aload_n hx hb dX12_rule_110 rfl (lv_at hl 0 rfl) ?_
      refine g_get F hK hP 0 (Wm_at0 G g q I_89 J_89 R1 L_89) clX12 44 (by decide) flX12_146 rfl dX12_rule_111 ?_
      refine cst_i (hsI 12 rfl) ?_
      have w_I0_12 := rg (hvI0 12 (by decide)) (0) (1) rfl rfl
      refine lv_dup2_11 hx hb dX12_rule_114 rfl rfl ?_
      refine g_iald F hK hP 26 (Wm_at26 G g q I_89 J_89 R1 L_89) (in_of (by omega)) dX12_rule_115 rfl ?_
      refine lv_topi (fun x3 ex3 => ?_)
      have gx3 : x3.toInt = (R_89 22 (Int32.toNatClampNeg (I0 12))).toInt := congrArg Int32.toInt ((ex3).trans (congrFun (up_ne eR1 (by decide)) _))
      have fx3 : ((0 : Int) ≤ x3.toInt ∧ x3.toInt ≤ (12 : Int)) := by rw [ex3]; exact hvR 22 (by decide) _ (clamp_lt (n := 2) (in_of (by omega)))
      refine lv_iconst (v := 1) hx hb dX12_rule_116 (by decide) ?_
      refine lv_iadd hx hb dX12_rule_117 ?_
      refine lv_topi (fun x4 ex4 => ?_)
      have fx4 : x4.toInt = x3.toInt + 1 := by rw [ex4]; exact t_add (by show (-2147483648 : Int) ≤ x3.toInt + 1; omega) (by show x3.toInt + 1 ≤ 2147483647; omega)
      refine p_row (W1 := fun y => Wm G g q I_89 J_89 y L_89) (n := 22) F hK hP hD hS 26 (Wm_at26 G g q I_89 J_89 R1 L_89) (in_of (by omega)) dX12_rule_118 (Wm_rowR22 G g q I_89 J_89 R1 L_89) (fun R5 H locs eR5 hP hD hS => ?_)
      have hvR : InvR Wm_rl R5 := inv_upR hvR 22 eR5 (upd_in (hvR 22 (by decide)) (show ((0 : Int) ≤ x4.toInt ∧ x4.toInt ≤ (12 : Int)) from by omega))
      have hsR := smF_up hsR eR5 (by decide)
      have keR5 := ke_sm keR1 rfl rfl (up_ne eR5 (by decide))
      rw [hQ]
      exact q_v F hr hlk (I_89, J_89, R5, L_89) hP hD hS ⟨hvI, hvR, hsI, hsR, (show (((I_89 6).toInt = 0 ∧ ¬ (I0 2).toInt = 0) → (I0 3).toInt < (I_89 3).toInt) from by omega), (show ((I_89 3).toInt ≤ (I_89 4).toInt) from by omega), (show ((I_89 4).toInt ≤ (I0 1).toInt) from by omega), (show ((¬ (I_89 2).toInt = 0) → (I_89 3).toInt < (I_89 4).toInt) from by omega), (show ((¬ (I0 6).toInt = 0) → (¬ (I_89 6).toInt = 0)) from by omega), (show ((I0 3).toInt ≤ (I_89 3).toInt) from by omega), (show (WK I0 R0 I_89 R5) from wf_new (x := x4) xl0_89 xl3_89 hb0 (by omega) (by omega) (by omega) (fun j hj => (hr22 j hj).2) (by have := clamp_nn (x := a1_89) (by omega); omega) eR1 rfl (by omega) (Or.inr ⟨eR5, by omega⟩))⟩ dX12_rule_119 (Nat.le_of_ble_eq_true rfl) (Nat.le_of_ble_eq_true rfl)
  have lab_20 : ∀ (b0_20 : Int32) (I_20 : Nat → Int32) (J_20 : Nat → Int64) (R_20 : Nat → Nat → Int32) (L_20 : Nat → Nat → Int64) (H : Heap) (locs : List Loc) (ls : Array Slot), InvI Wm_lo Wm_hi I_20 → InvR Wm_rl R_20 → SmF ([2, 3, 4, 5, 6, 7, 11, 13, 14, 15, 16] : List Nat) I0 I_20 → SmF ([22, 23, 24, 25, 26, 27, 28, 29, 30, 31, 32, 33] : List Nat) R0 R_20 → ((0 : Int) ≤ b0_20.toInt ∧ b0_20.toInt ≤ (1 : Int)) → (b0_20.toInt = 0 → (R_20 22 (Int32.toNatClampNeg (I0 12))).toInt ≤ 11) → ((I_20 2).toInt = (I0 2).toInt) → ((I_20 4).toInt = (I0 4).toInt) → ((I_20 3).toInt = (I0 3).toInt) → ((I_20 3).toInt ≤ (I_20 4).toInt) → ((I_20 4).toInt ≤ (I0 1).toInt) → ((¬ (I_20 2).toInt = 0) → (I_20 3).toInt < (I_20 4).toInt) → ((¬ (I0 6).toInt = 0) → (¬ (I_20 6).toInt = 0)) → ((I0 3).toInt ≤ (I_20 3).toInt) → (I0 = I_20 ∧ J0 = J_20 ∧ R0 = R_20) → va_P G.1 vwCl (Wm G g q I_20 J_20 R_20 L_20) H → va_D A (Wm G g q I_20 J_20 R_20 L_20) → va_S A s.heap H locs → lv_has ls 2 [(0, .ref (g 45))] → W p l e (rmD 6 0 0) s m [.ref (g 45)].toArray below meth c H locs 0 0 Q (F0 m 20 ls [.int b0_20, .ref (g 45)]) := by
    intro b0_20 I_20 J_20 R_20 L_20 H locs ls hvI hvR hsI hsR y0_20 z0_20 z1_20 z2_20 z3_20 z4_20 z5_20 z6_20 z7_20 z8_20 xl0_20 hP hD hS hl
    have hv_I_20 := hvI
    have w_I_20_1 := rg (hvI 1 (by decide)) (0) (1800) rfl rfl
    have v_I_20_1 : (I_20 1).toInt = (I0 1).toInt := congrArg Int32.toInt (hsI 1 rfl)
    have w_I_20_2 := rg (hvI 2 (by decide)) (0) (3) rfl rfl
    have w_I_20_3 := rg (hvI 3 (by decide)) (0) (1800) rfl rfl
    have w_I_20_4 := rg (hvI 4 (by decide)) (0) (1800) rfl rfl
    have w_I_20_5 := rg (hvI 5 (by decide)) (0) (9999) rfl rfl
    have w_I_20_6 := rg (hvI 6 (by decide)) (0) (5) rfl rfl
    have w_I_20_11 := rg (hvI 11 (by decide)) (0) (1800) rfl rfl
    have w_I_20_12 := rg (hvI 12 (by decide)) (0) (1) rfl rfl
    have v_I_20_12 : (I_20 12).toInt = (I0 12).toInt := congrArg Int32.toInt (hsI 12 rfl)
    have w_I_20_13 := rg (hvI 13 (by decide)) (0) (9) rfl rfl
    have w_I_20_14 := rg (hvI 14 (by decide)) (0) (8) rfl rfl
    have w_I_20_15 := rg (hvI 15 (by decide)) (0) (499) rfl rfl
    have w_I_20_16 := rg (hvI 16 (by decide)) (0) (1) rfl rfl
    obtain ⟨qI, qJ, qR⟩ := xl0_20
    subst qI
    subst qJ
    subst qR
    refine wvi (As := [.int b0_20]) (rest := []) (b := (g 45)) (d := 3) F hK hP hD hS hA (s_X12_counts2 l G g q I0 J0 R0 L_20 hvI hvR  b0_20 (show ((0 : Int) ≤ b0_20.toInt ∧ b0_20.toInt ≤ (1 : Int)) from by omega) (by omega) (by omega) (by omega)) kmV_X12_counts mlX12_358 clX12 rfl 0 (Wm_at0 G g q I0 J0 R0 L_20) ⟨(Nat.le_of_ble_eq_true rfl), (Nat.le_of_ble_eq_true rfl)⟩ hl.1 rfl (Nat.le_of_ble_eq_true rfl) dX12_rule_20 (fun r6 u7 H locs hwr6 hP hD hS => ?_)
    obtain ⟨I8, J9, R10, L11⟩ := u7
    replace hP : va_P G.1 vwCl (Wm G g q I8 J9 R10 L11) H := hP
    replace hD : va_D A (Wm G g q I8 J9 R10 L11) := hD
    obtain ⟨hvI, hvR, tIr6, tRr6, F0r6, F1r6, F2r6, F3r6, F4r6, F5r6, F6r6, F7r6, F8r6⟩ := hwr6
    replace F0r6 : ((0 : Int) ≤ r6.toInt ∧ r6.toInt ≤ (1 : Int)) := F0r6
    replace F1r6 : ((r6.toInt = 1 ∧ b0_20.toInt = 0 ∧ (I8 6).toInt = 0 ∧ (I0 4).toInt ≤ (I8 3).toInt) ∨ (r6.toInt = 0 ∧ ¬ (I8 6).toInt = 0)) := F1r6
    replace F2r6 : ((I8 3).toInt ≤ (I8 4).toInt) := F2r6
    replace F3r6 : ((I8 4).toInt ≤ (I0 1).toInt) := F3r6
    replace F4r6 : ((¬ (I8 2).toInt = 0) → (I8 3).toInt < (I8 4).toInt) := F4r6
    replace F5r6 : ((¬ (I0 6).toInt = 0) → (¬ (I8 6).toInt = 0)) := F5r6
    replace F6r6 : ((I0 3).toInt ≤ (I8 3).toInt) := F6r6
    replace F7r6 : ((I8 6).toInt = 0 → TL I8 (R10 0)) := F7r6
    replace F8r6 : ((I8 6).toInt = 0 → WB I8 (J9 0)) := F8r6
    replace hvI : InvI Wm_lo Wm_hi I8 := hvI
    replace hvR : InvR Wm_rl R10 := hvR
    replace tIr6 : SmF ([2, 3, 4, 5, 6, 7] : List Nat) I0 I8 := tIr6
    replace tRr6 : SmF ([] : List Nat) R0 R10 := tRr6
    have hv_I8 := hvI
    have hsI := smF_tr hsI tIr6 (by decide)
    have hsR := smF_tr hsR tRr6 (by decide)
    have u_I8_1 : (I8 1).toInt = (I0 1).toInt := congrArg Int32.toInt (tIr6 1 rfl)
    have w_I8_2 := rg (hvI 2 (by decide)) (0) (3) rfl rfl
    have w_I8_3 := rg (hvI 3 (by decide)) (0) (1800) rfl rfl
    have w_I8_4 := rg (hvI 4 (by decide)) (0) (1800) rfl rfl
    have w_I8_5 := rg (hvI 5 (by decide)) (0) (9999) rfl rfl
    have w_I8_6 := rg (hvI 6 (by decide)) (0) (5) rfl rfl
    have u_I8_11 : (I8 11).toInt = (I0 11).toInt := congrArg Int32.toInt (tIr6 11 rfl)
    have u_I8_12 : (I8 12).toInt = (I0 12).toInt := congrArg Int32.toInt (tIr6 12 rfl)
    have u_I8_13 : (I8 13).toInt = (I0 13).toInt := congrArg Int32.toInt (tIr6 13 rfl)
    have u_I8_14 : (I8 14).toInt = (I0 14).toInt := congrArg Int32.toInt (tIr6 14 rfl)
    have u_I8_15 : (I8 15).toInt = (I0 15).toInt := congrArg Int32.toInt (tIr6 15 rfl)
    have u_I8_16 : (I8 16).toInt = (I0 16).toInt := congrArg Int32.toInt (tIr6 16 rfl)
    have nr6_0 : ((I8 3).toInt ≤ (I8 4).toInt) := by omega
    have nr6_1 : ((I8 4).toInt ≤ (I0 1).toInt) := by omega
    have nr6_2 : ((¬ (I8 2).toInt = 0) → (I8 3).toInt < (I8 4).toInt) := by omega
    have nr6_3 : ((¬ (I0 6).toInt = 0) → (¬ (I8 6).toInt = 0)) := by omega
    have nr6_4 : ((I0 3).toInt ≤ (I8 3).toInt) := by omega
    clear z4_20 z5_20 z6_20 z7_20 z8_20 F2r6 F3r6 F4r6 F5r6 F6r6
    have ker6 := ke_sm (ke_rf I0 (R0 26)) (congrArg Int32.toInt (tIr6 12 rfl)) (congrArg Int32.toInt (tIr6 11 rfl)) (tRr6 26 rfl)
    refine lv_if_ne (tgt := 27) hx hb dX12_rule_23 (by decide) (fun c12 => ?_) (fun c12 => ?_)
    · have gc12 : ¬ (r6.toInt = 0) := fun q0 => c12 (Int32.toInt_inj.mp q0)
      have hf0 : (I0 6).toInt = 0 := by omega
      refine lv_bipush (v := 12) hx hb dX12_rule_27 (by decide) ?_
      refine lv_aload_n hx hb dX12_rule_29 rfl (lv_at hl 0 rfl) ?_
      refine g_get F hK hP 0 (Wm_at0 G g q I8 J9 R10 L11) clX12 44 (by decide) flX12_146 rfl dX12_rule_30 ?_
      refine cst_i (hsI 12 rfl) ?_
      have w_I0_12 := rg (hvI0 12 (by decide)) (0) (1) rfl rfl
      refine lv_imul hx hb dX12_rule_33 ?_
      refine lv_topi (fun x13 ex13 => ?_)
      have fx13 : x13.toInt = 12 * (I0 12).toInt := by rw [ex13]; exact t_mul (by show (-2147483648 : Int) ≤ 12 * (I0 12).toInt; omega) (by show 12 * (I0 12).toInt ≤ 2147483647; omega)
      refine lv_aload_n hx hb dX12_rule_34 rfl (lv_at hl 0 rfl) ?_
      refine g_get F hK hP 0 (Wm_at0 G g q I8 J9 R10 L11) clX12 37 (by decide) flX12_125 rfl dX12_rule_35 ?_
      refine lv_aload_n hx hb dX12_rule_38 rfl (lv_at hl 0 rfl) ?_
      refine g_get F hK hP 0 (Wm_at0 G g q I8 J9 R10 L11) clX12 44 (by decide) flX12_146 rfl dX12_rule_39 ?_
      refine cst_i (hsI 12 rfl) ?_
      refine g_iald F hK hP 26 (Wm_at26 G g q I8 J9 R10 L11) (in_of (by omega)) dX12_rule_42 rfl ?_
      refine lv_topi (fun x14 ex14 => ?_)
      have gx14 : x14.toInt = (R0 22 (Int32.toNatClampNeg (I0 12))).toInt := congrArg Int32.toInt ((ex14).trans (congrFun (tRr6 22 rfl) _))
      have fx14 : ((0 : Int) ≤ x14.toInt ∧ x14.toInt ≤ (12 : Int)) := by rw [ex14]; exact hvR 22 (by decide) _ (clamp_lt (n := 2) (in_of (by omega)))
      refine lv_iadd hx hb dX12_rule_43 ?_
      refine lv_topi (fun x15 ex15 => ?_)
      have fx15 : x15.toInt = x13.toInt + x14.toInt := by rw [ex15]; exact t_add (by show (-2147483648 : Int) ≤ x13.toInt + x14.toInt; omega) (by show x13.toInt + x14.toInt ≤ 2147483647; omega)
      refine lv_istore_n (lv' := [(1, .int x15), (0, .ref (g 45))]) hx hb dX12_rule_44 rfl hl (by decide) rfl (fun ls hl => ?_)
      refine lv_aload_n hx hb dX12_rule_45 rfl (lv_at hl 1 rfl) ?_
      refine g_get F hK hP 0 (Wm_at0 G g q I8 J9 R10 L11) clX12 38 (by decide) flX12_128 rfl dX12_rule_46 ?_
      refine lv_iload_n hx hb dX12_rule_49 rfl (lv_at hl 0 rfl) ?_
      refine lv_aload_n hx hb dX12_rule_50 rfl (lv_at hl 1 rfl) ?_
      refine g_get F hK hP 0 (Wm_at0 G g q I8 J9 R10 L11) clX12 43 (by decide) flX12_143 rfl dX12_rule_51 ?_
      refine cst_i ((tIr6 11 rfl)) ?_
      have w_I0_11 := rg (hvI0 11 (by decide)) (0) (1800) rfl rfl
      refine p_row (W1 := fun y => Wm G g q I8 J9 y L11) (n := 23) F hK hP hD hS 27 (Wm_at27 G g q I8 J9 R10 L11) (in_of (by omega)) dX12_rule_54 (Wm_rowR23 G g q I8 J9 R10 L11) (fun R16 H locs eR16 hP hD hS => ?_)
      have hvR : InvR Wm_rl R16 := inv_upR hvR 23 eR16 (upd_in (hvR 23 (by decide)) (show ((0 : Int) ≤ (I0 11).toInt ∧ (I0 11).toInt ≤ (1800 : Int)) from by omega))
      have hsR := smF_up hsR eR16 (by decide)
      have keR16 := ke_sm ker6 rfl rfl (up_ne eR16 (by decide))
      refine lv_aload_n hx hb dX12_rule_55 rfl (lv_at hl 1 rfl) ?_
      refine lv_iconst (v := 0) hx hb dX12_rule_56 (by decide) ?_
      refine wvv (As := [.int 0]) (rest := []) (b := (g 45)) (d := 5) F hK hP hD hS hA (s_X12_reads l G g q I8 J9 R16 L11 hvI hvR  0 (by decide) (by omega) (by omega) (by omega) (by omega) ((1800 * (I0 12).toInt + (I0 11).toInt).toNat) (by omega) (fun h => by rw [up_ne eR16 (show 0 ≠ 23 by decide)]; exact F7r6 h) (F8r6)) kmV_X12_reads mlX12_384 clX12 rfl 0 (Wm_at0 G g q I8 J9 R16 L11) ⟨(Nat.le_of_ble_eq_true rfl), (Nat.le_of_ble_eq_true rfl)⟩ hl.1 rfl (Nat.le_of_ble_eq_true rfl) dX12_rule_57 (fun u18 H locs hwr17 hP hD hS => ?_)
      obtain ⟨I19, J20, R21, L22⟩ := u18
      replace hP : va_P G.1 vwCl (Wm G g q I19 J20 R21 L22) H := hP
      replace hD : va_D A (Wm G g q I19 J20 R21 L22) := hD
      obtain ⟨hvI, hvR, tIr17, tRr17, F0r17, F1r17, F2r17, F3r17, F4r17, F5r17, F6r17⟩ := hwr17
      replace F0r17 : ((I19 3).toInt ≤ (I19 4).toInt) := F0r17
      replace F1r17 : ((I19 4).toInt ≤ (I8 1).toInt) := F1r17
      replace F2r17 : ((¬ (I19 2).toInt = 0) → (I19 3).toInt < (I19 4).toInt) := F2r17
      replace F3r17 : ((¬ (I8 6).toInt = 0) → (¬ (I19 6).toInt = 0)) := F3r17
      replace F4r17 : ((I8 3).toInt ≤ (I19 3).toInt) := F4r17
      replace F5r17 : (EN ((1800 * (I0 12).toInt + (I0 11).toInt).toNat) I19 R21) := F5r17
      replace F6r17 : (KE I8 (R16 26) I19 (R21 26)) := F6r17
      replace hvI : InvI Wm_lo Wm_hi I19 := hvI
      replace hvR : InvR Wm_rl R21 := hvR
      replace tIr17 : SmF ([2, 3, 4, 5, 6, 7, 11, 13, 14, 15, 16] : List Nat) I8 I19 := tIr17
      replace tRr17 : SmF ([26, 27, 28, 29, 30, 31, 32, 33] : List Nat) R16 R21 := tRr17
      have hv_I19 := hvI
      have hsI := smF_tr hsI tIr17 (by decide)
      have hsR := smF_tr hsR tRr17 (by decide)
      have u_I19_1 : (I19 1).toInt = (I8 1).toInt := congrArg Int32.toInt (tIr17 1 rfl)
      have w_I19_2 := rg (hvI 2 (by decide)) (0) (3) rfl rfl
      have w_I19_3 := rg (hvI 3 (by decide)) (0) (1800) rfl rfl
      have w_I19_4 := rg (hvI 4 (by decide)) (0) (1800) rfl rfl
      have w_I19_5 := rg (hvI 5 (by decide)) (0) (9999) rfl rfl
      have w_I19_6 := rg (hvI 6 (by decide)) (0) (5) rfl rfl
      have w_I19_11 := rg (hvI 11 (by decide)) (0) (1800) rfl rfl
      have u_I19_12 : (I19 12).toInt = (I8 12).toInt := congrArg Int32.toInt (tIr17 12 rfl)
      have w_I19_13 := rg (hvI 13 (by decide)) (0) (9) rfl rfl
      have w_I19_14 := rg (hvI 14 (by decide)) (0) (8) rfl rfl
      have w_I19_15 := rg (hvI 15 (by decide)) (0) (499) rfl rfl
      have w_I19_16 := rg (hvI 16 (by decide)) (0) (1) rfl rfl
      have nr17_0 : ((I19 3).toInt ≤ (I19 4).toInt) := by omega
      have nr17_1 : ((I19 4).toInt ≤ (I0 1).toInt) := by omega
      have nr17_2 : ((¬ (I19 2).toInt = 0) → (I19 3).toInt < (I19 4).toInt) := by omega
      have nr17_3 : ((¬ (I0 6).toInt = 0) → (¬ (I19 6).toInt = 0)) := by omega
      have nr17_4 : ((I0 3).toInt ≤ (I19 3).toInt) := by omega
      have nr17_5 : ((I0 4).toInt ≤ (I19 3).toInt) := by omega
      clear nr6_0 nr6_1 nr6_2 nr6_3 nr6_4 F0r17 F1r17 F2r17 F3r17 F4r17
      have ker17 := ke_tr keR16 F6r17
      have hcr17 := en_le F5r17
      refine lv_aload_n hx hb dX12_rule_60 rfl (lv_at hl 1 rfl) ?_
      refine lv_ldc2 hx hb hown (F.2.2.2.2 _ clX12_294) dX12_rule_61 ?_
      refine wvv (As := [.long 2003330414]) (rest := []) (b := (g 45)) (d := 3) F hK hP hD hS hA (s_X12_must_2 l G g q I19 J20 R21 L22 hvI hvR  2003330414 (by omega) (by omega) (by omega)) kmV_X12_must_ mlX12_366 clX12 rfl 0 (Wm_at0 G g q I19 J20 R21 L22) ⟨(Nat.le_of_ble_eq_true rfl), (Nat.le_of_ble_eq_true rfl)⟩ hl.1 rfl (Nat.le_of_ble_eq_true rfl) dX12_rule_64 (fun u24 H locs hwr23 hP hD hS => ?_)
      obtain ⟨I25, J26, R27, L28⟩ := u24
      replace hP : va_P G.1 vwCl (Wm G g q I25 J26 R27 L28) H := hP
      replace hD : va_D A (Wm G g q I25 J26 R27 L28) := hD
      obtain ⟨hvI, hvR, tIr23, tRr23, F0r23, F1r23, F2r23, F3r23, F4r23, F5r23, F6r23, F7r23, F8r23⟩ := hwr23
      replace F0r23 : ((I25 6).toInt = 0 → (I19 3).toInt < (I25 3).toInt) := F0r23
      replace F1r23 : ((I25 6).toInt = 0 → (I19 6).toInt = 0) := F1r23
      replace F2r23 : ((I25 3).toInt ≤ (I25 4).toInt) := F2r23
      replace F3r23 : ((I25 4).toInt ≤ (I19 1).toInt) := F3r23
      replace F4r23 : ((¬ (I25 2).toInt = 0) → (I25 3).toInt < (I25 4).toInt) := F4r23
      replace F5r23 : ((¬ (I19 6).toInt = 0) → (¬ (I25 6).toInt = 0)) := F5r23
      replace F6r23 : ((I19 3).toInt ≤ (I25 3).toInt) := F6r23
      replace F7r23 : ((I25 6).toInt = 0 → TL I25 (R27 0)) := F7r23
      replace F8r23 : ((I25 6).toInt = 0 → WB I25 (J26 0)) := F8r23
      replace hvI : InvI Wm_lo Wm_hi I25 := hvI
      replace hvR : InvR Wm_rl R27 := hvR
      replace tIr23 : SmF ([2, 3, 4, 5, 6, 7] : List Nat) I19 I25 := tIr23
      replace tRr23 : SmF ([] : List Nat) R21 R27 := tRr23
      have hv_I25 := hvI
      have hsI := smF_tr hsI tIr23 (by decide)
      have hsR := smF_tr hsR tRr23 (by decide)
      have u_I25_1 : (I25 1).toInt = (I19 1).toInt := congrArg Int32.toInt (tIr23 1 rfl)
      have w_I25_2 := rg (hvI 2 (by decide)) (0) (3) rfl rfl
      have w_I25_3 := rg (hvI 3 (by decide)) (0) (1800) rfl rfl
      have w_I25_4 := rg (hvI 4 (by decide)) (0) (1800) rfl rfl
      have w_I25_5 := rg (hvI 5 (by decide)) (0) (9999) rfl rfl
      have w_I25_6 := rg (hvI 6 (by decide)) (0) (5) rfl rfl
      have u_I25_11 : (I25 11).toInt = (I19 11).toInt := congrArg Int32.toInt (tIr23 11 rfl)
      have u_I25_12 : (I25 12).toInt = (I19 12).toInt := congrArg Int32.toInt (tIr23 12 rfl)
      have u_I25_13 : (I25 13).toInt = (I19 13).toInt := congrArg Int32.toInt (tIr23 13 rfl)
      have u_I25_14 : (I25 14).toInt = (I19 14).toInt := congrArg Int32.toInt (tIr23 14 rfl)
      have u_I25_15 : (I25 15).toInt = (I19 15).toInt := congrArg Int32.toInt (tIr23 15 rfl)
      have u_I25_16 : (I25 16).toInt = (I19 16).toInt := congrArg Int32.toInt (tIr23 16 rfl)
      have nr23_0 : ((I25 3).toInt ≤ (I25 4).toInt) := by omega
      have nr23_1 : ((I25 4).toInt ≤ (I0 1).toInt) := by omega
      have nr23_2 : ((¬ (I25 2).toInt = 0) → (I25 3).toInt < (I25 4).toInt) := by omega
      have nr23_3 : ((¬ (I0 6).toInt = 0) → (¬ (I25 6).toInt = 0)) := by omega
      have nr23_4 : ((I0 3).toInt ≤ (I25 3).toInt) := by omega
      have nr23_5 : ((I0 4).toInt ≤ (I25 3).toInt) := by omega
      clear nr17_0 nr17_1 nr17_2 nr17_3 nr17_4 nr17_5 F2r23 F3r23 F4r23 F5r23 F6r23
      have ker23 := ke_sm ker17 (congrArg Int32.toInt (tIr23 12 rfl)) (congrArg Int32.toInt (tIr23 11 rfl)) (tRr23 26 rfl)
      refine lv_aload_n hx hb dX12_rule_67 rfl (lv_at hl 1 rfl) ?_
      refine g_get F hK hP 0 (Wm_at0 G g q I25 J26 R27 L28) clX12 39 (by decide) flX12_131 rfl dX12_rule_68 ?_
      refine lv_iload_n hx hb dX12_rule_71 rfl (lv_at hl 0 rfl) ?_
      refine lv_aload_n hx hb dX12_rule_72 rfl (lv_at hl 1 rfl) ?_
      refine g_get F hK hP 0 (Wm_at0 G g q I25 J26 R27 L28) clX12 43 (by decide) flX12_143 rfl dX12_rule_73 ?_
      refine cst_i ((tIr23 11 rfl)) ?_
      have w_I19_11 := rg (hv_I19 11 (by decide)) (0) (1800) rfl rfl
      refine p_row (W1 := fun y => Wm G g q I25 J26 y L28) (n := 24) F hK hP hD hS 28 (Wm_at28 G g q I25 J26 R27 L28) (in_of (by omega)) dX12_rule_76 (Wm_rowR24 G g q I25 J26 R27 L28) (fun R29 H locs eR29 hP hD hS => ?_)
      have hvR : InvR Wm_rl R29 := inv_upR hvR 24 eR29 (upd_in (hvR 24 (by decide)) (show ((0 : Int) ≤ (I19 11).toInt ∧ (I19 11).toInt ≤ (1800 : Int)) from by omega))
      have hsR := smF_up hsR eR29 (by decide)
      have keR29 := ke_sm ker23 rfl rfl (up_ne eR29 (by decide))
      refine lv_aload_n hx hb dX12_rule_77 rfl (lv_at hl 1 rfl) ?_
      refine g_get F hK hP 0 (Wm_at0 G g q I25 J26 R29 L28) clX12 8 (by decide) flX12_36 rfl dX12_rule_78 ?_
      have w_I25_6 := rg (hv_I25 6 (by decide)) (0) (5) rfl rfl
      refine lv_if_ne (tgt := 89) hx hb dX12_rule_81 (by decide) (fun c30 => ?_) (fun c30 => ?_)
      · have gc30 : ¬ ((I25 6).toInt = 0) := fun q0 => c30 (Int32.toInt_inj.mp q0)
        have t_z31 : (R29 22 (Int32.toNatClampNeg (I0 12))).toInt = (R0 22 (Int32.toNatClampNeg (I0 12))).toInt := congrArg Int32.toInt ((((((congrFun (up_ne (j := 22) eR29 (by decide)) _).trans (congrFun (tRr23 22 rfl) _)).trans (congrFun (tRr17 22 rfl) _)).trans (congrFun (up_ne (j := 22) eR16 (by decide)) _)).trans (congrFun (tRr6 22 rfl) _)))
        exact lab_89 x15 I25 J26 R29 L28 _ _ _ hvI hvR hsI hsR (show ((0 : Int) ≤ x15.toInt ∧ x15.toInt ≤ (23 : Int)) from by omega) (show ((I0 4).toInt ≤ (I25 3).toInt) from by omega) (show ((R29 22 (Int32.toNatClampNeg (I0 12))).toInt ≤ 11) from by omega) (show ((I25 3).toInt ≤ (I25 4).toInt) from by omega) (show ((I25 4).toInt ≤ (I0 1).toInt) from by omega) (show ((¬ (I25 2).toInt = 0) → (I25 3).toInt < (I25 4).toInt) from by omega) (show ((¬ (I0 6).toInt = 0) → (¬ (I25 6).toInt = 0)) from by omega) (show ((I0 3).toInt ≤ (I25 3).toInt) from by omega) (show (RU89 (Int32.toNatClampNeg (I0 12)) (Int32.toNatClampNeg x15) I0 R0 I25 R29) from ru_of (a := (1800 * (I0 12).toInt + (I0 11).toInt).toNat) (v := (I0 11)) (w := (I19 11)) (I2 := I19) (I3 := I25) (R2 := R21) (R3 := R27) (R4 := R29) (by omega) hb0 (by omega) (by omega) (by rw [tRr23 23 rfl, tRr17 23 rfl, eR16, va_up_self, tRr6 23 rfl]) (by rw [tRr23 24 rfl, tRr17 24 rfl, up_ne eR16 (show 24 ≠ 23 by decide), tRr6 24 rfl]) (by rw [tRr23 22 rfl, tRr17 22 rfl, up_ne eR16 (show 22 ≠ 23 by decide), tRr6 22 rfl]) (by rw [tRr23 25 rfl, tRr17 25 rfl, up_ne eR16 (show 25 ≠ 23 by decide), tRr6 25 rfl]) (tRr23 26 rfl) F5r17 (by omega) (by omega) (by omega) (by omega) (by omega) eR29 (Or.inl ⟨rfl, rfl, by omega⟩)) (show (x15.toInt = 12 * (I0 12).toInt + (R0 22 (Int32.toNatClampNeg (I0 12))).toInt) from (by omega)) (show (R29 22 = R0 22) from (((((up_ne (j := 22) eR29 (by decide)).trans (tRr23 22 rfl)).trans (tRr17 22 rfl)).trans (up_ne (j := 22) eR16 (by decide))).trans (tRr6 22 rfl))) (show (KE I0 (R0 26) I25 (R29 26)) from keR29) hP hD hS (lv_sub hl [1, 0] rfl)
      · have gc30 : (I25 6).toInt = 0 := congrArg Int32.toInt c30
        refine lv_aload_n hx hb dX12_rule_84 rfl (lv_at hl 1 rfl) ?_
        refine lv_iconst (v := 1) hx hb dX12_rule_85 (by decide) ?_
        refine wvv (As := [.int 1]) (rest := []) (b := (g 45)) (d := 5) F hK hP hD hS hA (s_X12_reads l G g q I25 J26 R29 L28 hvI hvR  1 (by decide) (by omega) (by omega) (by omega) (by omega) ((1800 * (I25 12).toInt + (I25 11).toInt).toNat) (by omega) (fun h => by rw [up_ne eR29 (show 0 ≠ 24 by decide)]; exact F7r23 h) (F8r23)) kmV_X12_reads mlX12_384 clX12 rfl 0 (Wm_at0 G g q I25 J26 R29 L28) ⟨(Nat.le_of_ble_eq_true rfl), (Nat.le_of_ble_eq_true rfl)⟩ hl.1 rfl (Nat.le_of_ble_eq_true rfl) dX12_rule_86 (fun u33 H locs hwr32 hP hD hS => ?_)
        obtain ⟨I34, J35, R36, L37⟩ := u33
        replace hP : va_P G.1 vwCl (Wm G g q I34 J35 R36 L37) H := hP
        replace hD : va_D A (Wm G g q I34 J35 R36 L37) := hD
        obtain ⟨hvI, hvR, tIr32, tRr32, F0r32, F1r32, F2r32, F3r32, F4r32, F5r32, F6r32⟩ := hwr32
        replace F0r32 : ((I34 3).toInt ≤ (I34 4).toInt) := F0r32
        replace F1r32 : ((I34 4).toInt ≤ (I25 1).toInt) := F1r32
        replace F2r32 : ((¬ (I34 2).toInt = 0) → (I34 3).toInt < (I34 4).toInt) := F2r32
        replace F3r32 : ((¬ (I25 6).toInt = 0) → (¬ (I34 6).toInt = 0)) := F3r32
        replace F4r32 : ((I25 3).toInt ≤ (I34 3).toInt) := F4r32
        replace F5r32 : (EN ((1800 * (I25 12).toInt + (I25 11).toInt).toNat) I34 R36) := F5r32
        replace F6r32 : (KE I25 (R29 26) I34 (R36 26)) := F6r32
        replace hvI : InvI Wm_lo Wm_hi I34 := hvI
        replace hvR : InvR Wm_rl R36 := hvR
        replace tIr32 : SmF ([2, 3, 4, 5, 6, 7, 11, 13, 14, 15, 16] : List Nat) I25 I34 := tIr32
        replace tRr32 : SmF ([26, 27, 28, 29, 30, 31, 32, 33] : List Nat) R29 R36 := tRr32
        have hv_I34 := hvI
        have hsI := smF_tr hsI tIr32 (by decide)
        have hsR := smF_tr hsR tRr32 (by decide)
        have u_I34_1 : (I34 1).toInt = (I25 1).toInt := congrArg Int32.toInt (tIr32 1 rfl)
        have w_I34_2 := rg (hvI 2 (by decide)) (0) (3) rfl rfl
        have w_I34_3 := rg (hvI 3 (by decide)) (0) (1800) rfl rfl
        have w_I34_4 := rg (hvI 4 (by decide)) (0) (1800) rfl rfl
        have w_I34_5 := rg (hvI 5 (by decide)) (0) (9999) rfl rfl
        have w_I34_6 := rg (hvI 6 (by decide)) (0) (5) rfl rfl
        have w_I34_11 := rg (hvI 11 (by decide)) (0) (1800) rfl rfl
        have u_I34_12 : (I34 12).toInt = (I25 12).toInt := congrArg Int32.toInt (tIr32 12 rfl)
        have w_I34_13 := rg (hvI 13 (by decide)) (0) (9) rfl rfl
        have w_I34_14 := rg (hvI 14 (by decide)) (0) (8) rfl rfl
        have w_I34_15 := rg (hvI 15 (by decide)) (0) (499) rfl rfl
        have w_I34_16 := rg (hvI 16 (by decide)) (0) (1) rfl rfl
        have nr32_0 : ((I34 3).toInt ≤ (I34 4).toInt) := by omega
        have nr32_1 : ((I34 4).toInt ≤ (I0 1).toInt) := by omega
        have nr32_2 : ((¬ (I34 2).toInt = 0) → (I34 3).toInt < (I34 4).toInt) := by omega
        have nr32_3 : ((¬ (I0 6).toInt = 0) → (¬ (I34 6).toInt = 0)) := by omega
        have nr32_4 : ((I0 3).toInt ≤ (I34 3).toInt) := by omega
        have nr32_5 : ((I0 4).toInt ≤ (I34 3).toInt) := by omega
        clear nr23_0 nr23_1 nr23_2 nr23_3 nr23_4 nr23_5 F0r32 F1r32 F2r32 F3r32 F4r32
        have ker32 := ke_tr keR29 F6r32
        have hcr32 := en_le F5r32
        have t_z38 : (R36 22 (Int32.toNatClampNeg (I0 12))).toInt = (R0 22 (Int32.toNatClampNeg (I0 12))).toInt := congrArg Int32.toInt (((((((congrFun (tRr32 22 rfl) _).trans (congrFun (up_ne (j := 22) eR29 (by decide)) _)).trans (congrFun (tRr23 22 rfl) _)).trans (congrFun (tRr17 22 rfl) _)).trans (congrFun (up_ne (j := 22) eR16 (by decide)) _)).trans (congrFun (tRr6 22 rfl) _)))
        exact lab_89 x15 I34 J35 R36 L37 _ _ _ hvI hvR hsI hsR (show ((0 : Int) ≤ x15.toInt ∧ x15.toInt ≤ (23 : Int)) from by omega) (show ((I0 4).toInt ≤ (I34 3).toInt) from by omega) (show ((R36 22 (Int32.toNatClampNeg (I0 12))).toInt ≤ 11) from by omega) (show ((I34 3).toInt ≤ (I34 4).toInt) from by omega) (show ((I34 4).toInt ≤ (I0 1).toInt) from by omega) (show ((¬ (I34 2).toInt = 0) → (I34 3).toInt < (I34 4).toInt) from by omega) (show ((¬ (I0 6).toInt = 0) → (¬ (I34 6).toInt = 0)) from by omega) (show ((I0 3).toInt ≤ (I34 3).toInt) from by omega) (show (RU89 (Int32.toNatClampNeg (I0 12)) (Int32.toNatClampNeg x15) I0 R0 I34 R36) from ru_of (a := (1800 * (I0 12).toInt + (I0 11).toInt).toNat) (v := (I0 11)) (w := (I19 11)) (I2 := I19) (I3 := I25) (R2 := R21) (R3 := R27) (R4 := R29) (by omega) hb0 (by omega) (by omega) (by rw [tRr23 23 rfl, tRr17 23 rfl, eR16, va_up_self, tRr6 23 rfl]) (by rw [tRr23 24 rfl, tRr17 24 rfl, up_ne eR16 (show 24 ≠ 23 by decide), tRr6 24 rfl]) (by rw [tRr23 22 rfl, tRr17 22 rfl, up_ne eR16 (show 22 ≠ 23 by decide), tRr6 22 rfl]) (by rw [tRr23 25 rfl, tRr17 25 rfl, up_ne eR16 (show 25 ≠ 23 by decide), tRr6 25 rfl]) (tRr23 26 rfl) F5r17 (by omega) (by omega) (by omega) (by omega) (by omega) eR29 (Or.inr ⟨by omega, F6r32, tRr32 22 rfl, tRr32 23 rfl, tRr32 24 rfl, tRr32 25 rfl, (1800 * (I25 12).toInt + (I25 11).toInt).toNat, by omega, F5r32⟩)) (show (x15.toInt = 12 * (I0 12).toInt + (R0 22 (Int32.toNatClampNeg (I0 12))).toInt) from (by omega)) (show (R36 22 = R0 22) from ((((((tRr32 22 rfl).trans (up_ne (j := 22) eR29 (by decide))).trans (tRr23 22 rfl)).trans (tRr17 22 rfl)).trans (up_ne (j := 22) eR16 (by decide))).trans (tRr6 22 rfl))) (show (KE I0 (R0 26) I34 (R36 26)) from ker32) hP hD hS (lv_sub hl [1, 0] rfl)
    · have gc12 : r6.toInt = 0 := congrArg Int32.toInt c12
      rw [hQ]
      exact q_v F hr hlk (I8, J9, R10, L11) hP hD hS ⟨hvI, hvR, hsI, hsR, (show (((I8 6).toInt = 0 ∧ ¬ (I0 2).toInt = 0) → (I0 3).toInt < (I8 3).toInt) from by omega), (show ((I8 3).toInt ≤ (I8 4).toInt) from by omega), (show ((I8 4).toInt ≤ (I0 1).toInt) from by omega), (show ((¬ (I8 2).toInt = 0) → (I8 3).toInt < (I8 4).toInt) from by omega), (show ((¬ (I0 6).toInt = 0) → (¬ (I8 6).toInt = 0)) from by omega), (show ((I0 3).toInt ≤ (I8 3).toInt) from by omega), (show (WK I0 R0 I8 R10) from wk_sm (wk_rf I0 R0) (congrArg Int32.toInt (tIr6 12 rfl)) (congrArg Int32.toInt (tIr6 11 rfl)) (fun h => absurd h (by omega)) (by omega) (tRr6 22 rfl) (tRr6 23 rfl) (tRr6 24 rfl) (tRr6 25 rfl) (tRr6 26 rfl))⟩ dX12_rule_26 (Nat.le_of_ble_eq_true rfl) (Nat.le_of_ble_eq_true rfl)
  have w_I0_1 := rg (hvI 1 (by decide)) (0) (1800) rfl rfl
  have w_I0_2 := rg (hvI 2 (by decide)) (0) (3) rfl rfl
  have w_I0_3 := rg (hvI 3 (by decide)) (0) (1800) rfl rfl
  have w_I0_4 := rg (hvI 4 (by decide)) (0) (1800) rfl rfl
  have w_I0_5 := rg (hvI 5 (by decide)) (0) (9999) rfl rfl
  have w_I0_6 := rg (hvI 6 (by decide)) (0) (5) rfl rfl
  have w_I0_11 := rg (hvI 11 (by decide)) (0) (1800) rfl rfl
  have w_I0_12 := rg (hvI 12 (by decide)) (0) (1) rfl rfl
  have w_I0_13 := rg (hvI 13 (by decide)) (0) (9) rfl rfl
  have w_I0_14 := rg (hvI 14 (by decide)) (0) (8) rfl rfl
  have w_I0_15 := rg (hvI 15 (by decide)) (0) (499) rfl rfl
  have w_I0_16 := rg (hvI 16 (by decide)) (0) (1) rfl rfl
  refine lv_aload_n hx hb dX12_rule_0 rfl (lv_at hl 0 rfl) ?_
  refine lv_aload_n hx hb dX12_rule_1 rfl (lv_at hl 0 rfl) ?_
  refine g_get F hK hP 0 (Wm_at0 G g q I0 J0 R0 L0) clX12 37 (by decide) flX12_125 rfl dX12_rule_2 ?_
  refine lv_aload_n hx hb dX12_rule_5 rfl (lv_at hl 0 rfl) ?_
  refine g_get F hK hP 0 (Wm_at0 G g q I0 J0 R0 L0) clX12 44 (by decide) flX12_146 rfl dX12_rule_6 ?_
  have w_I0_12 := rg (hvI0 12 (by decide)) (0) (1) rfl rfl
  refine g_iald F hK hP 26 (Wm_at26 G g q I0 J0 R0 L0) (in_of (by omega)) dX12_rule_9 rfl ?_
  refine lv_topi (fun x39 ex39 => ?_)
  have gx39 : x39.toInt = (R0 22 (Int32.toNatClampNeg (I0 12))).toInt := congrArg Int32.toInt (ex39)
  have fx39 : ((0 : Int) ≤ x39.toInt ∧ x39.toInt ≤ (12 : Int)) := by rw [ex39]; exact hvR 22 (by decide) _ (clamp_lt (n := 2) (in_of (by omega)))
  refine lv_bipush (v := 12) hx hb dX12_rule_10 (by decide) ?_
  refine lv_icmp_ne (tgt := 19) hx hb dX12_rule_12 (by decide) (fun c40 => ?_) (fun c40 => ?_)
  · have gc40 : ¬ (x39.toInt = 12) := fun q0 => c40 (Int32.toInt_inj.mp q0)
    refine lv_iconst (v := 0) hx hb dX12_rule_19 (by decide) ?_
    exact lab_20 0 I0 J0 R0 L0 _ _ _ hvI hvR hsI hsR (by decide) (show (0 = 0 → (R0 22 (Int32.toNatClampNeg (I0 12))).toInt ≤ 11) from by omega) (show ((I0 2).toInt = (I0 2).toInt) from by omega) (show ((I0 4).toInt = (I0 4).toInt) from by omega) (show ((I0 3).toInt = (I0 3).toInt) from by omega) (show ((I0 3).toInt ≤ (I0 4).toInt) from by omega) (show ((I0 4).toInt ≤ (I0 1).toInt) from by omega) (show ((¬ (I0 2).toInt = 0) → (I0 3).toInt < (I0 4).toInt) from by omega) (show ((¬ (I0 6).toInt = 0) → (¬ (I0 6).toInt = 0)) from by omega) (show ((I0 3).toInt ≤ (I0 3).toInt) from by omega) (show (I0 = I0 ∧ J0 = J0 ∧ R0 = R0) from ⟨rfl, rfl, rfl⟩) hP hD hS (lv_sub hl [0] rfl)
  · have gc40 : x39.toInt = 12 := congrArg Int32.toInt c40
    refine lv_iconst (v := 1) hx hb dX12_rule_15 (by decide) ?_
    refine lv_goto (tgt := 20) hx hb dX12_rule_16 (by decide) ?_
    exact lab_20 1 I0 J0 R0 L0 _ _ _ hvI hvR hsI hsR (by decide) (show (1 = 0 → (R0 22 (Int32.toNatClampNeg (I0 12))).toInt ≤ 11) from by omega) (show ((I0 2).toInt = (I0 2).toInt) from by omega) (show ((I0 4).toInt = (I0 4).toInt) from by omega) (show ((I0 3).toInt = (I0 3).toInt) from by omega) (show ((I0 3).toInt ≤ (I0 4).toInt) from by omega) (show ((I0 4).toInt ≤ (I0 1).toInt) from by omega) (show ((¬ (I0 2).toInt = 0) → (I0 3).toInt < (I0 4).toInt) from by omega) (show ((¬ (I0 6).toInt = 0) → (¬ (I0 6).toInt = 0)) from by omega) (show ((I0 3).toInt ≤ (I0 3).toInt) from by omega) (show (I0 = I0 ∧ J0 = J0 ∧ R0 = R0) from ⟨rfl, rfl, rfl⟩) hP hD hS (lv_sub hl [0] rfl)
