set_option maxHeartbeats 4000000 in
set_option maxRecDepth 100000 in
theorem s_X12_person (l : Launch) (G : Gx) (g q : Nat → Nat) (I0 : Nat → Int32) (J0 : Nat → Int64) (R0 : Nat → Nat → Int32) (L0 : Nat → Nat → Int64) (hvI : InvI Wm_lo Wm_hi I0) (hvR : InvR Wm_rl R0)   (hpre0 : ((I0 3).toInt ≤ (I0 4).toInt)) (hpre1 : ((I0 4).toInt ≤ (I0 1).toInt)) (hpre2 : ((¬ (I0 2).toInt = 0) → (I0 3).toInt < (I0 4).toInt)) : CtV (S := St) l yX12_person cX12_person 3 none (rmD 4 0 0) G [.ref (g 45)] (Wm G g q I0 J0 R0 L0) (fun u => InvI Wm_lo Wm_hi u.1 ∧ InvR Wm_rl u.2.2.1 ∧ SmF ([2, 3, 4, 5, 6, 7] : List Nat) I0 u.1 ∧ SmF ([7, 8, 9, 10, 11, 12, 13, 14] : List Nat) R0 u.2.2.1 ∧ (((u.1 6).toInt = 0 ∧ ¬ (I0 2).toInt = 0) → (I0 3).toInt < (u.1 3).toInt) ∧ ((u.1 3).toInt ≤ (u.1 4).toInt) ∧ ((u.1 4).toInt ≤ (I0 1).toInt) ∧ ((¬ (u.1 2).toInt = 0) → (u.1 3).toInt < (u.1 4).toInt) ∧ ((¬ (I0 6).toInt = 0) → (¬ (u.1 6).toInt = 0)) ∧ ((I0 3).toInt ≤ (u.1 3).toInt)) (fun u => Wm G g q u.1 u.2.1 u.2.2.1 u.2.2.2) := by
  refine ctV_of (own := RX12) (by decide +kernel) rfl (Nat.le_of_ble_eq_true rfl) ?_
  intro p e s m below meth c A ls F hr hlk hnm hK hP hD hA hS hl
  have hx := F.1
  have hb := F.2.1
  have hown := F.2.2.2.1
  have hl : lv_has ls 3 [(0, .ref (g 45))] := hl
  obtain ⟨Q, hQ⟩ : ∃ Q : State → Prop, Q = MQ below (va_Qv (S := St) (fun u => InvI Wm_lo Wm_hi u.1 ∧ InvR Wm_rl u.2.2.1 ∧ SmF ([2, 3, 4, 5, 6, 7] : List Nat) I0 u.1 ∧ SmF ([7, 8, 9, 10, 11, 12, 13, 14] : List Nat) R0 u.2.2.1 ∧ (((u.1 6).toInt = 0 ∧ ¬ (I0 2).toInt = 0) → (I0 3).toInt < (u.1 3).toInt) ∧ ((u.1 3).toInt ≤ (u.1 4).toInt) ∧ ((u.1 4).toInt ≤ (I0 1).toInt) ∧ ((¬ (u.1 2).toInt = 0) → (u.1 3).toInt < (u.1 4).toInt) ∧ ((¬ (I0 6).toInt = 0) → (¬ (u.1 6).toInt = 0)) ∧ ((I0 3).toInt ≤ (u.1 3).toInt)) (BX G A (fun u => Wm G g q u.1 u.2.1 u.2.2.1 u.2.2.2)) A) [.ref (g 45)].toArray s 0 0 A := ⟨_, rfl⟩
  rw [show (MQ below (va_Qv (S := St) (fun u => InvI Wm_lo Wm_hi u.1 ∧ InvR Wm_rl u.2.2.1 ∧ SmF ([2, 3, 4, 5, 6, 7] : List Nat) I0 u.1 ∧ SmF ([7, 8, 9, 10, 11, 12, 13, 14] : List Nat) R0 u.2.2.1 ∧ (((u.1 6).toInt = 0 ∧ ¬ (I0 2).toInt = 0) → (I0 3).toInt < (u.1 3).toInt) ∧ ((u.1 3).toInt ≤ (u.1 4).toInt) ∧ ((u.1 4).toInt ≤ (I0 1).toInt) ∧ ((¬ (u.1 2).toInt = 0) → (u.1 3).toInt < (u.1 4).toInt) ∧ ((¬ (I0 6).toInt = 0) → (¬ (u.1 6).toInt = 0)) ∧ ((I0 3).toInt ≤ (u.1 3).toInt)) (BX G A (fun u => Wm G g q u.1 u.2.1 u.2.2.1 u.2.2.2)) A) [.ref (g 45)].toArray s (rmD 4 0 0).cells (rmD 4 0 0).slots A) = Q from hQ.symm]
  have hsI := smF_rf ([2, 3, 4, 5, 6, 7] : List Nat) I0
  have hsR := smF_rf ([7, 8, 9, 10, 11, 12, 13, 14] : List Nat) R0
  have hvI0 := hvI
  have lab_101 : ∀ (k_101 : Nat) (a1_101 : Int32) (a2_101 : Int32) (I_101 : Nat → Int32) (J_101 : Nat → Int64) (R_101 : Nat → Nat → Int32) (L_101 : Nat → Nat → Int64) (H : Heap) (locs : List Loc) (ls : Array Slot), ((5 - a2_101.toInt) < (k_101 : Int)) → InvI Wm_lo Wm_hi I_101 → InvR Wm_rl R_101 → SmF ([2, 3, 4, 5, 6, 7] : List Nat) I0 I_101 → SmF ([7, 8, 9, 10, 11, 12, 13, 14] : List Nat) R0 R_101 → ((0 : Int) ≤ a1_101.toInt ∧ a1_101.toInt ≤ (23 : Int)) → ((0 : Int) ≤ a2_101.toInt ∧ a2_101.toInt ≤ (5 : Int)) → ((I0 4).toInt ≤ (I_101 3).toInt) → ((R_101 7 (Int32.toNatClampNeg (I0 12))).toInt ≤ 11) → ((I_101 3).toInt ≤ (I_101 4).toInt) → ((I_101 4).toInt ≤ (I0 1).toInt) → ((¬ (I_101 2).toInt = 0) → (I_101 3).toInt < (I_101 4).toInt) → ((¬ (I0 6).toInt = 0) → (¬ (I_101 6).toInt = 0)) → ((I0 3).toInt ≤ (I_101 3).toInt) → va_P G.1 vwCl (Wm G g q I_101 J_101 R_101 L_101) H → va_D A (Wm G g q I_101 J_101 R_101 L_101) → va_S A s.heap H locs → lv_has ls 3 [(0, .ref (g 45)), (1, .int a1_101), (2, .int a2_101)] → W p l e (rmD 4 0 0) s m [.ref (g 45)].toArray below meth c H locs 0 0 Q (F0 m 101 ls []) := by
    intro k_101
    induction k_101 with
    | zero =>
      intro a1_101 a2_101 I_101 J_101 R_101 L_101 H locs ls hm hvI hvR hsI hsR y0_101 y1_101 z0_101 z1_101 z2_101 z3_101 z4_101 z5_101 z6_101 hP hD hS hl
      have hv_I_101 := hvI
      have w_I_101_1 := rg (hvI 1 (by decide)) (0) (1800) rfl rfl
      have v_I_101_1 : (I_101 1).toInt = (I0 1).toInt := congrArg Int32.toInt (hsI 1 rfl)
      have w_I_101_2 := rg (hvI 2 (by decide)) (0) (3) rfl rfl
      have w_I_101_3 := rg (hvI 3 (by decide)) (0) (1800) rfl rfl
      have w_I_101_4 := rg (hvI 4 (by decide)) (0) (1800) rfl rfl
      have w_I_101_6 := rg (hvI 6 (by decide)) (0) (5) rfl rfl
      have w_I_101_12 := rg (hvI 12 (by decide)) (0) (1) rfl rfl
      have v_I_101_12 : (I_101 12).toInt = (I0 12).toInt := congrArg Int32.toInt (hsI 12 rfl)
      exact absurd hm (by omega)
    | succ k_101 ih_101 =>
      intro a1_101 a2_101 I_101 J_101 R_101 L_101 H locs ls hm hvI hvR hsI hsR y0_101 y1_101 z0_101 z1_101 z2_101 z3_101 z4_101 z5_101 z6_101 hP hD hS hl
      have hv_I_101 := hvI
      have w_I_101_1 := rg (hvI 1 (by decide)) (0) (1800) rfl rfl
      have v_I_101_1 : (I_101 1).toInt = (I0 1).toInt := congrArg Int32.toInt (hsI 1 rfl)
      have w_I_101_2 := rg (hvI 2 (by decide)) (0) (3) rfl rfl
      have w_I_101_3 := rg (hvI 3 (by decide)) (0) (1800) rfl rfl
      have w_I_101_4 := rg (hvI 4 (by decide)) (0) (1800) rfl rfl
      have w_I_101_6 := rg (hvI 6 (by decide)) (0) (5) rfl rfl
      have w_I_101_12 := rg (hvI 12 (by decide)) (0) (1) rfl rfl
      have v_I_101_12 : (I_101 12).toInt = (I0 12).toInt := congrArg Int32.toInt (hsI 12 rfl)
      refine lv_iload_n hx hb dX12_person_101 rfl (lv_at hl 2 rfl) ?_
      refine lv_iconst (v := 5) hx hb dX12_person_102 (by decide) ?_
      refine lv_icmp_ge (tgt := 123) hx hb dX12_person_103 (by decide) (fun c1 => ?_) (fun c1 => ?_)
      · have gc1 : 5 ≤ a2_101.toInt := (tle _ _).mp c1
        refine lv_aload_n hx hb dX12_person_123 rfl (lv_at hl 0 rfl) ?_
        refine g_get F hK hP 0 (Wm_at0 G g q I_101 J_101 R_101 L_101) clX12 27 (by decide) flX12_95 rfl dX12_person_124 ?_
        refine lv_iload_n hx hb dX12_person_127 rfl (lv_at hl 1 rfl) ?_
        refine lv_bipush (v := 100) hx hb dX12_person_128 (by decide) ?_
        refine p_row (W1 := fun y => Wm G g q I_101 J_101 y L_101) (n := 12) F hK hP hD hS 16 (Wm_at16 G g q I_101 J_101 R_101 L_101) (in_of (by omega)) dX12_person_130 (Wm_rowR12 G g q I_101 J_101 R_101 L_101) (fun R2 H locs eR2 hP hD hS => ?_)
        have hvR : InvR Wm_rl R2 := inv_upR hvR 12 eR2 (upd_in (hvR 12 (by decide)) (full _))
        have hsR := smF_up hsR eR2 (by decide)
        refine lv_aload_n hx hb dX12_person_131 rfl (lv_at hl 0 rfl) ?_
        refine g_get F hK hP 0 (Wm_at0 G g q I_101 J_101 R2 L_101) clX12 28 (by decide) flX12_98 rfl dX12_person_132 ?_
        refine lv_iload_n hx hb dX12_person_135 rfl (lv_at hl 1 rfl) ?_
        refine lv_iconst (v := (-1)) hx hb dX12_person_136 (by decide) ?_
        refine p_row (W1 := fun y => Wm G g q I_101 J_101 y L_101) (n := 13) F hK hP hD hS 17 (Wm_at17 G g q I_101 J_101 R2 L_101) (in_of (by omega)) dX12_person_137 (Wm_rowR13 G g q I_101 J_101 R2 L_101) (fun R3 H locs eR3 hP hD hS => ?_)
        have hvR : InvR Wm_rl R3 := inv_upR hvR 13 eR3 (upd_in (hvR 13 (by decide)) (by decide))
        have hsR := smF_up hsR eR3 (by decide)
        refine lv_aload_n hx hb dX12_person_138 rfl (lv_at hl 0 rfl) ?_
        refine g_get F hK hP 0 (Wm_at0 G g q I_101 J_101 R3 L_101) clX12 29 (by decide) flX12_101 rfl dX12_person_139 ?_
        refine lv_iload_n hx hb dX12_person_142 rfl (lv_at hl 1 rfl) ?_
        refine lv_iconst (v := 0) hx hb dX12_person_143 (by decide) ?_
        refine p_row (W1 := fun y => Wm G g q I_101 J_101 y L_101) (n := 14) F hK hP hD hS 18 (Wm_at18 G g q I_101 J_101 R3 L_101) (in_of (by omega)) dX12_person_144 (Wm_rowR14 G g q I_101 J_101 R3 L_101) (fun R4 H locs eR4 hP hD hS => ?_)
        have hvR : InvR Wm_rl R4 := inv_upR hvR 14 eR4 (upd_in (hvR 14 (by decide)) (full _))
        have hsR := smF_up hsR eR4 (by decide)
        refine lv_aload_n hx hb dX12_person_145 rfl (lv_at hl 0 rfl) ?_
        refine g_get F hK hP 0 (Wm_at0 G g q I_101 J_101 R4 L_101) clX12 8 (by decide) flX12_36 rfl dX12_person_146 ?_
        have w_I_101_6 := rg (hv_I_101 6 (by decide)) (0) (5) rfl rfl
        refine lv_if_ne (tgt := 165) hx hb dX12_person_149 (by decide) (fun c5 => ?_) (fun c5 => ?_)
        · have gc5 : ¬ ((I_101 6).toInt = 0) := fun q0 => c5 (Int32.toInt_inj.mp q0)
          rw [hQ]
          exact q_v F hr hlk (I_101, J_101, R4, L_101) hP hD hS ⟨hvI, hvR, hsI, hsR, (show (((I_101 6).toInt = 0 ∧ ¬ (I0 2).toInt = 0) → (I0 3).toInt < (I_101 3).toInt) from by omega), (show ((I_101 3).toInt ≤ (I_101 4).toInt) from by omega), (show ((I_101 4).toInt ≤ (I0 1).toInt) from by omega), (show ((¬ (I_101 2).toInt = 0) → (I_101 3).toInt < (I_101 4).toInt) from by omega), (show ((¬ (I0 6).toInt = 0) → (¬ (I_101 6).toInt = 0)) from by omega), (show ((I0 3).toInt ≤ (I_101 3).toInt) from by omega)⟩ dX12_person_165 (Nat.le_of_ble_eq_true rfl) (Nat.le_of_ble_eq_true rfl)
        · have gc5 : (I_101 6).toInt = 0 := congrArg Int32.toInt c5
          refine lv_aload_n hx hb dX12_person_152 rfl (lv_at hl 0 rfl) ?_
          refine g_get F hK hP 0 (Wm_at0 G g q I_101 J_101 R4 L_101) clX12 21 (by decide) flX12_77 rfl dX12_person_153 ?_
          refine lv_aload_n hx hb dX12_person_156 rfl (lv_at hl 0 rfl) ?_
          refine g_get F hK hP 0 (Wm_at0 G g q I_101 J_101 R4 L_101) clX12 44 (by decide) flX12_146 rfl dX12_person_157 ?_
          refine cst_i (hsI 12 rfl) ?_
          have w_I0_12 := rg (hvI0 12 (by decide)) (0) (1) rfl rfl
          refine lv_dup2_11 hx hb dX12_person_160 rfl rfl ?_
          refine g_iald F hK hP 10 (Wm_at10 G g q I_101 J_101 R4 L_101) (in_of (by omega)) dX12_person_161 rfl ?_
          refine lv_topi (fun x6 ex6 => ?_)
          have gx6 : x6.toInt = (R_101 7 (Int32.toNatClampNeg (I0 12))).toInt := congrArg Int32.toInt ((((ex6).trans (congrFun (up_ne eR4 (by decide)) _)).trans (congrFun (up_ne eR3 (by decide)) _)).trans (congrFun (up_ne eR2 (by decide)) _))
          have fx6 : ((0 : Int) ≤ x6.toInt ∧ x6.toInt ≤ (12 : Int)) := by rw [ex6]; exact hvR 7 (by decide) _ (clamp_lt (n := 2) (in_of (by omega)))
          refine lv_iconst (v := 1) hx hb dX12_person_162 (by decide) ?_
          refine lv_iadd hx hb dX12_person_163 ?_
          refine lv_topi (fun x7 ex7 => ?_)
          have fx7 : x7.toInt = x6.toInt + 1 := by rw [ex7]; exact t_add (by show (-2147483648 : Int) ≤ x6.toInt + 1; omega) (by show x6.toInt + 1 ≤ 2147483647; omega)
          refine p_row (W1 := fun y => Wm G g q I_101 J_101 y L_101) (n := 7) F hK hP hD hS 10 (Wm_at10 G g q I_101 J_101 R4 L_101) (in_of (by omega)) dX12_person_164 (Wm_rowR7 G g q I_101 J_101 R4 L_101) (fun R8 H locs eR8 hP hD hS => ?_)
          have hvR : InvR Wm_rl R8 := inv_upR hvR 7 eR8 (upd_in (hvR 7 (by decide)) (show ((0 : Int) ≤ x7.toInt ∧ x7.toInt ≤ (12 : Int)) from by omega))
          have hsR := smF_up hsR eR8 (by decide)
          rw [hQ]
          exact q_v F hr hlk (I_101, J_101, R8, L_101) hP hD hS ⟨hvI, hvR, hsI, hsR, (show (((I_101 6).toInt = 0 ∧ ¬ (I0 2).toInt = 0) → (I0 3).toInt < (I_101 3).toInt) from by omega), (show ((I_101 3).toInt ≤ (I_101 4).toInt) from by omega), (show ((I_101 4).toInt ≤ (I0 1).toInt) from by omega), (show ((¬ (I_101 2).toInt = 0) → (I_101 3).toInt < (I_101 4).toInt) from by omega), (show ((¬ (I0 6).toInt = 0) → (¬ (I_101 6).toInt = 0)) from by omega), (show ((I0 3).toInt ≤ (I_101 3).toInt) from by omega)⟩ dX12_person_165 (Nat.le_of_ble_eq_true rfl) (Nat.le_of_ble_eq_true rfl)
      · have gc1 : ¬ (5 ≤ a2_101.toInt) := fun q0 => c1 ((tle _ _).mpr q0)
        refine lv_aload_n hx hb dX12_person_106 rfl (lv_at hl 0 rfl) ?_
        refine g_get F hK hP 0 (Wm_at0 G g q I_101 J_101 R_101 L_101) clX12 26 (by decide) flX12_92 rfl dX12_person_107 ?_
        refine lv_iconst (v := 5) hx hb dX12_person_110 (by decide) ?_
        refine lv_iload_n hx hb dX12_person_111 rfl (lv_at hl 1 rfl) ?_
        refine lv_imul hx hb dX12_person_112 ?_
        refine lv_topi (fun x9 ex9 => ?_)
        have fx9 : x9.toInt = 5 * a1_101.toInt := by rw [ex9]; exact t_mul (by show (-2147483648 : Int) ≤ 5 * a1_101.toInt; omega) (by show 5 * a1_101.toInt ≤ 2147483647; omega)
        refine lv_iload_n hx hb dX12_person_113 rfl (lv_at hl 2 rfl) ?_
        refine lv_iadd hx hb dX12_person_114 ?_
        refine lv_topi (fun x10 ex10 => ?_)
        have fx10 : x10.toInt = x9.toInt + a2_101.toInt := by rw [ex10]; exact t_add (by show (-2147483648 : Int) ≤ x9.toInt + a2_101.toInt; omega) (by show x9.toInt + a2_101.toInt ≤ 2147483647; omega)
        refine lv_iconst (v := 0) hx hb dX12_person_115 (by decide) ?_
        refine p_row (W1 := fun y => Wm G g q I_101 J_101 y L_101) (n := 11) F hK hP hD hS 15 (Wm_at15 G g q I_101 J_101 R_101 L_101) (in_of (by omega)) dX12_person_116 (Wm_rowR11 G g q I_101 J_101 R_101 L_101) (fun R11 H locs eR11 hP hD hS => ?_)
        have hvR : InvR Wm_rl R11 := inv_upR hvR 11 eR11 (upd_in (hvR 11 (by decide)) (full _))
        have hsR := smF_up hsR eR11 (by decide)
        obtain ⟨x12, ex12⟩ : ∃ y : Int32, y = a2_101 + 1 := ⟨_, rfl⟩
        have fx12 : x12.toInt = a2_101.toInt + (1 : Int) := by rw [ex12]; exact t_add (by show (-2147483648 : Int) ≤ a2_101.toInt + (1 : Int); omega) (by show a2_101.toInt + (1 : Int) ≤ 2147483647; omega)
        refine lv_iinc (v := x12) (lv' := [(2, .int x12), (0, .ref (g 45)), (1, .int a1_101)]) hx hb dX12_person_117 hl (k := 2) rfl (by rw [ex12]; rfl) (by decide) rfl (fun ls hl => ?_)
        refine lv_goto (tgt := 101) hx hb dX12_person_120 (by decide) ?_
        have t_z13 : (R11 7 (Int32.toNatClampNeg (I0 12))).toInt = (R_101 7 (Int32.toNatClampNeg (I0 12))).toInt := congrArg Int32.toInt ((congrFun (up_ne (j := 7) eR11 (by decide)) _))
        exact ih_101 a1_101 x12 I_101 J_101 R11 L_101 _ _ _ (show (5 - x12.toInt) < (k_101 : Int) from by omega) hvI hvR hsI hsR (show ((0 : Int) ≤ a1_101.toInt ∧ a1_101.toInt ≤ (23 : Int)) from by omega) (show ((0 : Int) ≤ x12.toInt ∧ x12.toInt ≤ (5 : Int)) from by omega) (show ((I0 4).toInt ≤ (I_101 3).toInt) from by omega) (show ((R11 7 (Int32.toNatClampNeg (I0 12))).toInt ≤ 11) from by omega) (show ((I_101 3).toInt ≤ (I_101 4).toInt) from by omega) (show ((I_101 4).toInt ≤ (I0 1).toInt) from by omega) (show ((¬ (I_101 2).toInt = 0) → (I_101 3).toInt < (I_101 4).toInt) from by omega) (show ((¬ (I0 6).toInt = 0) → (¬ (I_101 6).toInt = 0)) from by omega) (show ((I0 3).toInt ≤ (I_101 3).toInt) from by omega) hP hD hS (lv_sub hl [1, 2, 0] rfl)
  have lab_20 : ∀ (b0_20 : Int32) (I_20 : Nat → Int32) (J_20 : Nat → Int64) (R_20 : Nat → Nat → Int32) (L_20 : Nat → Nat → Int64) (H : Heap) (locs : List Loc) (ls : Array Slot), InvI Wm_lo Wm_hi I_20 → InvR Wm_rl R_20 → SmF ([2, 3, 4, 5, 6, 7] : List Nat) I0 I_20 → SmF ([7, 8, 9, 10, 11, 12, 13, 14] : List Nat) R0 R_20 → ((0 : Int) ≤ b0_20.toInt ∧ b0_20.toInt ≤ (1 : Int)) → (b0_20.toInt = 0 → (R_20 7 (Int32.toNatClampNeg (I0 12))).toInt ≤ 11) → ((I_20 2).toInt = (I0 2).toInt) → ((I_20 4).toInt = (I0 4).toInt) → ((I_20 3).toInt = (I0 3).toInt) → ((I_20 3).toInt ≤ (I_20 4).toInt) → ((I_20 4).toInt ≤ (I0 1).toInt) → ((¬ (I_20 2).toInt = 0) → (I_20 3).toInt < (I_20 4).toInt) → ((¬ (I0 6).toInt = 0) → (¬ (I_20 6).toInt = 0)) → ((I0 3).toInt ≤ (I_20 3).toInt) → va_P G.1 vwCl (Wm G g q I_20 J_20 R_20 L_20) H → va_D A (Wm G g q I_20 J_20 R_20 L_20) → va_S A s.heap H locs → lv_has ls 3 [(0, .ref (g 45))] → W p l e (rmD 4 0 0) s m [.ref (g 45)].toArray below meth c H locs 0 0 Q (F0 m 20 ls [.int b0_20, .ref (g 45)]) := by
    intro b0_20 I_20 J_20 R_20 L_20 H locs ls hvI hvR hsI hsR y0_20 z0_20 z1_20 z2_20 z3_20 z4_20 z5_20 z6_20 z7_20 z8_20 hP hD hS hl
    have hv_I_20 := hvI
    have w_I_20_1 := rg (hvI 1 (by decide)) (0) (1800) rfl rfl
    have v_I_20_1 : (I_20 1).toInt = (I0 1).toInt := congrArg Int32.toInt (hsI 1 rfl)
    have w_I_20_2 := rg (hvI 2 (by decide)) (0) (3) rfl rfl
    have w_I_20_3 := rg (hvI 3 (by decide)) (0) (1800) rfl rfl
    have w_I_20_4 := rg (hvI 4 (by decide)) (0) (1800) rfl rfl
    have w_I_20_6 := rg (hvI 6 (by decide)) (0) (5) rfl rfl
    have w_I_20_12 := rg (hvI 12 (by decide)) (0) (1) rfl rfl
    have v_I_20_12 : (I_20 12).toInt = (I0 12).toInt := congrArg Int32.toInt (hsI 12 rfl)
    refine wvi (As := [.int b0_20]) (rest := []) (b := (g 45)) (d := 3) F hK hP hD hS hA (s_X12_counts l G g q I_20 J_20 R_20 L_20 hvI hvR  b0_20 (show ((0 : Int) ≤ b0_20.toInt ∧ b0_20.toInt ≤ (1 : Int)) from by omega) (by omega) (by omega) (by omega)) kmV_X12_counts mlX12_358 clX12 rfl 0 (Wm_at0 G g q I_20 J_20 R_20 L_20) ⟨(Nat.le_of_ble_eq_true rfl), (Nat.le_of_ble_eq_true rfl)⟩ hl.1 rfl (Nat.le_of_ble_eq_true rfl) dX12_person_20 (fun r14 u15 H locs hwr14 hP hD hS => ?_)
    obtain ⟨I16, J17, R18, L19⟩ := u15
    replace hP : va_P G.1 vwCl (Wm G g q I16 J17 R18 L19) H := hP
    replace hD : va_D A (Wm G g q I16 J17 R18 L19) := hD
    obtain ⟨hvI, hvR, tIr14, tRr14, F0r14, F1r14, F2r14, F3r14, F4r14, F5r14, F6r14⟩ := hwr14
    replace F0r14 : ((0 : Int) ≤ r14.toInt ∧ r14.toInt ≤ (1 : Int)) := F0r14
    replace F1r14 : ((r14.toInt = 1 ∧ b0_20.toInt = 0 ∧ (I16 6).toInt = 0 ∧ (I_20 4).toInt ≤ (I16 3).toInt) ∨ (r14.toInt = 0 ∧ ¬ (I16 6).toInt = 0)) := F1r14
    replace F2r14 : ((I16 3).toInt ≤ (I16 4).toInt) := F2r14
    replace F3r14 : ((I16 4).toInt ≤ (I_20 1).toInt) := F3r14
    replace F4r14 : ((¬ (I16 2).toInt = 0) → (I16 3).toInt < (I16 4).toInt) := F4r14
    replace F5r14 : ((¬ (I_20 6).toInt = 0) → (¬ (I16 6).toInt = 0)) := F5r14
    replace F6r14 : ((I_20 3).toInt ≤ (I16 3).toInt) := F6r14
    replace hvI : InvI Wm_lo Wm_hi I16 := hvI
    replace hvR : InvR Wm_rl R18 := hvR
    replace tIr14 : SmF ([2, 3, 4, 5, 6, 7] : List Nat) I_20 I16 := tIr14
    replace tRr14 : SmF ([] : List Nat) R_20 R18 := tRr14
    have hv_I16 := hvI
    have hsI := smF_tr hsI tIr14 (by decide)
    have hsR := smF_tr hsR tRr14 (by decide)
    have u_I16_1 : (I16 1).toInt = (I_20 1).toInt := congrArg Int32.toInt (tIr14 1 rfl)
    have w_I16_2 := rg (hvI 2 (by decide)) (0) (3) rfl rfl
    have w_I16_3 := rg (hvI 3 (by decide)) (0) (1800) rfl rfl
    have w_I16_4 := rg (hvI 4 (by decide)) (0) (1800) rfl rfl
    have w_I16_6 := rg (hvI 6 (by decide)) (0) (5) rfl rfl
    have u_I16_12 : (I16 12).toInt = (I_20 12).toInt := congrArg Int32.toInt (tIr14 12 rfl)
    have nr14_0 : ((I16 3).toInt ≤ (I16 4).toInt) := by omega
    have nr14_1 : ((I16 4).toInt ≤ (I0 1).toInt) := by omega
    have nr14_2 : ((¬ (I16 2).toInt = 0) → (I16 3).toInt < (I16 4).toInt) := by omega
    have nr14_3 : ((¬ (I0 6).toInt = 0) → (¬ (I16 6).toInt = 0)) := by omega
    have nr14_4 : ((I0 3).toInt ≤ (I16 3).toInt) := by omega
    clear z4_20 z5_20 z6_20 z7_20 z8_20 F2r14 F3r14 F4r14 F5r14 F6r14
    refine lv_if_ne (tgt := 27) hx hb dX12_person_23 (by decide) (fun c20 => ?_) (fun c20 => ?_)
    · have gc20 : ¬ (r14.toInt = 0) := fun q0 => c20 (Int32.toInt_inj.mp q0)
      refine lv_bipush (v := 12) hx hb dX12_person_27 (by decide) ?_
      refine lv_aload_n hx hb dX12_person_29 rfl (lv_at hl 0 rfl) ?_
      refine g_get F hK hP 0 (Wm_at0 G g q I16 J17 R18 L19) clX12 44 (by decide) flX12_146 rfl dX12_person_30 ?_
      refine cst_i (hsI 12 rfl) ?_
      have w_I0_12 := rg (hvI0 12 (by decide)) (0) (1) rfl rfl
      refine lv_imul hx hb dX12_person_33 ?_
      refine lv_topi (fun x21 ex21 => ?_)
      have fx21 : x21.toInt = 12 * (I0 12).toInt := by rw [ex21]; exact t_mul (by show (-2147483648 : Int) ≤ 12 * (I0 12).toInt; omega) (by show 12 * (I0 12).toInt ≤ 2147483647; omega)
      refine lv_aload_n hx hb dX12_person_34 rfl (lv_at hl 0 rfl) ?_
      refine g_get F hK hP 0 (Wm_at0 G g q I16 J17 R18 L19) clX12 21 (by decide) flX12_77 rfl dX12_person_35 ?_
      refine lv_aload_n hx hb dX12_person_38 rfl (lv_at hl 0 rfl) ?_
      refine g_get F hK hP 0 (Wm_at0 G g q I16 J17 R18 L19) clX12 44 (by decide) flX12_146 rfl dX12_person_39 ?_
      refine cst_i (hsI 12 rfl) ?_
      refine g_iald F hK hP 10 (Wm_at10 G g q I16 J17 R18 L19) (in_of (by omega)) dX12_person_42 rfl ?_
      refine lv_topi (fun x22 ex22 => ?_)
      have gx22 : x22.toInt = (R_20 7 (Int32.toNatClampNeg (I0 12))).toInt := congrArg Int32.toInt ((ex22).trans (congrFun (tRr14 7 rfl) _))
      have fx22 : ((0 : Int) ≤ x22.toInt ∧ x22.toInt ≤ (12 : Int)) := by rw [ex22]; exact hvR 7 (by decide) _ (clamp_lt (n := 2) (in_of (by omega)))
      refine lv_iadd hx hb dX12_person_43 ?_
      refine lv_topi (fun x23 ex23 => ?_)
      have fx23 : x23.toInt = x21.toInt + x22.toInt := by rw [ex23]; exact t_add (by show (-2147483648 : Int) ≤ x21.toInt + x22.toInt; omega) (by show x21.toInt + x22.toInt ≤ 2147483647; omega)
      refine lv_istore_n (lv' := [(1, .int x23), (0, .ref (g 45))]) hx hb dX12_person_44 rfl hl (by decide) rfl (fun ls hl => ?_)
      refine lv_aload_n hx hb dX12_person_45 rfl (lv_at hl 1 rfl) ?_
      refine g_get F hK hP 0 (Wm_at0 G g q I16 J17 R18 L19) clX12 22 (by decide) flX12_80 rfl dX12_person_46 ?_
      refine lv_iload_n hx hb dX12_person_49 rfl (lv_at hl 0 rfl) ?_
      refine lv_aload_n hx hb dX12_person_50 rfl (lv_at hl 1 rfl) ?_
      refine wvl (As := []) (rest := [.int x23, .ref (g 10)]) (b := (g 45)) (d := 3) F hK hP hD hS hA (s_X12_fresh l G g q I16 J17 R18 L19 hvI hvR   (by omega) (by omega) (by omega)) kmV_X12_fresh mlX12_362 clX12 rfl 0 (Wm_at0 G g q I16 J17 R18 L19) ⟨(Nat.le_of_ble_eq_true rfl), (Nat.le_of_ble_eq_true rfl)⟩ hl.1 rfl (Nat.le_of_ble_eq_true rfl) dX12_person_51 (fun r24 u25 H locs hwr24 hP hD hS => ?_)
      obtain ⟨I26, J27, R28, L29⟩ := u25
      replace hP : va_P G.1 vwCl (Wm G g q I26 J27 R28 L29) H := hP
      replace hD : va_D A (Wm G g q I26 J27 R28 L29) := hD
      obtain ⟨hvI, hvR, tIr24, tRr24, F0r24, F1r24, F2r24, F3r24, F4r24⟩ := hwr24
      replace F0r24 : ((I26 3).toInt ≤ (I26 4).toInt) := F0r24
      replace F1r24 : ((I26 4).toInt ≤ (I16 1).toInt) := F1r24
      replace F2r24 : ((¬ (I26 2).toInt = 0) → (I26 3).toInt < (I26 4).toInt) := F2r24
      replace F3r24 : ((¬ (I16 6).toInt = 0) → (¬ (I26 6).toInt = 0)) := F3r24
      replace F4r24 : ((I16 3).toInt ≤ (I26 3).toInt) := F4r24
      replace hvI : InvI Wm_lo Wm_hi I26 := hvI
      replace hvR : InvR Wm_rl R28 := hvR
      replace tIr24 : SmF ([2, 3, 4, 5, 6, 7] : List Nat) I16 I26 := tIr24
      replace tRr24 : SmF ([] : List Nat) R18 R28 := tRr24
      have hv_I26 := hvI
      have hsI := smF_tr hsI tIr24 (by decide)
      have hsR := smF_tr hsR tRr24 (by decide)
      have u_I26_1 : (I26 1).toInt = (I16 1).toInt := congrArg Int32.toInt (tIr24 1 rfl)
      have w_I26_2 := rg (hvI 2 (by decide)) (0) (3) rfl rfl
      have w_I26_3 := rg (hvI 3 (by decide)) (0) (1800) rfl rfl
      have w_I26_4 := rg (hvI 4 (by decide)) (0) (1800) rfl rfl
      have w_I26_6 := rg (hvI 6 (by decide)) (0) (5) rfl rfl
      have u_I26_12 : (I26 12).toInt = (I16 12).toInt := congrArg Int32.toInt (tIr24 12 rfl)
      have nr24_0 : ((I26 3).toInt ≤ (I26 4).toInt) := by omega
      have nr24_1 : ((I26 4).toInt ≤ (I0 1).toInt) := by omega
      have nr24_2 : ((¬ (I26 2).toInt = 0) → (I26 3).toInt < (I26 4).toInt) := by omega
      have nr24_3 : ((¬ (I0 6).toInt = 0) → (¬ (I26 6).toInt = 0)) := by omega
      have nr24_4 : ((I0 3).toInt ≤ (I26 3).toInt) := by omega
      have nr24_5 : ((I0 4).toInt ≤ (I26 3).toInt) := by omega
      clear nr14_0 nr14_1 nr14_2 nr14_3 nr14_4 F0r24 F1r24 F2r24 F3r24 F4r24
      refine p_lrow (W1 := fun y => Wm G g q I26 J27 R28 y) (n := 2) F hK hP hD hS 11 (Wm_at11 G g q I26 J27 R28 L29) (in_of (by omega)) dX12_person_54 (Wm_rowL2 G g q I26 J27 R28 L29) (fun L30 H locs eL30 hP hD hS => ?_)
      refine lv_aload_n hx hb dX12_person_55 rfl (lv_at hl 1 rfl) ?_
      refine lv_ldc2 hx hb hown (F.2.2.2.2 _ clX12_258) dX12_person_56 ?_
      refine wvv (As := [.long 1952801133]) (rest := []) (b := (g 45)) (d := 3) F hK hP hD hS hA (s_X12_must_ l G g q I26 J27 R28 L30 hvI hvR  1952801133 (by omega) (by omega) (by omega)) kmV_X12_must_ mlX12_366 clX12 rfl 0 (Wm_at0 G g q I26 J27 R28 L30) ⟨(Nat.le_of_ble_eq_true rfl), (Nat.le_of_ble_eq_true rfl)⟩ hl.1 rfl (Nat.le_of_ble_eq_true rfl) dX12_person_59 (fun u32 H locs hwr31 hP hD hS => ?_)
      obtain ⟨I33, J34, R35, L36⟩ := u32
      replace hP : va_P G.1 vwCl (Wm G g q I33 J34 R35 L36) H := hP
      replace hD : va_D A (Wm G g q I33 J34 R35 L36) := hD
      obtain ⟨hvI, hvR, tIr31, tRr31, F0r31, F1r31, F2r31, F3r31, F4r31⟩ := hwr31
      replace F0r31 : ((I33 3).toInt ≤ (I33 4).toInt) := F0r31
      replace F1r31 : ((I33 4).toInt ≤ (I26 1).toInt) := F1r31
      replace F2r31 : ((¬ (I33 2).toInt = 0) → (I33 3).toInt < (I33 4).toInt) := F2r31
      replace F3r31 : ((¬ (I26 6).toInt = 0) → (¬ (I33 6).toInt = 0)) := F3r31
      replace F4r31 : ((I26 3).toInt ≤ (I33 3).toInt) := F4r31
      replace hvI : InvI Wm_lo Wm_hi I33 := hvI
      replace hvR : InvR Wm_rl R35 := hvR
      replace tIr31 : SmF ([2, 3, 4, 5, 6, 7] : List Nat) I26 I33 := tIr31
      replace tRr31 : SmF ([] : List Nat) R28 R35 := tRr31
      have hv_I33 := hvI
      have hsI := smF_tr hsI tIr31 (by decide)
      have hsR := smF_tr hsR tRr31 (by decide)
      have u_I33_1 : (I33 1).toInt = (I26 1).toInt := congrArg Int32.toInt (tIr31 1 rfl)
      have w_I33_2 := rg (hvI 2 (by decide)) (0) (3) rfl rfl
      have w_I33_3 := rg (hvI 3 (by decide)) (0) (1800) rfl rfl
      have w_I33_4 := rg (hvI 4 (by decide)) (0) (1800) rfl rfl
      have w_I33_6 := rg (hvI 6 (by decide)) (0) (5) rfl rfl
      have u_I33_12 : (I33 12).toInt = (I26 12).toInt := congrArg Int32.toInt (tIr31 12 rfl)
      have nr31_0 : ((I33 3).toInt ≤ (I33 4).toInt) := by omega
      have nr31_1 : ((I33 4).toInt ≤ (I0 1).toInt) := by omega
      have nr31_2 : ((¬ (I33 2).toInt = 0) → (I33 3).toInt < (I33 4).toInt) := by omega
      have nr31_3 : ((¬ (I0 6).toInt = 0) → (¬ (I33 6).toInt = 0)) := by omega
      have nr31_4 : ((I0 3).toInt ≤ (I33 3).toInt) := by omega
      have nr31_5 : ((I0 4).toInt ≤ (I33 3).toInt) := by omega
      clear nr24_0 nr24_1 nr24_2 nr24_3 nr24_4 nr24_5 F0r31 F1r31 F2r31 F3r31 F4r31
      refine lv_aload_n hx hb dX12_person_62 rfl (lv_at hl 1 rfl) ?_
      refine g_get F hK hP 0 (Wm_at0 G g q I33 J34 R35 L36) clX12 23 (by decide) flX12_83 rfl dX12_person_63 ?_
      refine lv_iload_n hx hb dX12_person_66 rfl (lv_at hl 0 rfl) ?_
      refine lv_aload_n hx hb dX12_person_67 rfl (lv_at hl 1 rfl) ?_
      refine lv_iconst (v := 1) hx hb dX12_person_68 (by decide) ?_
      refine wvi (As := [.int 1]) (rest := [.int x23, .ref (g 11)]) (b := (g 45)) (d := 3) F hK hP hD hS hA (s_X12_asked l G g q I33 J34 R35 L36 hvI hvR  1 (by decide) (by omega) (by omega) (by omega)) kmV_X12_asked mlX12_374 clX12 rfl 0 (Wm_at0 G g q I33 J34 R35 L36) ⟨(Nat.le_of_ble_eq_true rfl), (Nat.le_of_ble_eq_true rfl)⟩ hl.1 rfl (Nat.le_of_ble_eq_true rfl) dX12_person_69 (fun r37 u38 H locs hwr37 hP hD hS => ?_)
      obtain ⟨I39, J40, R41, L42⟩ := u38
      replace hP : va_P G.1 vwCl (Wm G g q I39 J40 R41 L42) H := hP
      replace hD : va_D A (Wm G g q I39 J40 R41 L42) := hD
      obtain ⟨hvI, hvR, tIr37, tRr37, F0r37, F1r37, F2r37, F3r37, F4r37, F5r37, F6r37, F7r37⟩ := hwr37
      replace F0r37 : ((0 : Int) ≤ r37.toInt ∧ r37.toInt ≤ (11 : Int)) := F0r37
      replace F1r37 : ((1 : Int) = 0 → r37.toInt ≤ 4) := F1r37
      replace F2r37 : ((1 : Int) = 1 → r37.toInt ≤ 5) := F2r37
      replace F3r37 : ((I39 3).toInt ≤ (I39 4).toInt) := F3r37
      replace F4r37 : ((I39 4).toInt ≤ (I33 1).toInt) := F4r37
      replace F5r37 : ((¬ (I39 2).toInt = 0) → (I39 3).toInt < (I39 4).toInt) := F5r37
      replace F6r37 : ((¬ (I33 6).toInt = 0) → (¬ (I39 6).toInt = 0)) := F6r37
      replace F7r37 : ((I33 3).toInt ≤ (I39 3).toInt) := F7r37
      replace hvI : InvI Wm_lo Wm_hi I39 := hvI
      replace hvR : InvR Wm_rl R41 := hvR
      replace tIr37 : SmF ([2, 3, 4, 5, 6, 7] : List Nat) I33 I39 := tIr37
      replace tRr37 : SmF ([] : List Nat) R35 R41 := tRr37
      have hv_I39 := hvI
      have hsI := smF_tr hsI tIr37 (by decide)
      have hsR := smF_tr hsR tRr37 (by decide)
      have u_I39_1 : (I39 1).toInt = (I33 1).toInt := congrArg Int32.toInt (tIr37 1 rfl)
      have w_I39_2 := rg (hvI 2 (by decide)) (0) (3) rfl rfl
      have w_I39_3 := rg (hvI 3 (by decide)) (0) (1800) rfl rfl
      have w_I39_4 := rg (hvI 4 (by decide)) (0) (1800) rfl rfl
      have w_I39_6 := rg (hvI 6 (by decide)) (0) (5) rfl rfl
      have u_I39_12 : (I39 12).toInt = (I33 12).toInt := congrArg Int32.toInt (tIr37 12 rfl)
      have nr37_0 : ((I39 3).toInt ≤ (I39 4).toInt) := by omega
      have nr37_1 : ((I39 4).toInt ≤ (I0 1).toInt) := by omega
      have nr37_2 : ((¬ (I39 2).toInt = 0) → (I39 3).toInt < (I39 4).toInt) := by omega
      have nr37_3 : ((¬ (I0 6).toInt = 0) → (¬ (I39 6).toInt = 0)) := by omega
      have nr37_4 : ((I0 3).toInt ≤ (I39 3).toInt) := by omega
      have nr37_5 : ((I0 4).toInt ≤ (I39 3).toInt) := by omega
      clear nr31_0 nr31_1 nr31_2 nr31_3 nr31_4 nr31_5 F3r37 F4r37 F5r37 F6r37 F7r37
      refine p_row (W1 := fun y => Wm G g q I39 J40 y L42) (n := 8) F hK hP hD hS 12 (Wm_at12 G g q I39 J40 R41 L42) (in_of (by omega)) dX12_person_72 (Wm_rowR8 G g q I39 J40 R41 L42) (fun R43 H locs eR43 hP hD hS => ?_)
      have hvR : InvR Wm_rl R43 := inv_upR hvR 8 eR43 (upd_in (hvR 8 (by decide)) (show ((0 : Int) ≤ r37.toInt ∧ r37.toInt ≤ (5 : Int)) from by omega))
      have hsR := smF_up hsR eR43 (by decide)
      refine lv_aload_n hx hb dX12_person_73 rfl (lv_at hl 1 rfl) ?_
      refine lv_ldc2 hx hb hown (F.2.2.2.2 _ clX12_262) dX12_person_74 ?_
      refine wvv (As := [.long 1684109683]) (rest := []) (b := (g 45)) (d := 3) F hK hP hD hS hA (s_X12_must_ l G g q I39 J40 R43 L42 hvI hvR  1684109683 (by omega) (by omega) (by omega)) kmV_X12_must_ mlX12_366 clX12 rfl 0 (Wm_at0 G g q I39 J40 R43 L42) ⟨(Nat.le_of_ble_eq_true rfl), (Nat.le_of_ble_eq_true rfl)⟩ hl.1 rfl (Nat.le_of_ble_eq_true rfl) dX12_person_77 (fun u45 H locs hwr44 hP hD hS => ?_)
      obtain ⟨I46, J47, R48, L49⟩ := u45
      replace hP : va_P G.1 vwCl (Wm G g q I46 J47 R48 L49) H := hP
      replace hD : va_D A (Wm G g q I46 J47 R48 L49) := hD
      obtain ⟨hvI, hvR, tIr44, tRr44, F0r44, F1r44, F2r44, F3r44, F4r44⟩ := hwr44
      replace F0r44 : ((I46 3).toInt ≤ (I46 4).toInt) := F0r44
      replace F1r44 : ((I46 4).toInt ≤ (I39 1).toInt) := F1r44
      replace F2r44 : ((¬ (I46 2).toInt = 0) → (I46 3).toInt < (I46 4).toInt) := F2r44
      replace F3r44 : ((¬ (I39 6).toInt = 0) → (¬ (I46 6).toInt = 0)) := F3r44
      replace F4r44 : ((I39 3).toInt ≤ (I46 3).toInt) := F4r44
      replace hvI : InvI Wm_lo Wm_hi I46 := hvI
      replace hvR : InvR Wm_rl R48 := hvR
      replace tIr44 : SmF ([2, 3, 4, 5, 6, 7] : List Nat) I39 I46 := tIr44
      replace tRr44 : SmF ([] : List Nat) R43 R48 := tRr44
      have hv_I46 := hvI
      have hsI := smF_tr hsI tIr44 (by decide)
      have hsR := smF_tr hsR tRr44 (by decide)
      have u_I46_1 : (I46 1).toInt = (I39 1).toInt := congrArg Int32.toInt (tIr44 1 rfl)
      have w_I46_2 := rg (hvI 2 (by decide)) (0) (3) rfl rfl
      have w_I46_3 := rg (hvI 3 (by decide)) (0) (1800) rfl rfl
      have w_I46_4 := rg (hvI 4 (by decide)) (0) (1800) rfl rfl
      have w_I46_6 := rg (hvI 6 (by decide)) (0) (5) rfl rfl
      have u_I46_12 : (I46 12).toInt = (I39 12).toInt := congrArg Int32.toInt (tIr44 12 rfl)
      have nr44_0 : ((I46 3).toInt ≤ (I46 4).toInt) := by omega
      have nr44_1 : ((I46 4).toInt ≤ (I0 1).toInt) := by omega
      have nr44_2 : ((¬ (I46 2).toInt = 0) → (I46 3).toInt < (I46 4).toInt) := by omega
      have nr44_3 : ((¬ (I0 6).toInt = 0) → (¬ (I46 6).toInt = 0)) := by omega
      have nr44_4 : ((I0 3).toInt ≤ (I46 3).toInt) := by omega
      have nr44_5 : ((I0 4).toInt ≤ (I46 3).toInt) := by omega
      clear nr37_0 nr37_1 nr37_2 nr37_3 nr37_4 nr37_5 F0r44 F1r44 F2r44 F3r44 F4r44
      refine lv_aload_n hx hb dX12_person_80 rfl (lv_at hl 1 rfl) ?_
      refine g_get F hK hP 0 (Wm_at0 G g q I46 J47 R48 L49) clX12 24 (by decide) flX12_86 rfl dX12_person_81 ?_
      refine lv_iload_n hx hb dX12_person_84 rfl (lv_at hl 0 rfl) ?_
      refine lv_aload_n hx hb dX12_person_85 rfl (lv_at hl 1 rfl) ?_
      refine lv_iconst (v := 0) hx hb dX12_person_86 (by decide) ?_
      refine lv_iconst (v := 5) hx hb dX12_person_87 (by decide) ?_
      refine wvi (As := [.int 0, .int 5]) (rest := [.int x23, .ref (g 12)]) (b := (g 45)) (d := 3) F hK hP hD hS hA (s_X12_number l G g q I46 J47 R48 L49 hvI hvR  0 5 (by decide) (by decide) (by omega) (by omega) (by omega)) kmV_X12_number mlX12_370 clX12 rfl 0 (Wm_at0 G g q I46 J47 R48 L49) ⟨(Nat.le_of_ble_eq_true rfl), (Nat.le_of_ble_eq_true rfl)⟩ hl.1 rfl (Nat.le_of_ble_eq_true rfl) dX12_person_88 (fun r50 u51 H locs hwr50 hP hD hS => ?_)
      obtain ⟨I52, J53, R54, L55⟩ := u51
      replace hP : va_P G.1 vwCl (Wm G g q I52 J53 R54 L55) H := hP
      replace hD : va_D A (Wm G g q I52 J53 R54 L55) := hD
      obtain ⟨hvI, hvR, tIr50, tRr50, F0r50, F1r50, F2r50, F3r50, F4r50, F5r50⟩ := hwr50
      replace F0r50 : ((0 : Int) ≤ r50.toInt ∧ r50.toInt ≤ (9999 : Int)) := F0r50
      replace F1r50 : ((I52 3).toInt ≤ (I52 4).toInt) := F1r50
      replace F2r50 : ((I52 4).toInt ≤ (I46 1).toInt) := F2r50
      replace F3r50 : ((¬ (I52 2).toInt = 0) → (I52 3).toInt < (I52 4).toInt) := F3r50
      replace F4r50 : ((¬ (I46 6).toInt = 0) → (¬ (I52 6).toInt = 0)) := F4r50
      replace F5r50 : ((I46 3).toInt ≤ (I52 3).toInt) := F5r50
      replace hvI : InvI Wm_lo Wm_hi I52 := hvI
      replace hvR : InvR Wm_rl R54 := hvR
      replace tIr50 : SmF ([2, 3, 4, 5, 6, 7] : List Nat) I46 I52 := tIr50
      replace tRr50 : SmF ([] : List Nat) R48 R54 := tRr50
      have hv_I52 := hvI
      have hsI := smF_tr hsI tIr50 (by decide)
      have hsR := smF_tr hsR tRr50 (by decide)
      have u_I52_1 : (I52 1).toInt = (I46 1).toInt := congrArg Int32.toInt (tIr50 1 rfl)
      have w_I52_2 := rg (hvI 2 (by decide)) (0) (3) rfl rfl
      have w_I52_3 := rg (hvI 3 (by decide)) (0) (1800) rfl rfl
      have w_I52_4 := rg (hvI 4 (by decide)) (0) (1800) rfl rfl
      have w_I52_6 := rg (hvI 6 (by decide)) (0) (5) rfl rfl
      have u_I52_12 : (I52 12).toInt = (I46 12).toInt := congrArg Int32.toInt (tIr50 12 rfl)
      have nr50_0 : ((I52 3).toInt ≤ (I52 4).toInt) := by omega
      have nr50_1 : ((I52 4).toInt ≤ (I0 1).toInt) := by omega
      have nr50_2 : ((¬ (I52 2).toInt = 0) → (I52 3).toInt < (I52 4).toInt) := by omega
      have nr50_3 : ((¬ (I0 6).toInt = 0) → (¬ (I52 6).toInt = 0)) := by omega
      have nr50_4 : ((I0 3).toInt ≤ (I52 3).toInt) := by omega
      have nr50_5 : ((I0 4).toInt ≤ (I52 3).toInt) := by omega
      clear nr44_0 nr44_1 nr44_2 nr44_3 nr44_4 nr44_5 F1r50 F2r50 F3r50 F4r50 F5r50
      refine p_row (W1 := fun y => Wm G g q I52 J53 y L55) (n := 9) F hK hP hD hS 13 (Wm_at13 G g q I52 J53 R54 L55) (in_of (by omega)) dX12_person_91 (Wm_rowR9 G g q I52 J53 R54 L55) (fun R56 H locs eR56 hP hD hS => ?_)
      have hvR : InvR Wm_rl R56 := inv_upR hvR 9 eR56 (upd_in (hvR 9 (by decide)) (full _))
      have hsR := smF_up hsR eR56 (by decide)
      refine lv_aload_n hx hb dX12_person_92 rfl (lv_at hl 1 rfl) ?_
      refine g_get F hK hP 0 (Wm_at0 G g q I52 J53 R56 L55) clX12 25 (by decide) flX12_89 rfl dX12_person_93 ?_
      refine lv_iload_n hx hb dX12_person_96 rfl (lv_at hl 0 rfl) ?_
      refine lv_iconst (v := 0) hx hb dX12_person_97 (by decide) ?_
      refine p_row (W1 := fun y => Wm G g q I52 J53 y L55) (n := 10) F hK hP hD hS 14 (Wm_at14 G g q I52 J53 R56 L55) (in_of (by omega)) dX12_person_98 (Wm_rowR10 G g q I52 J53 R56 L55) (fun R57 H locs eR57 hP hD hS => ?_)
      have hvR : InvR Wm_rl R57 := inv_upR hvR 10 eR57 (upd_in (hvR 10 (by decide)) (full _))
      have hsR := smF_up hsR eR57 (by decide)
      refine lv_iconst (v := 0) hx hb dX12_person_99 (by decide) ?_
      refine lv_istore_n (lv' := [(2, .int 0), (1, .int x23), (0, .ref (g 45))]) hx hb dX12_person_100 rfl hl (by decide) rfl (fun ls hl => ?_)
      have t_z58 : (R57 7 (Int32.toNatClampNeg (I0 12))).toInt = (R_20 7 (Int32.toNatClampNeg (I0 12))).toInt := congrArg Int32.toInt ((((((((((congrFun (up_ne (j := 7) eR57 (by decide)) _).trans (congrFun (up_ne (j := 7) eR56 (by decide)) _)).trans (congrFun (tRr50 7 rfl) _)).trans (congrFun (tRr44 7 rfl) _)).trans (congrFun (up_ne (j := 7) eR43 (by decide)) _)).trans (congrFun (tRr37 7 rfl) _)).trans (congrFun (tRr31 7 rfl) _)).trans (congrFun (tRr24 7 rfl) _)).trans (congrFun (tRr14 7 rfl) _)))
      exact lab_101 6 x23 0 I52 J53 R57 L55 _ _ _ (show (5 - 0) < ((6 : Nat) : Int) from by omega) hvI hvR hsI hsR (show ((0 : Int) ≤ x23.toInt ∧ x23.toInt ≤ (23 : Int)) from by omega) (by decide) (show ((I0 4).toInt ≤ (I52 3).toInt) from by omega) (show ((R57 7 (Int32.toNatClampNeg (I0 12))).toInt ≤ 11) from by omega) (show ((I52 3).toInt ≤ (I52 4).toInt) from by omega) (show ((I52 4).toInt ≤ (I0 1).toInt) from by omega) (show ((¬ (I52 2).toInt = 0) → (I52 3).toInt < (I52 4).toInt) from by omega) (show ((¬ (I0 6).toInt = 0) → (¬ (I52 6).toInt = 0)) from by omega) (show ((I0 3).toInt ≤ (I52 3).toInt) from by omega) hP hD hS (lv_sub hl [2, 1, 0] rfl)
    · have gc20 : r14.toInt = 0 := congrArg Int32.toInt c20
      rw [hQ]
      exact q_v F hr hlk (I16, J17, R18, L19) hP hD hS ⟨hvI, hvR, hsI, hsR, (show (((I16 6).toInt = 0 ∧ ¬ (I0 2).toInt = 0) → (I0 3).toInt < (I16 3).toInt) from by omega), (show ((I16 3).toInt ≤ (I16 4).toInt) from by omega), (show ((I16 4).toInt ≤ (I0 1).toInt) from by omega), (show ((¬ (I16 2).toInt = 0) → (I16 3).toInt < (I16 4).toInt) from by omega), (show ((¬ (I0 6).toInt = 0) → (¬ (I16 6).toInt = 0)) from by omega), (show ((I0 3).toInt ≤ (I16 3).toInt) from by omega)⟩ dX12_person_26 (Nat.le_of_ble_eq_true rfl) (Nat.le_of_ble_eq_true rfl)
  have w_I0_1 := rg (hvI 1 (by decide)) (0) (1800) rfl rfl
  have w_I0_2 := rg (hvI 2 (by decide)) (0) (3) rfl rfl
  have w_I0_3 := rg (hvI 3 (by decide)) (0) (1800) rfl rfl
  have w_I0_4 := rg (hvI 4 (by decide)) (0) (1800) rfl rfl
  have w_I0_6 := rg (hvI 6 (by decide)) (0) (5) rfl rfl
  have w_I0_12 := rg (hvI 12 (by decide)) (0) (1) rfl rfl
  refine lv_aload_n hx hb dX12_person_0 rfl (lv_at hl 0 rfl) ?_
  refine lv_aload_n hx hb dX12_person_1 rfl (lv_at hl 0 rfl) ?_
  refine g_get F hK hP 0 (Wm_at0 G g q I0 J0 R0 L0) clX12 21 (by decide) flX12_77 rfl dX12_person_2 ?_
  refine lv_aload_n hx hb dX12_person_5 rfl (lv_at hl 0 rfl) ?_
  refine g_get F hK hP 0 (Wm_at0 G g q I0 J0 R0 L0) clX12 44 (by decide) flX12_146 rfl dX12_person_6 ?_
  have w_I0_12 := rg (hvI0 12 (by decide)) (0) (1) rfl rfl
  refine g_iald F hK hP 10 (Wm_at10 G g q I0 J0 R0 L0) (in_of (by omega)) dX12_person_9 rfl ?_
  refine lv_topi (fun x59 ex59 => ?_)
  have gx59 : x59.toInt = (R0 7 (Int32.toNatClampNeg (I0 12))).toInt := congrArg Int32.toInt (ex59)
  have fx59 : ((0 : Int) ≤ x59.toInt ∧ x59.toInt ≤ (12 : Int)) := by rw [ex59]; exact hvR 7 (by decide) _ (clamp_lt (n := 2) (in_of (by omega)))
  refine lv_bipush (v := 12) hx hb dX12_person_10 (by decide) ?_
  refine lv_icmp_ne (tgt := 19) hx hb dX12_person_12 (by decide) (fun c60 => ?_) (fun c60 => ?_)
  · have gc60 : ¬ (x59.toInt = 12) := fun q0 => c60 (Int32.toInt_inj.mp q0)
    refine lv_iconst (v := 0) hx hb dX12_person_19 (by decide) ?_
    exact lab_20 0 I0 J0 R0 L0 _ _ _ hvI hvR hsI hsR (by decide) (show (0 = 0 → (R0 7 (Int32.toNatClampNeg (I0 12))).toInt ≤ 11) from by omega) (show ((I0 2).toInt = (I0 2).toInt) from by omega) (show ((I0 4).toInt = (I0 4).toInt) from by omega) (show ((I0 3).toInt = (I0 3).toInt) from by omega) (show ((I0 3).toInt ≤ (I0 4).toInt) from by omega) (show ((I0 4).toInt ≤ (I0 1).toInt) from by omega) (show ((¬ (I0 2).toInt = 0) → (I0 3).toInt < (I0 4).toInt) from by omega) (show ((¬ (I0 6).toInt = 0) → (¬ (I0 6).toInt = 0)) from by omega) (show ((I0 3).toInt ≤ (I0 3).toInt) from by omega) hP hD hS (lv_sub hl [0] rfl)
  · have gc60 : x59.toInt = 12 := congrArg Int32.toInt c60
    refine lv_iconst (v := 1) hx hb dX12_person_15 (by decide) ?_
    refine lv_goto (tgt := 20) hx hb dX12_person_16 (by decide) ?_
    exact lab_20 1 I0 J0 R0 L0 _ _ _ hvI hvR hsI hsR (by decide) (show (1 = 0 → (R0 7 (Int32.toNatClampNeg (I0 12))).toInt ≤ 11) from by omega) (show ((I0 2).toInt = (I0 2).toInt) from by omega) (show ((I0 4).toInt = (I0 4).toInt) from by omega) (show ((I0 3).toInt = (I0 3).toInt) from by omega) (show ((I0 3).toInt ≤ (I0 4).toInt) from by omega) (show ((I0 4).toInt ≤ (I0 1).toInt) from by omega) (show ((¬ (I0 2).toInt = 0) → (I0 3).toInt < (I0 4).toInt) from by omega) (show ((¬ (I0 6).toInt = 0) → (¬ (I0 6).toInt = 0)) from by omega) (show ((I0 3).toInt ≤ (I0 3).toInt) from by omega) hP hD hS (lv_sub hl [0] rfl)
set_option maxHeartbeats 4000000 in
set_option maxRecDepth 100000 in
theorem s_X12_tie (l : Launch) (G : Gx) (g q : Nat → Nat) (I0 : Nat → Int32) (J0 : Nat → Int64) (R0 : Nat → Nat → Int32) (L0 : Nat → Nat → Int64) (hvI : InvI Wm_lo Wm_hi I0) (hvR : InvR Wm_rl R0)   (hpre0 : ((I0 3).toInt ≤ (I0 4).toInt)) (hpre1 : ((I0 4).toInt ≤ (I0 1).toInt)) (hpre2 : ((¬ (I0 2).toInt = 0) → (I0 3).toInt < (I0 4).toInt)) : CtV (S := St) l yX12_tie cX12_tie 2 none (rmD 4 0 0) G [.ref (g 45)] (Wm G g q I0 J0 R0 L0) (fun u => InvI Wm_lo Wm_hi u.1 ∧ InvR Wm_rl u.2.2.1 ∧ SmF ([2, 3, 4, 5, 6, 7] : List Nat) I0 u.1 ∧ SmF ([15, 16, 17, 18] : List Nat) R0 u.2.2.1 ∧ (((u.1 6).toInt = 0 ∧ ¬ (I0 2).toInt = 0) → (I0 3).toInt < (u.1 3).toInt) ∧ ((u.1 3).toInt ≤ (u.1 4).toInt) ∧ ((u.1 4).toInt ≤ (I0 1).toInt) ∧ ((¬ (u.1 2).toInt = 0) → (u.1 3).toInt < (u.1 4).toInt) ∧ ((¬ (I0 6).toInt = 0) → (¬ (u.1 6).toInt = 0)) ∧ ((I0 3).toInt ≤ (u.1 3).toInt)) (fun u => Wm G g q u.1 u.2.1 u.2.2.1 u.2.2.2) := by
  refine ctV_of (own := RX12) (by decide +kernel) rfl (Nat.le_of_ble_eq_true rfl) ?_
  intro p e s m below meth c A ls F hr hlk hnm hK hP hD hA hS hl
  have hx := F.1
  have hb := F.2.1
  have hown := F.2.2.2.1
  have hl : lv_has ls 2 [(0, .ref (g 45))] := hl
  obtain ⟨Q, hQ⟩ : ∃ Q : State → Prop, Q = MQ below (va_Qv (S := St) (fun u => InvI Wm_lo Wm_hi u.1 ∧ InvR Wm_rl u.2.2.1 ∧ SmF ([2, 3, 4, 5, 6, 7] : List Nat) I0 u.1 ∧ SmF ([15, 16, 17, 18] : List Nat) R0 u.2.2.1 ∧ (((u.1 6).toInt = 0 ∧ ¬ (I0 2).toInt = 0) → (I0 3).toInt < (u.1 3).toInt) ∧ ((u.1 3).toInt ≤ (u.1 4).toInt) ∧ ((u.1 4).toInt ≤ (I0 1).toInt) ∧ ((¬ (u.1 2).toInt = 0) → (u.1 3).toInt < (u.1 4).toInt) ∧ ((¬ (I0 6).toInt = 0) → (¬ (u.1 6).toInt = 0)) ∧ ((I0 3).toInt ≤ (u.1 3).toInt)) (BX G A (fun u => Wm G g q u.1 u.2.1 u.2.2.1 u.2.2.2)) A) [.ref (g 45)].toArray s 0 0 A := ⟨_, rfl⟩
  rw [show (MQ below (va_Qv (S := St) (fun u => InvI Wm_lo Wm_hi u.1 ∧ InvR Wm_rl u.2.2.1 ∧ SmF ([2, 3, 4, 5, 6, 7] : List Nat) I0 u.1 ∧ SmF ([15, 16, 17, 18] : List Nat) R0 u.2.2.1 ∧ (((u.1 6).toInt = 0 ∧ ¬ (I0 2).toInt = 0) → (I0 3).toInt < (u.1 3).toInt) ∧ ((u.1 3).toInt ≤ (u.1 4).toInt) ∧ ((u.1 4).toInt ≤ (I0 1).toInt) ∧ ((¬ (u.1 2).toInt = 0) → (u.1 3).toInt < (u.1 4).toInt) ∧ ((¬ (I0 6).toInt = 0) → (¬ (u.1 6).toInt = 0)) ∧ ((I0 3).toInt ≤ (u.1 3).toInt)) (BX G A (fun u => Wm G g q u.1 u.2.1 u.2.2.1 u.2.2.2)) A) [.ref (g 45)].toArray s (rmD 4 0 0).cells (rmD 4 0 0).slots A) = Q from hQ.symm]
  have hsI := smF_rf ([2, 3, 4, 5, 6, 7] : List Nat) I0
  have hsR := smF_rf ([15, 16, 17, 18] : List Nat) R0
  have hvI0 := hvI
  have lab_109 : ∀ (a1_109 : Int32) (I_109 : Nat → Int32) (J_109 : Nat → Int64) (R_109 : Nat → Nat → Int32) (L_109 : Nat → Nat → Int64) (H : Heap) (locs : List Loc) (ls : Array Slot), InvI Wm_lo Wm_hi I_109 → InvR Wm_rl R_109 → SmF ([2, 3, 4, 5, 6, 7] : List Nat) I0 I_109 → SmF ([15, 16, 17, 18] : List Nat) R0 R_109 → ((0 : Int) ≤ a1_109.toInt ∧ a1_109.toInt ≤ (59 : Int)) → ((I0 4).toInt ≤ (I_109 3).toInt) → ((R_109 15 (Int32.toNatClampNeg (I0 12))).toInt ≤ 29) → ((I_109 3).toInt ≤ (I_109 4).toInt) → ((I_109 4).toInt ≤ (I0 1).toInt) → ((¬ (I_109 2).toInt = 0) → (I_109 3).toInt < (I_109 4).toInt) → ((¬ (I0 6).toInt = 0) → (¬ (I_109 6).toInt = 0)) → ((I0 3).toInt ≤ (I_109 3).toInt) → va_P G.1 vwCl (Wm G g q I_109 J_109 R_109 L_109) H → va_D A (Wm G g q I_109 J_109 R_109 L_109) → va_S A s.heap H locs → lv_has ls 2 [(0, .ref (g 45)), (1, .int a1_109)] → W p l e (rmD 4 0 0) s m [.ref (g 45)].toArray below meth c H locs 0 0 Q (F0 m 109 ls []) := by
    intro a1_109 I_109 J_109 R_109 L_109 H locs ls hvI hvR hsI hsR y0_109 z0_109 z1_109 z2_109 z3_109 z4_109 z5_109 z6_109 hP hD hS hl
    have hv_I_109 := hvI
    have w_I_109_1 := rg (hvI 1 (by decide)) (0) (1800) rfl rfl
    have v_I_109_1 : (I_109 1).toInt = (I0 1).toInt := congrArg Int32.toInt (hsI 1 rfl)
    have w_I_109_2 := rg (hvI 2 (by decide)) (0) (3) rfl rfl
    have w_I_109_3 := rg (hvI 3 (by decide)) (0) (1800) rfl rfl
    have w_I_109_4 := rg (hvI 4 (by decide)) (0) (1800) rfl rfl
    have w_I_109_6 := rg (hvI 6 (by decide)) (0) (5) rfl rfl
    have w_I_109_12 := rg (hvI 12 (by decide)) (0) (1) rfl rfl
    have v_I_109_12 : (I_109 12).toInt = (I0 12).toInt := congrArg Int32.toInt (hsI 12 rfl)
    refine lv_aload_n hx hb dX12_tie_109 rfl (lv_at hl 0 rfl) ?_
    refine g_get F hK hP 0 (Wm_at0 G g q I_109 J_109 R_109 L_109) clX12 32 (by decide) flX12_110 rfl dX12_tie_110 ?_
    refine lv_iload_n hx hb dX12_tie_113 rfl (lv_at hl 1 rfl) ?_
    refine lv_aload_n hx hb dX12_tie_114 rfl (lv_at hl 0 rfl) ?_
    refine lv_iconst (v := 2) hx hb dX12_tie_115 (by decide) ?_
    refine wvi (As := [.int 2]) (rest := [.int a1_109, .ref (g 20)]) (b := (g 45)) (d := 3) F hK hP hD hS hA (s_X12_asked l G g q I_109 J_109 R_109 L_109 hvI hvR  2 (by decide) (by omega) (by omega) (by omega)) kmV_X12_asked mlX12_374 clX12 rfl 0 (Wm_at0 G g q I_109 J_109 R_109 L_109) ⟨(Nat.le_of_ble_eq_true rfl), (Nat.le_of_ble_eq_true rfl)⟩ hl.1 rfl (Nat.le_of_ble_eq_true rfl) dX12_tie_116 (fun r1 u2 H locs hwr1 hP hD hS => ?_)
    obtain ⟨I3, J4, R5, L6⟩ := u2
    replace hP : va_P G.1 vwCl (Wm G g q I3 J4 R5 L6) H := hP
    replace hD : va_D A (Wm G g q I3 J4 R5 L6) := hD
    obtain ⟨hvI, hvR, tIr1, tRr1, F0r1, F1r1, F2r1, F3r1, F4r1, F5r1, F6r1, F7r1⟩ := hwr1
    replace F0r1 : ((0 : Int) ≤ r1.toInt ∧ r1.toInt ≤ (11 : Int)) := F0r1
    replace F1r1 : ((2 : Int) = 0 → r1.toInt ≤ 4) := F1r1
    replace F2r1 : ((2 : Int) = 1 → r1.toInt ≤ 5) := F2r1
    replace F3r1 : ((I3 3).toInt ≤ (I3 4).toInt) := F3r1
    replace F4r1 : ((I3 4).toInt ≤ (I_109 1).toInt) := F4r1
    replace F5r1 : ((¬ (I3 2).toInt = 0) → (I3 3).toInt < (I3 4).toInt) := F5r1
    replace F6r1 : ((¬ (I_109 6).toInt = 0) → (¬ (I3 6).toInt = 0)) := F6r1
    replace F7r1 : ((I_109 3).toInt ≤ (I3 3).toInt) := F7r1
    replace hvI : InvI Wm_lo Wm_hi I3 := hvI
    replace hvR : InvR Wm_rl R5 := hvR
    replace tIr1 : SmF ([2, 3, 4, 5, 6, 7] : List Nat) I_109 I3 := tIr1
    replace tRr1 : SmF ([] : List Nat) R_109 R5 := tRr1
    have hv_I3 := hvI
    have hsI := smF_tr hsI tIr1 (by decide)
    have hsR := smF_tr hsR tRr1 (by decide)
    have u_I3_1 : (I3 1).toInt = (I_109 1).toInt := congrArg Int32.toInt (tIr1 1 rfl)
    have w_I3_2 := rg (hvI 2 (by decide)) (0) (3) rfl rfl
    have w_I3_3 := rg (hvI 3 (by decide)) (0) (1800) rfl rfl
    have w_I3_4 := rg (hvI 4 (by decide)) (0) (1800) rfl rfl
    have w_I3_6 := rg (hvI 6 (by decide)) (0) (5) rfl rfl
    have u_I3_12 : (I3 12).toInt = (I_109 12).toInt := congrArg Int32.toInt (tIr1 12 rfl)
    have nr1_0 : ((I3 3).toInt ≤ (I3 4).toInt) := by omega
    have nr1_1 : ((I3 4).toInt ≤ (I0 1).toInt) := by omega
    have nr1_2 : ((¬ (I3 2).toInt = 0) → (I3 3).toInt < (I3 4).toInt) := by omega
    have nr1_3 : ((¬ (I0 6).toInt = 0) → (¬ (I3 6).toInt = 0)) := by omega
    have nr1_4 : ((I0 3).toInt ≤ (I3 3).toInt) := by omega
    have nr1_5 : ((I0 4).toInt ≤ (I3 3).toInt) := by omega
    clear z2_109 z3_109 z4_109 z5_109 z6_109 F3r1 F4r1 F5r1 F6r1 F7r1
    refine p_row (W1 := fun y => Wm G g q I3 J4 y L6) (n := 17) F hK hP hD hS 21 (Wm_at21 G g q I3 J4 R5 L6) (in_of (by omega)) dX12_tie_119 (Wm_rowR17 G g q I3 J4 R5 L6) (fun R7 H locs eR7 hP hD hS => ?_)
    have hvR : InvR Wm_rl R7 := inv_upR hvR 17 eR7 (upd_in (hvR 17 (by decide)) (show ((0 : Int) ≤ r1.toInt ∧ r1.toInt ≤ (11 : Int)) from by omega))
    have hsR := smF_up hsR eR7 (by decide)
    refine lv_aload_n hx hb dX12_tie_120 rfl (lv_at hl 0 rfl) ?_
    refine g_get F hK hP 0 (Wm_at0 G g q I3 J4 R7 L6) clX12 33 (by decide) flX12_113 rfl dX12_tie_121 ?_
    refine lv_iload_n hx hb dX12_tie_124 rfl (lv_at hl 1 rfl) ?_
    refine lv_aload_n hx hb dX12_tie_125 rfl (lv_at hl 0 rfl) ?_
    refine lv_iconst (v := 0) hx hb dX12_tie_126 (by decide) ?_
    refine lv_bipush (v := 99) hx hb dX12_tie_127 (by decide) ?_
    refine wvi (As := [.int 0, .int 99]) (rest := [.int a1_109, .ref (g 21)]) (b := (g 45)) (d := 3) F hK hP hD hS hA (s_X12_number l G g q I3 J4 R7 L6 hvI hvR  0 99 (by decide) (by decide) (by omega) (by omega) (by omega)) kmV_X12_number mlX12_370 clX12 rfl 0 (Wm_at0 G g q I3 J4 R7 L6) ⟨(Nat.le_of_ble_eq_true rfl), (Nat.le_of_ble_eq_true rfl)⟩ hl.1 rfl (Nat.le_of_ble_eq_true rfl) dX12_tie_129 (fun r8 u9 H locs hwr8 hP hD hS => ?_)
    obtain ⟨I10, J11, R12, L13⟩ := u9
    replace hP : va_P G.1 vwCl (Wm G g q I10 J11 R12 L13) H := hP
    replace hD : va_D A (Wm G g q I10 J11 R12 L13) := hD
    obtain ⟨hvI, hvR, tIr8, tRr8, F0r8, F1r8, F2r8, F3r8, F4r8, F5r8⟩ := hwr8
    replace F0r8 : ((0 : Int) ≤ r8.toInt ∧ r8.toInt ≤ (9999 : Int)) := F0r8
    replace F1r8 : ((I10 3).toInt ≤ (I10 4).toInt) := F1r8
    replace F2r8 : ((I10 4).toInt ≤ (I3 1).toInt) := F2r8
    replace F3r8 : ((¬ (I10 2).toInt = 0) → (I10 3).toInt < (I10 4).toInt) := F3r8
    replace F4r8 : ((¬ (I3 6).toInt = 0) → (¬ (I10 6).toInt = 0)) := F4r8
    replace F5r8 : ((I3 3).toInt ≤ (I10 3).toInt) := F5r8
    replace hvI : InvI Wm_lo Wm_hi I10 := hvI
    replace hvR : InvR Wm_rl R12 := hvR
    replace tIr8 : SmF ([2, 3, 4, 5, 6, 7] : List Nat) I3 I10 := tIr8
    replace tRr8 : SmF ([] : List Nat) R7 R12 := tRr8
    have hv_I10 := hvI
    have hsI := smF_tr hsI tIr8 (by decide)
    have hsR := smF_tr hsR tRr8 (by decide)
    have u_I10_1 : (I10 1).toInt = (I3 1).toInt := congrArg Int32.toInt (tIr8 1 rfl)
    have w_I10_2 := rg (hvI 2 (by decide)) (0) (3) rfl rfl
    have w_I10_3 := rg (hvI 3 (by decide)) (0) (1800) rfl rfl
    have w_I10_4 := rg (hvI 4 (by decide)) (0) (1800) rfl rfl
    have w_I10_6 := rg (hvI 6 (by decide)) (0) (5) rfl rfl
    have u_I10_12 : (I10 12).toInt = (I3 12).toInt := congrArg Int32.toInt (tIr8 12 rfl)
    have nr8_0 : ((I10 3).toInt ≤ (I10 4).toInt) := by omega
    have nr8_1 : ((I10 4).toInt ≤ (I0 1).toInt) := by omega
    have nr8_2 : ((¬ (I10 2).toInt = 0) → (I10 3).toInt < (I10 4).toInt) := by omega
    have nr8_3 : ((¬ (I0 6).toInt = 0) → (¬ (I10 6).toInt = 0)) := by omega
    have nr8_4 : ((I0 3).toInt ≤ (I10 3).toInt) := by omega
    have nr8_5 : ((I0 4).toInt ≤ (I10 3).toInt) := by omega
    clear nr1_0 nr1_1 nr1_2 nr1_3 nr1_4 nr1_5 F1r8 F2r8 F3r8 F4r8 F5r8
    refine p_row (W1 := fun y => Wm G g q I10 J11 y L13) (n := 18) F hK hP hD hS 22 (Wm_at22 G g q I10 J11 R12 L13) (in_of (by omega)) dX12_tie_132 (Wm_rowR18 G g q I10 J11 R12 L13) (fun R14 H locs eR14 hP hD hS => ?_)
    have hvR : InvR Wm_rl R14 := inv_upR hvR 18 eR14 (upd_in (hvR 18 (by decide)) (full _))
    have hsR := smF_up hsR eR14 (by decide)
    refine lv_aload_n hx hb dX12_tie_133 rfl (lv_at hl 0 rfl) ?_
    refine g_get F hK hP 0 (Wm_at0 G g q I10 J11 R14 L13) clX12 8 (by decide) flX12_36 rfl dX12_tie_134 ?_
    have w_I10_6 := rg (hv_I10 6 (by decide)) (0) (5) rfl rfl
    refine lv_if_ne (tgt := 153) hx hb dX12_tie_137 (by decide) (fun c15 => ?_) (fun c15 => ?_)
    · have gc15 : ¬ ((I10 6).toInt = 0) := fun q0 => c15 (Int32.toInt_inj.mp q0)
      rw [hQ]
      exact q_v F hr hlk (I10, J11, R14, L13) hP hD hS ⟨hvI, hvR, hsI, hsR, (show (((I10 6).toInt = 0 ∧ ¬ (I0 2).toInt = 0) → (I0 3).toInt < (I10 3).toInt) from by omega), (show ((I10 3).toInt ≤ (I10 4).toInt) from by omega), (show ((I10 4).toInt ≤ (I0 1).toInt) from by omega), (show ((¬ (I10 2).toInt = 0) → (I10 3).toInt < (I10 4).toInt) from by omega), (show ((¬ (I0 6).toInt = 0) → (¬ (I10 6).toInt = 0)) from by omega), (show ((I0 3).toInt ≤ (I10 3).toInt) from by omega)⟩ dX12_tie_153 (Nat.le_of_ble_eq_true rfl) (Nat.le_of_ble_eq_true rfl)
    · have gc15 : (I10 6).toInt = 0 := congrArg Int32.toInt c15
      refine lv_aload_n hx hb dX12_tie_140 rfl (lv_at hl 0 rfl) ?_
      refine g_get F hK hP 0 (Wm_at0 G g q I10 J11 R14 L13) clX12 30 (by decide) flX12_104 rfl dX12_tie_141 ?_
      refine lv_aload_n hx hb dX12_tie_144 rfl (lv_at hl 0 rfl) ?_
      refine g_get F hK hP 0 (Wm_at0 G g q I10 J11 R14 L13) clX12 44 (by decide) flX12_146 rfl dX12_tie_145 ?_
      refine cst_i (hsI 12 rfl) ?_
      have w_I0_12 := rg (hvI0 12 (by decide)) (0) (1) rfl rfl
      refine lv_dup2_11 hx hb dX12_tie_148 rfl rfl ?_
      refine g_iald F hK hP 19 (Wm_at19 G g q I10 J11 R14 L13) (in_of (by omega)) dX12_tie_149 rfl ?_
      refine lv_topi (fun x16 ex16 => ?_)
      have gx16 : x16.toInt = (R_109 15 (Int32.toNatClampNeg (I0 12))).toInt := congrArg Int32.toInt (((((ex16).trans (congrFun (up_ne eR14 (by decide)) _)).trans (congrFun (tRr8 15 rfl) _)).trans (congrFun (up_ne eR7 (by decide)) _)).trans (congrFun (tRr1 15 rfl) _))
      have fx16 : ((0 : Int) ≤ x16.toInt ∧ x16.toInt ≤ (30 : Int)) := by rw [ex16]; exact hvR 15 (by decide) _ (clamp_lt (n := 2) (in_of (by omega)))
      refine lv_iconst (v := 1) hx hb dX12_tie_150 (by decide) ?_
      refine lv_iadd hx hb dX12_tie_151 ?_
      refine lv_topi (fun x17 ex17 => ?_)
      have fx17 : x17.toInt = x16.toInt + 1 := by rw [ex17]; exact t_add (by show (-2147483648 : Int) ≤ x16.toInt + 1; omega) (by show x16.toInt + 1 ≤ 2147483647; omega)
      refine p_row (W1 := fun y => Wm G g q I10 J11 y L13) (n := 15) F hK hP hD hS 19 (Wm_at19 G g q I10 J11 R14 L13) (in_of (by omega)) dX12_tie_152 (Wm_rowR15 G g q I10 J11 R14 L13) (fun R18 H locs eR18 hP hD hS => ?_)
      have hvR : InvR Wm_rl R18 := inv_upR hvR 15 eR18 (upd_in (hvR 15 (by decide)) (show ((0 : Int) ≤ x17.toInt ∧ x17.toInt ≤ (30 : Int)) from by omega))
      have hsR := smF_up hsR eR18 (by decide)
      rw [hQ]
      exact q_v F hr hlk (I10, J11, R18, L13) hP hD hS ⟨hvI, hvR, hsI, hsR, (show (((I10 6).toInt = 0 ∧ ¬ (I0 2).toInt = 0) → (I0 3).toInt < (I10 3).toInt) from by omega), (show ((I10 3).toInt ≤ (I10 4).toInt) from by omega), (show ((I10 4).toInt ≤ (I0 1).toInt) from by omega), (show ((¬ (I10 2).toInt = 0) → (I10 3).toInt < (I10 4).toInt) from by omega), (show ((¬ (I0 6).toInt = 0) → (¬ (I10 6).toInt = 0)) from by omega), (show ((I0 3).toInt ≤ (I10 3).toInt) from by omega)⟩ dX12_tie_153 (Nat.le_of_ble_eq_true rfl) (Nat.le_of_ble_eq_true rfl)
  have lab_20 : ∀ (b0_20 : Int32) (I_20 : Nat → Int32) (J_20 : Nat → Int64) (R_20 : Nat → Nat → Int32) (L_20 : Nat → Nat → Int64) (H : Heap) (locs : List Loc) (ls : Array Slot), InvI Wm_lo Wm_hi I_20 → InvR Wm_rl R_20 → SmF ([2, 3, 4, 5, 6, 7] : List Nat) I0 I_20 → SmF ([15, 16, 17, 18] : List Nat) R0 R_20 → ((0 : Int) ≤ b0_20.toInt ∧ b0_20.toInt ≤ (1 : Int)) → (b0_20.toInt = 0 → (R_20 15 (Int32.toNatClampNeg (I0 12))).toInt ≤ 29) → ((I_20 2).toInt = (I0 2).toInt) → ((I_20 4).toInt = (I0 4).toInt) → ((I_20 3).toInt = (I0 3).toInt) → ((I_20 3).toInt ≤ (I_20 4).toInt) → ((I_20 4).toInt ≤ (I0 1).toInt) → ((¬ (I_20 2).toInt = 0) → (I_20 3).toInt < (I_20 4).toInt) → ((¬ (I0 6).toInt = 0) → (¬ (I_20 6).toInt = 0)) → ((I0 3).toInt ≤ (I_20 3).toInt) → va_P G.1 vwCl (Wm G g q I_20 J_20 R_20 L_20) H → va_D A (Wm G g q I_20 J_20 R_20 L_20) → va_S A s.heap H locs → lv_has ls 2 [(0, .ref (g 45))] → W p l e (rmD 4 0 0) s m [.ref (g 45)].toArray below meth c H locs 0 0 Q (F0 m 20 ls [.int b0_20, .ref (g 45)]) := by
    intro b0_20 I_20 J_20 R_20 L_20 H locs ls hvI hvR hsI hsR y0_20 z0_20 z1_20 z2_20 z3_20 z4_20 z5_20 z6_20 z7_20 z8_20 hP hD hS hl
    have hv_I_20 := hvI
    have w_I_20_1 := rg (hvI 1 (by decide)) (0) (1800) rfl rfl
    have v_I_20_1 : (I_20 1).toInt = (I0 1).toInt := congrArg Int32.toInt (hsI 1 rfl)
    have w_I_20_2 := rg (hvI 2 (by decide)) (0) (3) rfl rfl
    have w_I_20_3 := rg (hvI 3 (by decide)) (0) (1800) rfl rfl
    have w_I_20_4 := rg (hvI 4 (by decide)) (0) (1800) rfl rfl
    have w_I_20_6 := rg (hvI 6 (by decide)) (0) (5) rfl rfl
    have w_I_20_12 := rg (hvI 12 (by decide)) (0) (1) rfl rfl
    have v_I_20_12 : (I_20 12).toInt = (I0 12).toInt := congrArg Int32.toInt (hsI 12 rfl)
    refine wvi (As := [.int b0_20]) (rest := []) (b := (g 45)) (d := 3) F hK hP hD hS hA (s_X12_counts l G g q I_20 J_20 R_20 L_20 hvI hvR  b0_20 (show ((0 : Int) ≤ b0_20.toInt ∧ b0_20.toInt ≤ (1 : Int)) from by omega) (by omega) (by omega) (by omega)) kmV_X12_counts mlX12_358 clX12 rfl 0 (Wm_at0 G g q I_20 J_20 R_20 L_20) ⟨(Nat.le_of_ble_eq_true rfl), (Nat.le_of_ble_eq_true rfl)⟩ hl.1 rfl (Nat.le_of_ble_eq_true rfl) dX12_tie_20 (fun r19 u20 H locs hwr19 hP hD hS => ?_)
    obtain ⟨I21, J22, R23, L24⟩ := u20
    replace hP : va_P G.1 vwCl (Wm G g q I21 J22 R23 L24) H := hP
    replace hD : va_D A (Wm G g q I21 J22 R23 L24) := hD
    obtain ⟨hvI, hvR, tIr19, tRr19, F0r19, F1r19, F2r19, F3r19, F4r19, F5r19, F6r19⟩ := hwr19
    replace F0r19 : ((0 : Int) ≤ r19.toInt ∧ r19.toInt ≤ (1 : Int)) := F0r19
    replace F1r19 : ((r19.toInt = 1 ∧ b0_20.toInt = 0 ∧ (I21 6).toInt = 0 ∧ (I_20 4).toInt ≤ (I21 3).toInt) ∨ (r19.toInt = 0 ∧ ¬ (I21 6).toInt = 0)) := F1r19
    replace F2r19 : ((I21 3).toInt ≤ (I21 4).toInt) := F2r19
    replace F3r19 : ((I21 4).toInt ≤ (I_20 1).toInt) := F3r19
    replace F4r19 : ((¬ (I21 2).toInt = 0) → (I21 3).toInt < (I21 4).toInt) := F4r19
    replace F5r19 : ((¬ (I_20 6).toInt = 0) → (¬ (I21 6).toInt = 0)) := F5r19
    replace F6r19 : ((I_20 3).toInt ≤ (I21 3).toInt) := F6r19
    replace hvI : InvI Wm_lo Wm_hi I21 := hvI
    replace hvR : InvR Wm_rl R23 := hvR
    replace tIr19 : SmF ([2, 3, 4, 5, 6, 7] : List Nat) I_20 I21 := tIr19
    replace tRr19 : SmF ([] : List Nat) R_20 R23 := tRr19
    have hv_I21 := hvI
    have hsI := smF_tr hsI tIr19 (by decide)
    have hsR := smF_tr hsR tRr19 (by decide)
    have u_I21_1 : (I21 1).toInt = (I_20 1).toInt := congrArg Int32.toInt (tIr19 1 rfl)
    have w_I21_2 := rg (hvI 2 (by decide)) (0) (3) rfl rfl
    have w_I21_3 := rg (hvI 3 (by decide)) (0) (1800) rfl rfl
    have w_I21_4 := rg (hvI 4 (by decide)) (0) (1800) rfl rfl
    have w_I21_6 := rg (hvI 6 (by decide)) (0) (5) rfl rfl
    have u_I21_12 : (I21 12).toInt = (I_20 12).toInt := congrArg Int32.toInt (tIr19 12 rfl)
    have nr19_0 : ((I21 3).toInt ≤ (I21 4).toInt) := by omega
    have nr19_1 : ((I21 4).toInt ≤ (I0 1).toInt) := by omega
    have nr19_2 : ((¬ (I21 2).toInt = 0) → (I21 3).toInt < (I21 4).toInt) := by omega
    have nr19_3 : ((¬ (I0 6).toInt = 0) → (¬ (I21 6).toInt = 0)) := by omega
    have nr19_4 : ((I0 3).toInt ≤ (I21 3).toInt) := by omega
    clear z4_20 z5_20 z6_20 z7_20 z8_20 F2r19 F3r19 F4r19 F5r19 F6r19
    refine lv_if_ne (tgt := 27) hx hb dX12_tie_23 (by decide) (fun c25 => ?_) (fun c25 => ?_)
    · have gc25 : ¬ (r19.toInt = 0) := fun q0 => c25 (Int32.toInt_inj.mp q0)
      refine lv_bipush (v := 30) hx hb dX12_tie_27 (by decide) ?_
      refine lv_aload_n hx hb dX12_tie_29 rfl (lv_at hl 0 rfl) ?_
      refine g_get F hK hP 0 (Wm_at0 G g q I21 J22 R23 L24) clX12 44 (by decide) flX12_146 rfl dX12_tie_30 ?_
      refine cst_i (hsI 12 rfl) ?_
      have w_I0_12 := rg (hvI0 12 (by decide)) (0) (1) rfl rfl
      refine lv_imul hx hb dX12_tie_33 ?_
      refine lv_topi (fun x26 ex26 => ?_)
      have fx26 : x26.toInt = 30 * (I0 12).toInt := by rw [ex26]; exact t_mul (by show (-2147483648 : Int) ≤ 30 * (I0 12).toInt; omega) (by show 30 * (I0 12).toInt ≤ 2147483647; omega)
      refine lv_aload_n hx hb dX12_tie_34 rfl (lv_at hl 0 rfl) ?_
      refine g_get F hK hP 0 (Wm_at0 G g q I21 J22 R23 L24) clX12 30 (by decide) flX12_104 rfl dX12_tie_35 ?_
      refine lv_aload_n hx hb dX12_tie_38 rfl (lv_at hl 0 rfl) ?_
      refine g_get F hK hP 0 (Wm_at0 G g q I21 J22 R23 L24) clX12 44 (by decide) flX12_146 rfl dX12_tie_39 ?_
      refine cst_i (hsI 12 rfl) ?_
      refine g_iald F hK hP 19 (Wm_at19 G g q I21 J22 R23 L24) (in_of (by omega)) dX12_tie_42 rfl ?_
      refine lv_topi (fun x27 ex27 => ?_)
      have gx27 : x27.toInt = (R_20 15 (Int32.toNatClampNeg (I0 12))).toInt := congrArg Int32.toInt ((ex27).trans (congrFun (tRr19 15 rfl) _))
      have fx27 : ((0 : Int) ≤ x27.toInt ∧ x27.toInt ≤ (30 : Int)) := by rw [ex27]; exact hvR 15 (by decide) _ (clamp_lt (n := 2) (in_of (by omega)))
      refine lv_iadd hx hb dX12_tie_43 ?_
      refine lv_topi (fun x28 ex28 => ?_)
      have fx28 : x28.toInt = x26.toInt + x27.toInt := by rw [ex28]; exact t_add (by show (-2147483648 : Int) ≤ x26.toInt + x27.toInt; omega) (by show x26.toInt + x27.toInt ≤ 2147483647; omega)
      refine lv_istore_n (lv' := [(1, .int x28), (0, .ref (g 45))]) hx hb dX12_tie_44 rfl hl (by decide) rfl (fun ls hl => ?_)
      refine lv_aload_n hx hb dX12_tie_45 rfl (lv_at hl 1 rfl) ?_
      refine g_get F hK hP 0 (Wm_at0 G g q I21 J22 R23 L24) clX12 31 (by decide) flX12_107 rfl dX12_tie_46 ?_
      refine lv_iload_n hx hb dX12_tie_49 rfl (lv_at hl 0 rfl) ?_
      refine lv_aload_n hx hb dX12_tie_50 rfl (lv_at hl 1 rfl) ?_
      refine lv_iconst (v := 2) hx hb dX12_tie_51 (by decide) ?_
      refine wvi (As := [.int 2]) (rest := [.int x28, .ref (g 19)]) (b := (g 45)) (d := 3) F hK hP hD hS hA (s_X12_asked l G g q I21 J22 R23 L24 hvI hvR  2 (by decide) (by omega) (by omega) (by omega)) kmV_X12_asked mlX12_374 clX12 rfl 0 (Wm_at0 G g q I21 J22 R23 L24) ⟨(Nat.le_of_ble_eq_true rfl), (Nat.le_of_ble_eq_true rfl)⟩ hl.1 rfl (Nat.le_of_ble_eq_true rfl) dX12_tie_52 (fun r29 u30 H locs hwr29 hP hD hS => ?_)
      obtain ⟨I31, J32, R33, L34⟩ := u30
      replace hP : va_P G.1 vwCl (Wm G g q I31 J32 R33 L34) H := hP
      replace hD : va_D A (Wm G g q I31 J32 R33 L34) := hD
      obtain ⟨hvI, hvR, tIr29, tRr29, F0r29, F1r29, F2r29, F3r29, F4r29, F5r29, F6r29, F7r29⟩ := hwr29
      replace F0r29 : ((0 : Int) ≤ r29.toInt ∧ r29.toInt ≤ (11 : Int)) := F0r29
      replace F1r29 : ((2 : Int) = 0 → r29.toInt ≤ 4) := F1r29
      replace F2r29 : ((2 : Int) = 1 → r29.toInt ≤ 5) := F2r29
      replace F3r29 : ((I31 3).toInt ≤ (I31 4).toInt) := F3r29
      replace F4r29 : ((I31 4).toInt ≤ (I21 1).toInt) := F4r29
      replace F5r29 : ((¬ (I31 2).toInt = 0) → (I31 3).toInt < (I31 4).toInt) := F5r29
      replace F6r29 : ((¬ (I21 6).toInt = 0) → (¬ (I31 6).toInt = 0)) := F6r29
      replace F7r29 : ((I21 3).toInt ≤ (I31 3).toInt) := F7r29
      replace hvI : InvI Wm_lo Wm_hi I31 := hvI
      replace hvR : InvR Wm_rl R33 := hvR
      replace tIr29 : SmF ([2, 3, 4, 5, 6, 7] : List Nat) I21 I31 := tIr29
      replace tRr29 : SmF ([] : List Nat) R23 R33 := tRr29
      have hv_I31 := hvI
      have hsI := smF_tr hsI tIr29 (by decide)
      have hsR := smF_tr hsR tRr29 (by decide)
      have u_I31_1 : (I31 1).toInt = (I21 1).toInt := congrArg Int32.toInt (tIr29 1 rfl)
      have w_I31_2 := rg (hvI 2 (by decide)) (0) (3) rfl rfl
      have w_I31_3 := rg (hvI 3 (by decide)) (0) (1800) rfl rfl
      have w_I31_4 := rg (hvI 4 (by decide)) (0) (1800) rfl rfl
      have w_I31_6 := rg (hvI 6 (by decide)) (0) (5) rfl rfl
      have u_I31_12 : (I31 12).toInt = (I21 12).toInt := congrArg Int32.toInt (tIr29 12 rfl)
      have nr29_0 : ((I31 3).toInt ≤ (I31 4).toInt) := by omega
      have nr29_1 : ((I31 4).toInt ≤ (I0 1).toInt) := by omega
      have nr29_2 : ((¬ (I31 2).toInt = 0) → (I31 3).toInt < (I31 4).toInt) := by omega
      have nr29_3 : ((¬ (I0 6).toInt = 0) → (¬ (I31 6).toInt = 0)) := by omega
      have nr29_4 : ((I0 3).toInt ≤ (I31 3).toInt) := by omega
      have nr29_5 : ((I0 4).toInt ≤ (I31 3).toInt) := by omega
      clear nr19_0 nr19_1 nr19_2 nr19_3 nr19_4 F3r29 F4r29 F5r29 F6r29 F7r29
      refine p_row (W1 := fun y => Wm G g q I31 J32 y L34) (n := 16) F hK hP hD hS 20 (Wm_at20 G g q I31 J32 R33 L34) (in_of (by omega)) dX12_tie_55 (Wm_rowR16 G g q I31 J32 R33 L34) (fun R35 H locs eR35 hP hD hS => ?_)
      have hvR : InvR Wm_rl R35 := inv_upR hvR 16 eR35 (upd_in (hvR 16 (by decide)) (show ((0 : Int) ≤ r29.toInt ∧ r29.toInt ≤ (11 : Int)) from by omega))
      have hsR := smF_up hsR eR35 (by decide)
      refine lv_aload_n hx hb dX12_tie_56 rfl (lv_at hl 1 rfl) ?_
      refine g_get F hK hP 0 (Wm_at0 G g q I31 J32 R35 L34) clX12 8 (by decide) flX12_36 rfl dX12_tie_57 ?_
      have w_I31_6 := rg (hv_I31 6 (by decide)) (0) (5) rfl rfl
      refine lv_if_ne (tgt := 109) hx hb dX12_tie_60 (by decide) (fun c36 => ?_) (fun c36 => ?_)
      · have gc36 : ¬ ((I31 6).toInt = 0) := fun q0 => c36 (Int32.toInt_inj.mp q0)
        have t_z37 : (R35 15 (Int32.toNatClampNeg (I0 12))).toInt = (R_20 15 (Int32.toNatClampNeg (I0 12))).toInt := congrArg Int32.toInt ((((congrFun (up_ne (j := 15) eR35 (by decide)) _).trans (congrFun (tRr29 15 rfl) _)).trans (congrFun (tRr19 15 rfl) _)))
        exact lab_109 x28 I31 J32 R35 L34 _ _ _ hvI hvR hsI hsR (show ((0 : Int) ≤ x28.toInt ∧ x28.toInt ≤ (59 : Int)) from by omega) (show ((I0 4).toInt ≤ (I31 3).toInt) from by omega) (show ((R35 15 (Int32.toNatClampNeg (I0 12))).toInt ≤ 29) from by omega) (show ((I31 3).toInt ≤ (I31 4).toInt) from by omega) (show ((I31 4).toInt ≤ (I0 1).toInt) from by omega) (show ((¬ (I31 2).toInt = 0) → (I31 3).toInt < (I31 4).toInt) from by omega) (show ((¬ (I0 6).toInt = 0) → (¬ (I31 6).toInt = 0)) from by omega) (show ((I0 3).toInt ≤ (I31 3).toInt) from by omega) hP hD hS (lv_sub hl [1, 0] rfl)
      · have gc36 : (I31 6).toInt = 0 := congrArg Int32.toInt c36
        refine lv_aload_n hx hb dX12_tie_63 rfl (lv_at hl 1 rfl) ?_
        refine g_get F hK hP 0 (Wm_at0 G g q I31 J32 R35 L34) clX12 3 (by decide) flX12_20 rfl dX12_tie_64 ?_
        have w_I31_2 := rg (hv_I31 2 (by decide)) (0) (3) rfl rfl
        refine lv_iconst (v := 1) hx hb dX12_tie_67 (by decide) ?_
        refine lv_icmp_ne (tgt := 109) hx hb dX12_tie_68 (by decide) (fun c38 => ?_) (fun c38 => ?_)
        · have gc38 : ¬ ((I31 2).toInt = 1) := fun q0 => c38 (Int32.toInt_inj.mp q0)
          have t_z39 : (R35 15 (Int32.toNatClampNeg (I0 12))).toInt = (R_20 15 (Int32.toNatClampNeg (I0 12))).toInt := congrArg Int32.toInt ((((congrFun (up_ne (j := 15) eR35 (by decide)) _).trans (congrFun (tRr29 15 rfl) _)).trans (congrFun (tRr19 15 rfl) _)))
          exact lab_109 x28 I31 J32 R35 L34 _ _ _ hvI hvR hsI hsR (show ((0 : Int) ≤ x28.toInt ∧ x28.toInt ≤ (59 : Int)) from by omega) (show ((I0 4).toInt ≤ (I31 3).toInt) from by omega) (show ((R35 15 (Int32.toNatClampNeg (I0 12))).toInt ≤ 29) from by omega) (show ((I31 3).toInt ≤ (I31 4).toInt) from by omega) (show ((I31 4).toInt ≤ (I0 1).toInt) from by omega) (show ((¬ (I31 2).toInt = 0) → (I31 3).toInt < (I31 4).toInt) from by omega) (show ((¬ (I0 6).toInt = 0) → (¬ (I31 6).toInt = 0)) from by omega) (show ((I0 3).toInt ≤ (I31 3).toInt) from by omega) hP hD hS (lv_sub hl [1, 0] rfl)
        · have gc38 : (I31 2).toInt = 1 := congrArg Int32.toInt c38
          refine lv_aload_n hx hb dX12_tie_71 rfl (lv_at hl 1 rfl) ?_
          refine lv_aload_n hx hb dX12_tie_72 rfl (lv_at hl 1 rfl) ?_
          refine g_get F hK hP 0 (Wm_at0 G g q I31 J32 R35 L34) clX12 7 (by decide) flX12_32 rfl dX12_tie_73 ?_
          refine wvi (As := [.long (J32 0)]) (rest := []) (b := (g 45)) (d := 1) F hK hP hD hS hA (s_X12_isOwn l G g q I31 J32 R35 L34 hvI hvR  ((J32 0)) ) kmV_X12_isOwn mlX12_351 clX12 rfl 0 (Wm_at0 G g q I31 J32 R35 L34) ⟨(Nat.le_of_ble_eq_true rfl), (Nat.le_of_ble_eq_true rfl)⟩ hl.1 rfl (Nat.le_of_ble_eq_true rfl) dX12_tie_76 (fun r40 u41 H locs hwr40 hP hD hS => ?_)
          have F0r40 := hwr40
          replace F0r40 : ((0 : Int) ≤ r40.toInt ∧ r40.toInt ≤ (1 : Int)) := F0r40
          refine lv_if_ne (tgt := 109) hx hb dX12_tie_79 (by decide) (fun c42 => ?_) (fun c42 => ?_)
          · have gc42 : ¬ (r40.toInt = 0) := fun q0 => c42 (Int32.toInt_inj.mp q0)
            have t_z43 : (R35 15 (Int32.toNatClampNeg (I0 12))).toInt = (R_20 15 (Int32.toNatClampNeg (I0 12))).toInt := congrArg Int32.toInt ((((congrFun (up_ne (j := 15) eR35 (by decide)) _).trans (congrFun (tRr29 15 rfl) _)).trans (congrFun (tRr19 15 rfl) _)))
            exact lab_109 x28 I31 J32 R35 L34 _ _ _ hvI hvR hsI hsR (show ((0 : Int) ≤ x28.toInt ∧ x28.toInt ≤ (59 : Int)) from by omega) (show ((I0 4).toInt ≤ (I31 3).toInt) from by omega) (show ((R35 15 (Int32.toNatClampNeg (I0 12))).toInt ≤ 29) from by omega) (show ((I31 3).toInt ≤ (I31 4).toInt) from by omega) (show ((I31 4).toInt ≤ (I0 1).toInt) from by omega) (show ((¬ (I31 2).toInt = 0) → (I31 3).toInt < (I31 4).toInt) from by omega) (show ((¬ (I0 6).toInt = 0) → (¬ (I31 6).toInt = 0)) from by omega) (show ((I0 3).toInt ≤ (I31 3).toInt) from by omega) hP hD hS (lv_sub hl [1, 0] rfl)
          · have gc42 : r40.toInt = 0 := congrArg Int32.toInt c42
            refine lv_aload_n hx hb dX12_tie_82 rfl (lv_at hl 1 rfl) ?_
            refine lv_iconst (v := 2) hx hb dX12_tie_83 (by decide) ?_
            refine lv_aload_n hx hb dX12_tie_84 rfl (lv_at hl 1 rfl) ?_
            refine g_get F hK hP 0 (Wm_at0 G g q I31 J32 R35 L34) clX12 7 (by decide) flX12_32 rfl dX12_tie_85 ?_
            refine wvi (As := [.int 2, .long (J32 0)]) (rest := []) (b := (g 45)) (d := 1) F hK hP hD hS hA (s_X12_named l G g q I31 J32 R35 L34 hvI hvR  2 ((J32 0)) (by decide)) kmV_X12_named mlX12_354 clX12 rfl 0 (Wm_at0 G g q I31 J32 R35 L34) ⟨(Nat.le_of_ble_eq_true rfl), (Nat.le_of_ble_eq_true rfl)⟩ hl.1 rfl (Nat.le_of_ble_eq_true rfl) dX12_tie_88 (fun r44 u45 H locs hwr44 hP hD hS => ?_)
            obtain ⟨F0r44, F1r44, F2r44⟩ := hwr44
            replace F0r44 : ((-1 : Int) ≤ r44.toInt ∧ r44.toInt ≤ (11 : Int)) := F0r44
            replace F1r44 : ((2 : Int) = 0 → r44.toInt ≤ 4) := F1r44
            replace F2r44 : ((2 : Int) = 1 → r44.toInt ≤ 5) := F2r44
            refine lv_aload_n hx hb dX12_tie_91 rfl (lv_at hl 1 rfl) ?_
            refine g_get F hK hP 0 (Wm_at0 G g q I31 J32 R35 L34) clX12 31 (by decide) flX12_107 rfl dX12_tie_92 ?_
            refine lv_iload_n hx hb dX12_tie_95 rfl (lv_at hl 0 rfl) ?_
            refine g_iald F hK hP 20 (Wm_at20 G g q I31 J32 R35 L34) (in_of (by omega)) dX12_tie_96 rfl ?_
            refine lv_topi (fun x46 ex46 => ?_)
            have gx46 : x46.toInt = (R35 16 (Int32.toNatClampNeg x28)).toInt := congrArg Int32.toInt (ex46)
            have fx46 : ((0 : Int) ≤ x46.toInt ∧ x46.toInt ≤ (11 : Int)) := by rw [ex46]; exact hvR 16 (by decide) _ (clamp_lt (n := 60) (in_of (by omega)))
            refine lv_icmp_ne (tgt := 109) hx hb dX12_tie_97 (by decide) (fun c47 => ?_) (fun c47 => ?_)
            · have gc47 : ¬ (r44.toInt = x46.toInt) := fun q0 => c47 (Int32.toInt_inj.mp q0)
              have t_z48 : (R35 15 (Int32.toNatClampNeg (I0 12))).toInt = (R_20 15 (Int32.toNatClampNeg (I0 12))).toInt := congrArg Int32.toInt ((((congrFun (up_ne (j := 15) eR35 (by decide)) _).trans (congrFun (tRr29 15 rfl) _)).trans (congrFun (tRr19 15 rfl) _)))
              exact lab_109 x28 I31 J32 R35 L34 _ _ _ hvI hvR hsI hsR (show ((0 : Int) ≤ x28.toInt ∧ x28.toInt ≤ (59 : Int)) from by omega) (show ((I0 4).toInt ≤ (I31 3).toInt) from by omega) (show ((R35 15 (Int32.toNatClampNeg (I0 12))).toInt ≤ 29) from by omega) (show ((I31 3).toInt ≤ (I31 4).toInt) from by omega) (show ((I31 4).toInt ≤ (I0 1).toInt) from by omega) (show ((¬ (I31 2).toInt = 0) → (I31 3).toInt < (I31 4).toInt) from by omega) (show ((¬ (I0 6).toInt = 0) → (¬ (I31 6).toInt = 0)) from by omega) (show ((I0 3).toInt ≤ (I31 3).toInt) from by omega) hP hD hS (lv_sub hl [1, 0] rfl)
            · have gc47 : r44.toInt = x46.toInt := congrArg Int32.toInt c47
              refine lv_aload_n hx hb dX12_tie_100 rfl (lv_at hl 1 rfl) ?_
              refine lv_iconst (v := 3) hx hb dX12_tie_101 (by decide) ?_
              refine lv_aload_n hx hb dX12_tie_102 rfl (lv_at hl 1 rfl) ?_
              refine g_get F hK hP 0 (Wm_at0 G g q I31 J32 R35 L34) clX12 4 (by decide) flX12_23 rfl dX12_tie_103 ?_
              have w_I31_3 := rg (hv_I31 3 (by decide)) (0) (1800) rfl rfl
              refine wvv (As := [.int 3, .int (I31 3)]) (rest := []) (b := (g 45)) (d := 1) F hK hP hD hS hA (s_X12_blame l G g q I31 J32 R35 L34 hvI hvR  3 ((I31 3)) (by decide) (show ((0 : Int) ≤ (I31 3).toInt ∧ (I31 3).toInt ≤ (1800 : Int)) from by omega)) kmV_X12_blame mlX12_240 clX12 rfl 0 (Wm_at0 G g q I31 J32 R35 L34) ⟨(Nat.le_of_ble_eq_true rfl), (Nat.le_of_ble_eq_true rfl)⟩ hl.1 rfl (Nat.le_of_ble_eq_true rfl) dX12_tie_106 (fun u50 H locs hwr49 hP hD hS => ?_)
              obtain ⟨I51, J52, R53, L54⟩ := u50
              replace hP : va_P G.1 vwCl (Wm G g q I51 J52 R53 L54) H := hP
              replace hD : va_D A (Wm G g q I51 J52 R53 L54) := hD
              obtain ⟨hvI, hvR, tIr49, tRr49, F0r49⟩ := hwr49
              replace F0r49 : (¬ (I51 6).toInt = 0) := F0r49
              replace hvI : InvI Wm_lo Wm_hi I51 := hvI
              replace hvR : InvR Wm_rl R53 := hvR
              replace tIr49 : SmF ([6, 7] : List Nat) I31 I51 := tIr49
              replace tRr49 : SmF ([] : List Nat) R35 R53 := tRr49
              have hv_I51 := hvI
              have hsI := smF_tr hsI tIr49 (by decide)
              have hsR := smF_tr hsR tRr49 (by decide)
              have u_I51_1 : (I51 1).toInt = (I31 1).toInt := congrArg Int32.toInt (tIr49 1 rfl)
              have u_I51_2 : (I51 2).toInt = (I31 2).toInt := congrArg Int32.toInt (tIr49 2 rfl)
              have u_I51_3 : (I51 3).toInt = (I31 3).toInt := congrArg Int32.toInt (tIr49 3 rfl)
              have u_I51_4 : (I51 4).toInt = (I31 4).toInt := congrArg Int32.toInt (tIr49 4 rfl)
              have w_I51_6 := rg (hvI 6 (by decide)) (0) (5) rfl rfl
              have u_I51_12 : (I51 12).toInt = (I31 12).toInt := congrArg Int32.toInt (tIr49 12 rfl)
              have nr49_0 : ((I51 3).toInt ≤ (I51 4).toInt) := by omega
              have nr49_1 : ((I51 4).toInt ≤ (I0 1).toInt) := by omega
              have nr49_2 : ((¬ (I51 2).toInt = 0) → (I51 3).toInt < (I51 4).toInt) := by omega
              have nr49_3 : ((¬ (I0 6).toInt = 0) → (¬ (I51 6).toInt = 0)) := by omega
              have nr49_4 : ((I0 3).toInt ≤ (I51 3).toInt) := by omega
              have nr49_5 : ((I0 4).toInt ≤ (I51 3).toInt) := by omega
              clear nr29_0 nr29_1 nr29_2 nr29_3 nr29_4 nr29_5
              have t_z55 : (R53 15 (Int32.toNatClampNeg (I0 12))).toInt = (R_20 15 (Int32.toNatClampNeg (I0 12))).toInt := congrArg Int32.toInt (((((congrFun (tRr49 15 rfl) _).trans (congrFun (up_ne (j := 15) eR35 (by decide)) _)).trans (congrFun (tRr29 15 rfl) _)).trans (congrFun (tRr19 15 rfl) _)))
              exact lab_109 x28 I51 J52 R53 L54 _ _ _ hvI hvR hsI hsR (show ((0 : Int) ≤ x28.toInt ∧ x28.toInt ≤ (59 : Int)) from by omega) (show ((I0 4).toInt ≤ (I51 3).toInt) from by omega) (show ((R53 15 (Int32.toNatClampNeg (I0 12))).toInt ≤ 29) from by omega) (show ((I51 3).toInt ≤ (I51 4).toInt) from by omega) (show ((I51 4).toInt ≤ (I0 1).toInt) from by omega) (show ((¬ (I51 2).toInt = 0) → (I51 3).toInt < (I51 4).toInt) from by omega) (show ((¬ (I0 6).toInt = 0) → (¬ (I51 6).toInt = 0)) from by omega) (show ((I0 3).toInt ≤ (I51 3).toInt) from by omega) hP hD hS (lv_sub hl [1, 0] rfl)
    · have gc25 : r19.toInt = 0 := congrArg Int32.toInt c25
      rw [hQ]
      exact q_v F hr hlk (I21, J22, R23, L24) hP hD hS ⟨hvI, hvR, hsI, hsR, (show (((I21 6).toInt = 0 ∧ ¬ (I0 2).toInt = 0) → (I0 3).toInt < (I21 3).toInt) from by omega), (show ((I21 3).toInt ≤ (I21 4).toInt) from by omega), (show ((I21 4).toInt ≤ (I0 1).toInt) from by omega), (show ((¬ (I21 2).toInt = 0) → (I21 3).toInt < (I21 4).toInt) from by omega), (show ((¬ (I0 6).toInt = 0) → (¬ (I21 6).toInt = 0)) from by omega), (show ((I0 3).toInt ≤ (I21 3).toInt) from by omega)⟩ dX12_tie_26 (Nat.le_of_ble_eq_true rfl) (Nat.le_of_ble_eq_true rfl)
  have w_I0_1 := rg (hvI 1 (by decide)) (0) (1800) rfl rfl
  have w_I0_2 := rg (hvI 2 (by decide)) (0) (3) rfl rfl
  have w_I0_3 := rg (hvI 3 (by decide)) (0) (1800) rfl rfl
  have w_I0_4 := rg (hvI 4 (by decide)) (0) (1800) rfl rfl
  have w_I0_6 := rg (hvI 6 (by decide)) (0) (5) rfl rfl
  have w_I0_12 := rg (hvI 12 (by decide)) (0) (1) rfl rfl
  refine lv_aload_n hx hb dX12_tie_0 rfl (lv_at hl 0 rfl) ?_
  refine lv_aload_n hx hb dX12_tie_1 rfl (lv_at hl 0 rfl) ?_
  refine g_get F hK hP 0 (Wm_at0 G g q I0 J0 R0 L0) clX12 30 (by decide) flX12_104 rfl dX12_tie_2 ?_
  refine lv_aload_n hx hb dX12_tie_5 rfl (lv_at hl 0 rfl) ?_
  refine g_get F hK hP 0 (Wm_at0 G g q I0 J0 R0 L0) clX12 44 (by decide) flX12_146 rfl dX12_tie_6 ?_
  have w_I0_12 := rg (hvI0 12 (by decide)) (0) (1) rfl rfl
  refine g_iald F hK hP 19 (Wm_at19 G g q I0 J0 R0 L0) (in_of (by omega)) dX12_tie_9 rfl ?_
  refine lv_topi (fun x56 ex56 => ?_)
  have gx56 : x56.toInt = (R0 15 (Int32.toNatClampNeg (I0 12))).toInt := congrArg Int32.toInt (ex56)
  have fx56 : ((0 : Int) ≤ x56.toInt ∧ x56.toInt ≤ (30 : Int)) := by rw [ex56]; exact hvR 15 (by decide) _ (clamp_lt (n := 2) (in_of (by omega)))
  refine lv_bipush (v := 30) hx hb dX12_tie_10 (by decide) ?_
  refine lv_icmp_ne (tgt := 19) hx hb dX12_tie_12 (by decide) (fun c57 => ?_) (fun c57 => ?_)
  · have gc57 : ¬ (x56.toInt = 30) := fun q0 => c57 (Int32.toInt_inj.mp q0)
    refine lv_iconst (v := 0) hx hb dX12_tie_19 (by decide) ?_
    exact lab_20 0 I0 J0 R0 L0 _ _ _ hvI hvR hsI hsR (by decide) (show (0 = 0 → (R0 15 (Int32.toNatClampNeg (I0 12))).toInt ≤ 29) from by omega) (show ((I0 2).toInt = (I0 2).toInt) from by omega) (show ((I0 4).toInt = (I0 4).toInt) from by omega) (show ((I0 3).toInt = (I0 3).toInt) from by omega) (show ((I0 3).toInt ≤ (I0 4).toInt) from by omega) (show ((I0 4).toInt ≤ (I0 1).toInt) from by omega) (show ((¬ (I0 2).toInt = 0) → (I0 3).toInt < (I0 4).toInt) from by omega) (show ((¬ (I0 6).toInt = 0) → (¬ (I0 6).toInt = 0)) from by omega) (show ((I0 3).toInt ≤ (I0 3).toInt) from by omega) hP hD hS (lv_sub hl [0] rfl)
  · have gc57 : x56.toInt = 30 := congrArg Int32.toInt c57
    refine lv_iconst (v := 1) hx hb dX12_tie_15 (by decide) ?_
    refine lv_goto (tgt := 20) hx hb dX12_tie_16 (by decide) ?_
    exact lab_20 1 I0 J0 R0 L0 _ _ _ hvI hvR hsI hsR (by decide) (show (1 = 0 → (R0 15 (Int32.toNatClampNeg (I0 12))).toInt ≤ 29) from by omega) (show ((I0 2).toInt = (I0 2).toInt) from by omega) (show ((I0 4).toInt = (I0 4).toInt) from by omega) (show ((I0 3).toInt = (I0 3).toInt) from by omega) (show ((I0 3).toInt ≤ (I0 4).toInt) from by omega) (show ((I0 4).toInt ≤ (I0 1).toInt) from by omega) (show ((¬ (I0 2).toInt = 0) → (I0 3).toInt < (I0 4).toInt) from by omega) (show ((¬ (I0 6).toInt = 0) → (¬ (I0 6).toInt = 0)) from by omega) (show ((I0 3).toInt ≤ (I0 3).toInt) from by omega) hP hD hS (lv_sub hl [0] rfl)
