set_option maxHeartbeats 4000000 in
set_option maxRecDepth 100000 in
theorem s_X12_ahead (l : Launch) (G : Gx) (g q : Nat → Nat) (I0 : Nat → Int32) (J0 : Nat → Int64) (R0 : Nat → Nat → Int32) (L0 : Nat → Nat → Int64) (hvI : InvI Wm_lo Wm_hi I0) (hvR : InvR Wm_rl R0)   (hpre0 : ((I0 3).toInt ≤ (I0 4).toInt)) (hpre1 : ((I0 4).toInt ≤ (I0 1).toInt)) (hpre2 : ((¬ (I0 2).toInt = 0) → (I0 3).toInt < (I0 4).toInt)) : CtV (S := St) l yX12_ahead cX12_ahead 6 none (rmD 2 0 0) G [.ref (g 45)] (Wm G g q I0 J0 R0 L0) (fun u => InvI Wm_lo Wm_hi u.1 ∧ InvR Wm_rl u.2.2.1 ∧ SmF ([2, 3, 4, 5, 6, 7] : List Nat) I0 u.1 ∧ SmF ([] : List Nat) R0 u.2.2.1 ∧ ((I0 4).toInt ≤ (u.1 3).toInt) ∧ ((u.1 3).toInt ≤ (u.1 4).toInt) ∧ ((u.1 4).toInt ≤ (I0 1).toInt) ∧ ((¬ (u.1 2).toInt = 0) → (u.1 3).toInt < (u.1 4).toInt) ∧ ((¬ (I0 6).toInt = 0) → (¬ (u.1 6).toInt = 0)) ∧ ((I0 3).toInt ≤ (u.1 3).toInt)) (fun u => Wm G g q u.1 u.2.1 u.2.2.1 u.2.2.2) := by
  refine ctV_of (own := RX12) (by decide +kernel) rfl (Nat.le_of_ble_eq_true rfl) ?_
  intro p e s m below meth c A ls F hr hlk hnm hK hP hD hA hS hl
  have hx := F.1
  have hb := F.2.1
  have hown := F.2.2.2.1
  have hl : lv_has ls 6 [(0, .ref (g 45))] := hl
  obtain ⟨Q, hQ⟩ : ∃ Q : State → Prop, Q = MQ below (va_Qv (S := St) (fun u => InvI Wm_lo Wm_hi u.1 ∧ InvR Wm_rl u.2.2.1 ∧ SmF ([2, 3, 4, 5, 6, 7] : List Nat) I0 u.1 ∧ SmF ([] : List Nat) R0 u.2.2.1 ∧ ((I0 4).toInt ≤ (u.1 3).toInt) ∧ ((u.1 3).toInt ≤ (u.1 4).toInt) ∧ ((u.1 4).toInt ≤ (I0 1).toInt) ∧ ((¬ (u.1 2).toInt = 0) → (u.1 3).toInt < (u.1 4).toInt) ∧ ((¬ (I0 6).toInt = 0) → (¬ (u.1 6).toInt = 0)) ∧ ((I0 3).toInt ≤ (u.1 3).toInt)) (BX G A (fun u => Wm G g q u.1 u.2.1 u.2.2.1 u.2.2.2)) A) [.ref (g 45)].toArray s 0 0 A := ⟨_, rfl⟩
  rw [show (MQ below (va_Qv (S := St) (fun u => InvI Wm_lo Wm_hi u.1 ∧ InvR Wm_rl u.2.2.1 ∧ SmF ([2, 3, 4, 5, 6, 7] : List Nat) I0 u.1 ∧ SmF ([] : List Nat) R0 u.2.2.1 ∧ ((I0 4).toInt ≤ (u.1 3).toInt) ∧ ((u.1 3).toInt ≤ (u.1 4).toInt) ∧ ((u.1 4).toInt ≤ (I0 1).toInt) ∧ ((¬ (u.1 2).toInt = 0) → (u.1 3).toInt < (u.1 4).toInt) ∧ ((¬ (I0 6).toInt = 0) → (¬ (u.1 6).toInt = 0)) ∧ ((I0 3).toInt ≤ (u.1 3).toInt)) (BX G A (fun u => Wm G g q u.1 u.2.1 u.2.2.1 u.2.2.2)) A) [.ref (g 45)].toArray s (rmD 2 0 0).cells (rmD 2 0 0).slots A) = Q from hQ.symm]
  have hsI := smF_rf ([2, 3, 4, 5, 6, 7] : List Nat) I0
  have hsR := smF_rf ([] : List Nat) R0
  have hvI0 := hvI
  have lab_323 : ∀ (a1_323 : Int32) (I_323 : Nat → Int32) (J_323 : Nat → Int64) (R_323 : Nat → Nat → Int32) (L_323 : Nat → Nat → Int64) (H : Heap) (locs : List Loc) (ls : Array Slot), InvI Wm_lo Wm_hi I_323 → InvR Wm_rl R_323 → SmF ([2, 3, 4, 5, 6, 7] : List Nat) I0 I_323 → SmF ([] : List Nat) R0 R_323 → ((0 : Int) ≤ a1_323.toInt ∧ a1_323.toInt ≤ (1800 : Int)) → ((I_323 3).toInt < a1_323.toInt) → (a1_323.toInt ≤ (I0 1).toInt) → ((I0 4).toInt ≤ (I_323 3).toInt) → ((I_323 3).toInt ≤ (I_323 4).toInt) → ((I_323 4).toInt ≤ (I0 1).toInt) → ((¬ (I_323 2).toInt = 0) → (I_323 3).toInt < (I_323 4).toInt) → ((¬ (I0 6).toInt = 0) → (¬ (I_323 6).toInt = 0)) → ((I0 3).toInt ≤ (I_323 3).toInt) → va_P G.1 vwCl (Wm G g q I_323 J_323 R_323 L_323) H → va_D A (Wm G g q I_323 J_323 R_323 L_323) → va_S A s.heap H locs → lv_has ls 6 [(0, .ref (g 45)), (1, .int a1_323)] → W p l e (rmD 2 0 0) s m [.ref (g 45)].toArray below meth c H locs 0 0 Q (F0 m 323 ls []) := by
    intro a1_323 I_323 J_323 R_323 L_323 H locs ls hvI hvR hsI hsR y0_323 z0_323 z1_323 z2_323 z3_323 z4_323 z5_323 z6_323 z7_323 hP hD hS hl
    have hv_I_323 := hvI
    have w_I_323_1 := rg (hvI 1 (by decide)) (0) (1800) rfl rfl
    have v_I_323_1 : (I_323 1).toInt = (I0 1).toInt := congrArg Int32.toInt (hsI 1 rfl)
    have w_I_323_2 := rg (hvI 2 (by decide)) (0) (3) rfl rfl
    have w_I_323_3 := rg (hvI 3 (by decide)) (0) (1800) rfl rfl
    have w_I_323_4 := rg (hvI 4 (by decide)) (0) (1800) rfl rfl
    have w_I_323_5 := rg (hvI 5 (by decide)) (0) (9999) rfl rfl
    have w_I_323_6 := rg (hvI 6 (by decide)) (0) (5) rfl rfl
    refine lv_aload_n hx hb dX12_ahead_323 rfl (lv_at hl 0 rfl) ?_
    refine lv_iload_n hx hb dX12_ahead_324 rfl (lv_at hl 1 rfl) ?_
    refine p_fld (W1 := fun y => Wm G g q y J_323 R_323 L_323) (n := 4) (v := a1_323) F hK hP hD hS 0 (Wm_at0 G g q I_323 J_323 R_323 L_323) clX12 5 (by decide) flX12_26 rfl rfl rfl (Nat.le_of_ble_eq_true rfl) dX12_ahead_325 (Wm_setI4 G g q I_323 J_323 R_323 L_323 _) (fun I1 H locs eI1 hP hD hS => ?_)
    have hvI : InvI Wm_lo Wm_hi I1 := inv_upI hvI 4 eI1 (show ((0 : Int) ≤ a1_323.toInt ∧ a1_323.toInt ≤ (1800 : Int)) from by omega)
    have hsI := smF_up hsI eI1 (by decide)
    have hv_I1 := hvI
    have u_I1_1 : (I1 1).toInt = (I_323 1).toInt := by rw [eI1]; rfl
    have u_I1_2 : (I1 2).toInt = (I_323 2).toInt := by rw [eI1]; rfl
    have u_I1_3 : (I1 3).toInt = (I_323 3).toInt := by rw [eI1]; rfl
    have u_I1_4 : (I1 4).toInt = a1_323.toInt := by rw [eI1]; rfl
    have u_I1_5 : (I1 5).toInt = (I_323 5).toInt := by rw [eI1]; rfl
    have u_I1_6 : (I1 6).toInt = (I_323 6).toInt := by rw [eI1]; rfl
    rw [hQ]
    exact q_v F hr hlk (I1, J_323, R_323, L_323) hP hD hS ⟨hvI, hvR, hsI, hsR, (show ((I0 4).toInt ≤ (I1 3).toInt) from by omega), (show ((I1 3).toInt ≤ (I1 4).toInt) from by omega), (show ((I1 4).toInt ≤ (I0 1).toInt) from by omega), (show ((¬ (I1 2).toInt = 0) → (I1 3).toInt < (I1 4).toInt) from by omega), (show ((¬ (I0 6).toInt = 0) → (¬ (I1 6).toInt = 0)) from by omega), (show ((I0 3).toInt ≤ (I1 3).toInt) from by omega)⟩ dX12_ahead_328 (Nat.le_of_ble_eq_true rfl) (Nat.le_of_ble_eq_true rfl)
  have lab_200 : ∀ (k_200 : Nat) (a1_200 : Int32) (a2_200 : Int32) (a3_200 : Int32) (a4_200 : Int32) (a5_200 : Int32) (I_200 : Nat → Int32) (J_200 : Nat → Int64) (R_200 : Nat → Nat → Int32) (L_200 : Nat → Nat → Int64) (H : Heap) (locs : List Loc) (ls : Array Slot), ((1800 - a1_200.toInt) < (k_200 : Int)) → InvI Wm_lo Wm_hi I_200 → InvR Wm_rl R_200 → SmF ([2, 3, 4, 5, 6, 7] : List Nat) I0 I_200 → SmF ([] : List Nat) R0 R_200 → ((0 : Int) ≤ a1_200.toInt ∧ a1_200.toInt ≤ (1800 : Int)) → ((0 : Int) ≤ a2_200.toInt ∧ a2_200.toInt ≤ (1 : Int)) → ((0 : Int) ≤ a3_200.toInt ∧ a3_200.toInt ≤ (1 : Int)) → ((4 : Int) ≤ a4_200.toInt ∧ a4_200.toInt ≤ (6 : Int)) → ((I_200 3).toInt ≤ a1_200.toInt) → ((I_200 4).toInt = (I_200 3).toInt + 1) → (a1_200.toInt ≤ (I0 1).toInt) → ((I0 4).toInt ≤ (I_200 3).toInt) → (a2_200.toInt + a3_200.toInt = 1) → (a3_200.toInt = 1 → a4_200.toInt = 4) → (a5_200.toInt = a1_200.toInt - (I_200 3).toInt) → (a3_200.toInt = 1 → ((a5_200.toInt = 0 → (I_200 5).toInt = 0) ∧ (a5_200.toInt ≤ 1 → (I_200 5).toInt ≤ 9) ∧ (a5_200.toInt ≤ 2 → (I_200 5).toInt ≤ 99) ∧ (a5_200.toInt ≤ 3 → (I_200 5).toInt ≤ 999))) → (a1_200.toInt = (I_200 3).toInt → ((a2_200.toInt = 1 → (97 ≤ (R0 0 (Int32.toNatClampNeg a1_200)).toInt ∧ (R0 0 (Int32.toNatClampNeg a1_200)).toInt ≤ 122)) ∧ (a3_200.toInt = 1 → (48 ≤ (R0 0 (Int32.toNatClampNeg a1_200)).toInt ∧ (R0 0 (Int32.toNatClampNeg a1_200)).toInt ≤ 57)))) → ((I_200 3).toInt ≤ (I_200 4).toInt) → ((I_200 4).toInt ≤ (I0 1).toInt) → ((¬ (I_200 2).toInt = 0) → (I_200 3).toInt < (I_200 4).toInt) → ((¬ (I0 6).toInt = 0) → (¬ (I_200 6).toInt = 0)) → ((I0 3).toInt ≤ (I_200 3).toInt) → va_P G.1 vwCl (Wm G g q I_200 J_200 R_200 L_200) H → va_D A (Wm G g q I_200 J_200 R_200 L_200) → va_S A s.heap H locs → lv_has ls 6 [(0, .ref (g 45)), (1, .int a1_200), (2, .int a2_200), (3, .int a3_200), (4, .int a4_200), (5, .int a5_200)] → W p l e (rmD 2 0 0) s m [.ref (g 45)].toArray below meth c H locs 0 0 Q (F0 m 200 ls []) := by
    intro k_200
    induction k_200 with
    | zero =>
      intro a1_200 a2_200 a3_200 a4_200 a5_200 I_200 J_200 R_200 L_200 H locs ls hm hvI hvR hsI hsR y0_200 y1_200 y2_200 y3_200 z0_200 z1_200 z2_200 z3_200 z4_200 z5_200 z6_200 z7_200 z8_200 z9_200 z10_200 z11_200 z12_200 z13_200 hP hD hS hl
      have hv_I_200 := hvI
      have w_I_200_1 := rg (hvI 1 (by decide)) (0) (1800) rfl rfl
      have v_I_200_1 : (I_200 1).toInt = (I0 1).toInt := congrArg Int32.toInt (hsI 1 rfl)
      have w_I_200_2 := rg (hvI 2 (by decide)) (0) (3) rfl rfl
      have w_I_200_3 := rg (hvI 3 (by decide)) (0) (1800) rfl rfl
      have w_I_200_4 := rg (hvI 4 (by decide)) (0) (1800) rfl rfl
      have w_I_200_5 := rg (hvI 5 (by decide)) (0) (9999) rfl rfl
      have w_I_200_6 := rg (hvI 6 (by decide)) (0) (5) rfl rfl
      exact absurd hm (by omega)
    | succ k_200 ih_200 =>
      intro a1_200 a2_200 a3_200 a4_200 a5_200 I_200 J_200 R_200 L_200 H locs ls hm hvI hvR hsI hsR y0_200 y1_200 y2_200 y3_200 z0_200 z1_200 z2_200 z3_200 z4_200 z5_200 z6_200 z7_200 z8_200 z9_200 z10_200 z11_200 z12_200 z13_200 hP hD hS hl
      have hv_I_200 := hvI
      have w_I_200_1 := rg (hvI 1 (by decide)) (0) (1800) rfl rfl
      have v_I_200_1 : (I_200 1).toInt = (I0 1).toInt := congrArg Int32.toInt (hsI 1 rfl)
      have w_I_200_2 := rg (hvI 2 (by decide)) (0) (3) rfl rfl
      have w_I_200_3 := rg (hvI 3 (by decide)) (0) (1800) rfl rfl
      have w_I_200_4 := rg (hvI 4 (by decide)) (0) (1800) rfl rfl
      have w_I_200_5 := rg (hvI 5 (by decide)) (0) (9999) rfl rfl
      have w_I_200_6 := rg (hvI 6 (by decide)) (0) (5) rfl rfl
      have lab_314 : ∀  (I_314 : Nat → Int32) (J_314 : Nat → Int64) (R_314 : Nat → Nat → Int32) (L_314 : Nat → Nat → Int64) (H : Heap) (locs : List Loc) (ls : Array Slot), InvI Wm_lo Wm_hi I_314 → InvR Wm_rl R_314 → SmF ([2, 3, 4, 5, 6, 7] : List Nat) I0 I_314 → SmF ([] : List Nat) R0 R_314 → ((0 : Int) ≤ a1_200.toInt ∧ a1_200.toInt ≤ (1799 : Int)) → ((I_314 3).toInt ≤ a1_200.toInt) → ((I_314 4).toInt = (I_314 3).toInt + 1) → (a1_200.toInt ≤ (I0 1).toInt) → ((I0 4).toInt ≤ (I_314 3).toInt) → (a2_200.toInt + a3_200.toInt = 1) → (a3_200.toInt = 1 → a4_200.toInt = 4) → (a5_200.toInt = a1_200.toInt - (I_314 3).toInt) → (a1_200.toInt < (I0 1).toInt) → (a3_200.toInt = 1 → ((a5_200.toInt = 0 → (I_314 5).toInt ≤ 9) ∧ (a5_200.toInt ≤ 1 → (I_314 5).toInt ≤ 99) ∧ (a5_200.toInt ≤ 2 → (I_314 5).toInt ≤ 999))) → ((I_314 3).toInt ≤ (I_314 4).toInt) → ((I_314 4).toInt ≤ (I0 1).toInt) → ((¬ (I_314 2).toInt = 0) → (I_314 3).toInt < (I_314 4).toInt) → ((¬ (I0 6).toInt = 0) → (¬ (I_314 6).toInt = 0)) → ((I0 3).toInt ≤ (I_314 3).toInt) → va_P G.1 vwCl (Wm G g q I_314 J_314 R_314 L_314) H → va_D A (Wm G g q I_314 J_314 R_314 L_314) → va_S A s.heap H locs → lv_has ls 6 [(0, .ref (g 45)), (1, .int a1_200), (2, .int a2_200), (3, .int a3_200), (4, .int a4_200), (5, .int a5_200)] → W p l e (rmD 2 0 0) s m [.ref (g 45)].toArray below meth c H locs 0 0 Q (F0 m 314 ls []) := by
        intro I_314 J_314 R_314 L_314 H locs ls hvI hvR hsI hsR y0_314 z0_314 z1_314 z2_314 z3_314 z4_314 z5_314 z6_314 z7_314 z8_314 z9_314 z10_314 z11_314 z12_314 z13_314 hP hD hS hl
        have hv_I_314 := hvI
        have w_I_314_1 := rg (hvI 1 (by decide)) (0) (1800) rfl rfl
        have v_I_314_1 : (I_314 1).toInt = (I0 1).toInt := congrArg Int32.toInt (hsI 1 rfl)
        have w_I_314_2 := rg (hvI 2 (by decide)) (0) (3) rfl rfl
        have w_I_314_3 := rg (hvI 3 (by decide)) (0) (1800) rfl rfl
        have w_I_314_4 := rg (hvI 4 (by decide)) (0) (1800) rfl rfl
        have w_I_314_5 := rg (hvI 5 (by decide)) (0) (9999) rfl rfl
        have w_I_314_6 := rg (hvI 6 (by decide)) (0) (5) rfl rfl
        obtain ⟨x2, ex2⟩ : ∃ y : Int32, y = a5_200 + 1 := ⟨_, rfl⟩
        have fx2 : x2.toInt = a5_200.toInt + (1 : Int) := by rw [ex2]; exact t_add (by show (-2147483648 : Int) ≤ a5_200.toInt + (1 : Int); omega) (by show a5_200.toInt + (1 : Int) ≤ 2147483647; omega)
        refine lv_iinc (v := x2) (lv' := [(5, .int x2), (0, .ref (g 45)), (1, .int a1_200), (2, .int a2_200), (3, .int a3_200), (4, .int a4_200)]) hx hb dX12_ahead_314 hl (k := 5) rfl (by rw [ex2]; rfl) (by decide) rfl (fun ls hl => ?_)
        obtain ⟨x3, ex3⟩ : ∃ y : Int32, y = a1_200 + 1 := ⟨_, rfl⟩
        have fx3 : x3.toInt = a1_200.toInt + (1 : Int) := by rw [ex3]; exact t_add (by show (-2147483648 : Int) ≤ a1_200.toInt + (1 : Int); omega) (by show a1_200.toInt + (1 : Int) ≤ 2147483647; omega)
        refine lv_iinc (v := x3) (lv' := [(1, .int x3), (5, .int x2), (0, .ref (g 45)), (2, .int a2_200), (3, .int a3_200), (4, .int a4_200)]) hx hb dX12_ahead_317 hl (k := 2) rfl (by rw [ex3]; rfl) (by decide) rfl (fun ls hl => ?_)
        refine lv_goto (tgt := 200) hx hb dX12_ahead_320 (by decide) ?_
        exact ih_200 x3 a2_200 a3_200 a4_200 x2 I_314 J_314 R_314 L_314 _ _ _ (show (1800 - x3.toInt) < (k_200 : Int) from by omega) hvI hvR hsI hsR (show ((0 : Int) ≤ x3.toInt ∧ x3.toInt ≤ (1800 : Int)) from by omega) (show ((0 : Int) ≤ a2_200.toInt ∧ a2_200.toInt ≤ (1 : Int)) from by omega) (show ((0 : Int) ≤ a3_200.toInt ∧ a3_200.toInt ≤ (1 : Int)) from by omega) (show ((4 : Int) ≤ a4_200.toInt ∧ a4_200.toInt ≤ (6 : Int)) from by omega) (show ((I_314 3).toInt ≤ x3.toInt) from by omega) (show ((I_314 4).toInt = (I_314 3).toInt + 1) from by omega) (show (x3.toInt ≤ (I0 1).toInt) from by omega) (show ((I0 4).toInt ≤ (I_314 3).toInt) from by omega) (show (a2_200.toInt + a3_200.toInt = 1) from by omega) (show (a3_200.toInt = 1 → a4_200.toInt = 4) from by omega) (show (x2.toInt = x3.toInt - (I_314 3).toInt) from by omega) (show (a3_200.toInt = 1 → ((x2.toInt = 0 → (I_314 5).toInt = 0) ∧ (x2.toInt ≤ 1 → (I_314 5).toInt ≤ 9) ∧ (x2.toInt ≤ 2 → (I_314 5).toInt ≤ 99) ∧ (x2.toInt ≤ 3 → (I_314 5).toInt ≤ 999))) from by omega) (show (x3.toInt = (I_314 3).toInt → ((a2_200.toInt = 1 → (97 ≤ (R0 0 (Int32.toNatClampNeg x3)).toInt ∧ (R0 0 (Int32.toNatClampNeg x3)).toInt ≤ 122)) ∧ (a3_200.toInt = 1 → (48 ≤ (R0 0 (Int32.toNatClampNeg x3)).toInt ∧ (R0 0 (Int32.toNatClampNeg x3)).toInt ≤ 57)))) from by omega) (show ((I_314 3).toInt ≤ (I_314 4).toInt) from by omega) (show ((I_314 4).toInt ≤ (I0 1).toInt) from by omega) (show ((¬ (I_314 2).toInt = 0) → (I_314 3).toInt < (I_314 4).toInt) from by omega) (show ((¬ (I0 6).toInt = 0) → (¬ (I_314 6).toInt = 0)) from by omega) (show ((I0 3).toInt ≤ (I_314 3).toInt) from by omega) hP hD hS (lv_sub hl [2, 0, 3, 4, 5, 1] rfl)
      have lab_282 : ∀  (I_282 : Nat → Int32) (J_282 : Nat → Int64) (R_282 : Nat → Nat → Int32) (L_282 : Nat → Nat → Int64) (H : Heap) (locs : List Loc) (ls : Array Slot), InvI Wm_lo Wm_hi I_282 → InvR Wm_rl R_282 → SmF ([2, 3, 4, 5, 6, 7] : List Nat) I0 I_282 → SmF ([] : List Nat) R0 R_282 → ((0 : Int) ≤ a1_200.toInt ∧ a1_200.toInt ≤ (1799 : Int)) → ((I_282 3).toInt ≤ a1_200.toInt) → ((I_282 4).toInt = (I_282 3).toInt + 1) → (a1_200.toInt ≤ (I0 1).toInt) → ((I0 4).toInt ≤ (I_282 3).toInt) → (a2_200.toInt + a3_200.toInt = 1) → (a3_200.toInt = 1 → a4_200.toInt = 4) → (a5_200.toInt = a1_200.toInt - (I_282 3).toInt) → (a3_200.toInt = 1 → ((a5_200.toInt = 0 → (I_282 5).toInt = 0) ∧ (a5_200.toInt ≤ 1 → (I_282 5).toInt ≤ 9) ∧ (a5_200.toInt ≤ 2 → (I_282 5).toInt ≤ 99) ∧ (a5_200.toInt ≤ 3 → (I_282 5).toInt ≤ 999))) → ((a2_200.toInt = 1 → (97 ≤ (R0 0 (Int32.toNatClampNeg a1_200)).toInt ∧ (R0 0 (Int32.toNatClampNeg a1_200)).toInt ≤ 122))) → ((a3_200.toInt = 1 → (48 ≤ (R0 0 (Int32.toNatClampNeg a1_200)).toInt ∧ (R0 0 (Int32.toNatClampNeg a1_200)).toInt ≤ 57))) → (a1_200.toInt < (I0 1).toInt) → ((I_282 3).toInt ≤ (I_282 4).toInt) → ((I_282 4).toInt ≤ (I0 1).toInt) → ((¬ (I_282 2).toInt = 0) → (I_282 3).toInt < (I_282 4).toInt) → ((¬ (I0 6).toInt = 0) → (¬ (I_282 6).toInt = 0)) → ((I0 3).toInt ≤ (I_282 3).toInt) → va_P G.1 vwCl (Wm G g q I_282 J_282 R_282 L_282) H → va_D A (Wm G g q I_282 J_282 R_282 L_282) → va_S A s.heap H locs → lv_has ls 6 [(0, .ref (g 45)), (1, .int a1_200), (2, .int a2_200), (3, .int a3_200), (4, .int a4_200), (5, .int a5_200)] → W p l e (rmD 2 0 0) s m [.ref (g 45)].toArray below meth c H locs 0 0 Q (F0 m 282 ls []) := by
        intro I_282 J_282 R_282 L_282 H locs ls hvI hvR hsI hsR y0_282 z0_282 z1_282 z2_282 z3_282 z4_282 z5_282 z6_282 z7_282 z8_282 z9_282 z10_282 z11_282 z12_282 z13_282 z14_282 z15_282 hP hD hS hl
        have hv_I_282 := hvI
        have w_I_282_1 := rg (hvI 1 (by decide)) (0) (1800) rfl rfl
        have v_I_282_1 : (I_282 1).toInt = (I0 1).toInt := congrArg Int32.toInt (hsI 1 rfl)
        have w_I_282_2 := rg (hvI 2 (by decide)) (0) (3) rfl rfl
        have w_I_282_3 := rg (hvI 3 (by decide)) (0) (1800) rfl rfl
        have w_I_282_4 := rg (hvI 4 (by decide)) (0) (1800) rfl rfl
        have w_I_282_5 := rg (hvI 5 (by decide)) (0) (9999) rfl rfl
        have w_I_282_6 := rg (hvI 6 (by decide)) (0) (5) rfl rfl
        refine lv_iload hx hb dX12_ahead_282 (lv_at hl 5 rfl) ?_
        refine lv_iload hx hb dX12_ahead_284 (lv_at hl 4 rfl) ?_
        refine lv_icmp_ge (tgt := 314) hx hb dX12_ahead_286 (by decide) (fun c4 => ?_) (fun c4 => ?_)
        · have gc4 : a4_200.toInt ≤ a5_200.toInt := (tle _ _).mp c4
          exact lab_314  I_282 J_282 R_282 L_282 _ _ _ hvI hvR hsI hsR (show ((0 : Int) ≤ a1_200.toInt ∧ a1_200.toInt ≤ (1799 : Int)) from by omega) (show ((I_282 3).toInt ≤ a1_200.toInt) from by omega) (show ((I_282 4).toInt = (I_282 3).toInt + 1) from by omega) (show (a1_200.toInt ≤ (I0 1).toInt) from by omega) (show ((I0 4).toInt ≤ (I_282 3).toInt) from by omega) (show (a2_200.toInt + a3_200.toInt = 1) from by omega) (show (a3_200.toInt = 1 → a4_200.toInt = 4) from by omega) (show (a5_200.toInt = a1_200.toInt - (I_282 3).toInt) from by omega) (show (a1_200.toInt < (I0 1).toInt) from by omega) (show (a3_200.toInt = 1 → ((a5_200.toInt = 0 → (I_282 5).toInt ≤ 9) ∧ (a5_200.toInt ≤ 1 → (I_282 5).toInt ≤ 99) ∧ (a5_200.toInt ≤ 2 → (I_282 5).toInt ≤ 999))) from by omega) (show ((I_282 3).toInt ≤ (I_282 4).toInt) from by omega) (show ((I_282 4).toInt ≤ (I0 1).toInt) from by omega) (show ((¬ (I_282 2).toInt = 0) → (I_282 3).toInt < (I_282 4).toInt) from by omega) (show ((¬ (I0 6).toInt = 0) → (¬ (I_282 6).toInt = 0)) from by omega) (show ((I0 3).toInt ≤ (I_282 3).toInt) from by omega) hP hD hS (lv_sub hl [0, 1, 2, 3, 4, 5] rfl)
        · have gc4 : ¬ (a4_200.toInt ≤ a5_200.toInt) := fun q0 => c4 ((tle _ _).mpr q0)
          refine lv_iload_n hx hb dX12_ahead_289 rfl (lv_at hl 3 rfl) ?_
          refine lv_if_eq (tgt := 314) hx hb dX12_ahead_290 (by decide) (fun c5 => ?_) (fun c5 => ?_)
          · have gc5 : a3_200.toInt = 0 := congrArg Int32.toInt c5
            exact lab_314  I_282 J_282 R_282 L_282 _ _ _ hvI hvR hsI hsR (show ((0 : Int) ≤ a1_200.toInt ∧ a1_200.toInt ≤ (1799 : Int)) from by omega) (show ((I_282 3).toInt ≤ a1_200.toInt) from by omega) (show ((I_282 4).toInt = (I_282 3).toInt + 1) from by omega) (show (a1_200.toInt ≤ (I0 1).toInt) from by omega) (show ((I0 4).toInt ≤ (I_282 3).toInt) from by omega) (show (a2_200.toInt + a3_200.toInt = 1) from by omega) (show (a3_200.toInt = 1 → a4_200.toInt = 4) from by omega) (show (a5_200.toInt = a1_200.toInt - (I_282 3).toInt) from by omega) (show (a1_200.toInt < (I0 1).toInt) from by omega) (show (a3_200.toInt = 1 → ((a5_200.toInt = 0 → (I_282 5).toInt ≤ 9) ∧ (a5_200.toInt ≤ 1 → (I_282 5).toInt ≤ 99) ∧ (a5_200.toInt ≤ 2 → (I_282 5).toInt ≤ 999))) from by omega) (show ((I_282 3).toInt ≤ (I_282 4).toInt) from by omega) (show ((I_282 4).toInt ≤ (I0 1).toInt) from by omega) (show ((¬ (I_282 2).toInt = 0) → (I_282 3).toInt < (I_282 4).toInt) from by omega) (show ((¬ (I0 6).toInt = 0) → (¬ (I_282 6).toInt = 0)) from by omega) (show ((I0 3).toInt ≤ (I_282 3).toInt) from by omega) hP hD hS (lv_sub hl [0, 1, 2, 3, 4, 5] rfl)
          · have gc5 : ¬ (a3_200.toInt = 0) := fun q0 => c5 (Int32.toInt_inj.mp q0)
            refine lv_aload_n hx hb dX12_ahead_293 rfl (lv_at hl 0 rfl) ?_
            refine lv_bipush (v := 10) hx hb dX12_ahead_294 (by decide) ?_
            refine lv_aload_n hx hb dX12_ahead_296 rfl (lv_at hl 0 rfl) ?_
            refine g_get F hK hP 0 (Wm_at0 G g q I_282 J_282 R_282 L_282) clX12 6 (by decide) flX12_29 rfl dX12_ahead_297 ?_
            have w_I_282_5 := rg (hv_I_282 5 (by decide)) (0) (9999) rfl rfl
            refine lv_imul hx hb dX12_ahead_300 ?_
            refine lv_topi (fun x6 ex6 => ?_)
            have fx6 : x6.toInt = 10 * (I_282 5).toInt := by rw [ex6]; exact t_mul (by show (-2147483648 : Int) ≤ 10 * (I_282 5).toInt; omega) (by show 10 * (I_282 5).toInt ≤ 2147483647; omega)
            refine lv_aload_n hx hb dX12_ahead_301 rfl (lv_at hl 0 rfl) ?_
            refine g_get F hK hP 0 (Wm_at0 G g q I_282 J_282 R_282 L_282) clX12 0 (by decide) flX12_7 rfl dX12_ahead_302 ?_
            refine lv_iload_n hx hb dX12_ahead_305 rfl (lv_at hl 1 rfl) ?_
            refine g_iald F hK hP 1 (Wm_at1 G g q I_282 J_282 R_282 L_282) (in_of (by omega)) dX12_ahead_306 rfl ?_
            refine lv_topi (fun x7 ex7 => ?_)
            have gx7 : x7.toInt = (R0 0 (Int32.toNatClampNeg a1_200)).toInt := congrArg Int32.toInt ((ex7).trans (congrFun (hsR 0 rfl) _))
            have fx7 : ((0 : Int) ≤ x7.toInt ∧ x7.toInt ≤ (255 : Int)) := by rw [ex7]; exact hvR 0 (by decide) _ (clamp_lt (n := 1800) (in_of (by omega)))
            refine lv_iadd hx hb dX12_ahead_307 ?_
            refine lv_topi (fun x8 ex8 => ?_)
            have fx8 : x8.toInt = x6.toInt + x7.toInt := by rw [ex8]; exact t_add (by show (-2147483648 : Int) ≤ x6.toInt + x7.toInt; omega) (by show x6.toInt + x7.toInt ≤ 2147483647; omega)
            refine lv_bipush (v := 48) hx hb dX12_ahead_308 (by decide) ?_
            refine lv_isub hx hb dX12_ahead_310 ?_
            refine lv_topi (fun x9 ex9 => ?_)
            have fx9 : x9.toInt = x8.toInt - 48 := by rw [ex9]; exact t_sub (by show (-2147483648 : Int) ≤ x8.toInt - 48; omega) (by show x8.toInt - 48 ≤ 2147483647; omega)
            refine p_fld (W1 := fun y => Wm G g q y J_282 R_282 L_282) (n := 5) (v := x9) F hK hP hD hS 0 (Wm_at0 G g q I_282 J_282 R_282 L_282) clX12 6 (by decide) flX12_29 rfl rfl rfl (Nat.le_of_ble_eq_true rfl) dX12_ahead_311 (Wm_setI5 G g q I_282 J_282 R_282 L_282 _) (fun I10 H locs eI10 hP hD hS => ?_)
            have hvI : InvI Wm_lo Wm_hi I10 := inv_upI hvI 5 eI10 (show ((0 : Int) ≤ x9.toInt ∧ x9.toInt ≤ (9999 : Int)) from by omega)
            have hsI := smF_up hsI eI10 (by decide)
            have hv_I10 := hvI
            have u_I10_1 : (I10 1).toInt = (I_282 1).toInt := by rw [eI10]; rfl
            have u_I10_2 : (I10 2).toInt = (I_282 2).toInt := by rw [eI10]; rfl
            have u_I10_3 : (I10 3).toInt = (I_282 3).toInt := by rw [eI10]; rfl
            have u_I10_4 : (I10 4).toInt = (I_282 4).toInt := by rw [eI10]; rfl
            have u_I10_5 : (I10 5).toInt = x9.toInt := by rw [eI10]; rfl
            have u_I10_6 : (I10 6).toInt = (I_282 6).toInt := by rw [eI10]; rfl
            exact lab_314  I10 J_282 R_282 L_282 _ _ _ hvI hvR hsI hsR (show ((0 : Int) ≤ a1_200.toInt ∧ a1_200.toInt ≤ (1799 : Int)) from by omega) (show ((I10 3).toInt ≤ a1_200.toInt) from by omega) (show ((I10 4).toInt = (I10 3).toInt + 1) from by omega) (show (a1_200.toInt ≤ (I0 1).toInt) from by omega) (show ((I0 4).toInt ≤ (I10 3).toInt) from by omega) (show (a2_200.toInt + a3_200.toInt = 1) from by omega) (show (a3_200.toInt = 1 → a4_200.toInt = 4) from by omega) (show (a5_200.toInt = a1_200.toInt - (I10 3).toInt) from by omega) (show (a1_200.toInt < (I0 1).toInt) from by omega) (show (a3_200.toInt = 1 → ((a5_200.toInt = 0 → (I10 5).toInt ≤ 9) ∧ (a5_200.toInt ≤ 1 → (I10 5).toInt ≤ 99) ∧ (a5_200.toInt ≤ 2 → (I10 5).toInt ≤ 999))) from by omega) (show ((I10 3).toInt ≤ (I10 4).toInt) from by omega) (show ((I10 4).toInt ≤ (I0 1).toInt) from by omega) (show ((¬ (I10 2).toInt = 0) → (I10 3).toInt < (I10 4).toInt) from by omega) (show ((¬ (I0 6).toInt = 0) → (¬ (I10 6).toInt = 0)) from by omega) (show ((I0 3).toInt ≤ (I10 3).toInt) from by omega) hP hD hS (lv_sub hl [0, 1, 2, 3, 4, 5] rfl)
      have lab_252 : ∀  (I_252 : Nat → Int32) (J_252 : Nat → Int64) (R_252 : Nat → Nat → Int32) (L_252 : Nat → Nat → Int64) (H : Heap) (locs : List Loc) (ls : Array Slot), InvI Wm_lo Wm_hi I_252 → InvR Wm_rl R_252 → SmF ([2, 3, 4, 5, 6, 7] : List Nat) I0 I_252 → SmF ([] : List Nat) R0 R_252 → ((0 : Int) ≤ a1_200.toInt ∧ a1_200.toInt ≤ (1799 : Int)) → ((I_252 3).toInt ≤ a1_200.toInt) → ((I_252 4).toInt = (I_252 3).toInt + 1) → (a1_200.toInt ≤ (I0 1).toInt) → ((I0 4).toInt ≤ (I_252 3).toInt) → (a2_200.toInt + a3_200.toInt = 1) → (a3_200.toInt = 1 → a4_200.toInt = 4) → (a5_200.toInt = a1_200.toInt - (I_252 3).toInt) → (a3_200.toInt = 1 → ((a5_200.toInt = 0 → (I_252 5).toInt = 0) ∧ (a5_200.toInt ≤ 1 → (I_252 5).toInt ≤ 9) ∧ (a5_200.toInt ≤ 2 → (I_252 5).toInt ≤ 99) ∧ (a5_200.toInt ≤ 3 → (I_252 5).toInt ≤ 999))) → ((a2_200.toInt = 1 → (97 ≤ (R0 0 (Int32.toNatClampNeg a1_200)).toInt ∧ (R0 0 (Int32.toNatClampNeg a1_200)).toInt ≤ 122))) → ((a3_200.toInt = 1 → (48 ≤ (R0 0 (Int32.toNatClampNeg a1_200)).toInt ∧ (R0 0 (Int32.toNatClampNeg a1_200)).toInt ≤ 57))) → (a1_200.toInt < (I0 1).toInt) → ((I_252 3).toInt ≤ (I_252 4).toInt) → ((I_252 4).toInt ≤ (I0 1).toInt) → ((¬ (I_252 2).toInt = 0) → (I_252 3).toInt < (I_252 4).toInt) → ((¬ (I0 6).toInt = 0) → (¬ (I_252 6).toInt = 0)) → ((I0 3).toInt ≤ (I_252 3).toInt) → va_P G.1 vwCl (Wm G g q I_252 J_252 R_252 L_252) H → va_D A (Wm G g q I_252 J_252 R_252 L_252) → va_S A s.heap H locs → lv_has ls 6 [(0, .ref (g 45)), (1, .int a1_200), (2, .int a2_200), (3, .int a3_200), (4, .int a4_200), (5, .int a5_200)] → W p l e (rmD 2 0 0) s m [.ref (g 45)].toArray below meth c H locs 0 0 Q (F0 m 252 ls []) := by
        intro I_252 J_252 R_252 L_252 H locs ls hvI hvR hsI hsR y0_252 z0_252 z1_252 z2_252 z3_252 z4_252 z5_252 z6_252 z7_252 z8_252 z9_252 z10_252 z11_252 z12_252 z13_252 z14_252 z15_252 hP hD hS hl
        have hv_I_252 := hvI
        have w_I_252_1 := rg (hvI 1 (by decide)) (0) (1800) rfl rfl
        have v_I_252_1 : (I_252 1).toInt = (I0 1).toInt := congrArg Int32.toInt (hsI 1 rfl)
        have w_I_252_2 := rg (hvI 2 (by decide)) (0) (3) rfl rfl
        have w_I_252_3 := rg (hvI 3 (by decide)) (0) (1800) rfl rfl
        have w_I_252_4 := rg (hvI 4 (by decide)) (0) (1800) rfl rfl
        have w_I_252_5 := rg (hvI 5 (by decide)) (0) (9999) rfl rfl
        have w_I_252_6 := rg (hvI 6 (by decide)) (0) (5) rfl rfl
        refine lv_iload hx hb dX12_ahead_252 (lv_at hl 5 rfl) ?_
        refine lv_iload hx hb dX12_ahead_254 (lv_at hl 4 rfl) ?_
        refine lv_icmp_ge (tgt := 282) hx hb dX12_ahead_256 (by decide) (fun c11 => ?_) (fun c11 => ?_)
        · have gc11 : a4_200.toInt ≤ a5_200.toInt := (tle _ _).mp c11
          exact lab_282  I_252 J_252 R_252 L_252 _ _ _ hvI hvR hsI hsR (show ((0 : Int) ≤ a1_200.toInt ∧ a1_200.toInt ≤ (1799 : Int)) from by omega) (show ((I_252 3).toInt ≤ a1_200.toInt) from by omega) (show ((I_252 4).toInt = (I_252 3).toInt + 1) from by omega) (show (a1_200.toInt ≤ (I0 1).toInt) from by omega) (show ((I0 4).toInt ≤ (I_252 3).toInt) from by omega) (show (a2_200.toInt + a3_200.toInt = 1) from by omega) (show (a3_200.toInt = 1 → a4_200.toInt = 4) from by omega) (show (a5_200.toInt = a1_200.toInt - (I_252 3).toInt) from by omega) (show (a3_200.toInt = 1 → ((a5_200.toInt = 0 → (I_252 5).toInt = 0) ∧ (a5_200.toInt ≤ 1 → (I_252 5).toInt ≤ 9) ∧ (a5_200.toInt ≤ 2 → (I_252 5).toInt ≤ 99) ∧ (a5_200.toInt ≤ 3 → (I_252 5).toInt ≤ 999))) from by omega) (show ((a2_200.toInt = 1 → (97 ≤ (R0 0 (Int32.toNatClampNeg a1_200)).toInt ∧ (R0 0 (Int32.toNatClampNeg a1_200)).toInt ≤ 122))) from by omega) (show ((a3_200.toInt = 1 → (48 ≤ (R0 0 (Int32.toNatClampNeg a1_200)).toInt ∧ (R0 0 (Int32.toNatClampNeg a1_200)).toInt ≤ 57))) from by omega) (show (a1_200.toInt < (I0 1).toInt) from by omega) (show ((I_252 3).toInt ≤ (I_252 4).toInt) from by omega) (show ((I_252 4).toInt ≤ (I0 1).toInt) from by omega) (show ((¬ (I_252 2).toInt = 0) → (I_252 3).toInt < (I_252 4).toInt) from by omega) (show ((¬ (I0 6).toInt = 0) → (¬ (I_252 6).toInt = 0)) from by omega) (show ((I0 3).toInt ≤ (I_252 3).toInt) from by omega) hP hD hS (lv_sub hl [0, 1, 2, 3, 4, 5] rfl)
        · have gc11 : ¬ (a4_200.toInt ≤ a5_200.toInt) := fun q0 => c11 ((tle _ _).mpr q0)
          refine lv_iload_n hx hb dX12_ahead_259 rfl (lv_at hl 2 rfl) ?_
          refine lv_if_eq (tgt := 282) hx hb dX12_ahead_260 (by decide) (fun c12 => ?_) (fun c12 => ?_)
          · have gc12 : a2_200.toInt = 0 := congrArg Int32.toInt c12
            exact lab_282  I_252 J_252 R_252 L_252 _ _ _ hvI hvR hsI hsR (show ((0 : Int) ≤ a1_200.toInt ∧ a1_200.toInt ≤ (1799 : Int)) from by omega) (show ((I_252 3).toInt ≤ a1_200.toInt) from by omega) (show ((I_252 4).toInt = (I_252 3).toInt + 1) from by omega) (show (a1_200.toInt ≤ (I0 1).toInt) from by omega) (show ((I0 4).toInt ≤ (I_252 3).toInt) from by omega) (show (a2_200.toInt + a3_200.toInt = 1) from by omega) (show (a3_200.toInt = 1 → a4_200.toInt = 4) from by omega) (show (a5_200.toInt = a1_200.toInt - (I_252 3).toInt) from by omega) (show (a3_200.toInt = 1 → ((a5_200.toInt = 0 → (I_252 5).toInt = 0) ∧ (a5_200.toInt ≤ 1 → (I_252 5).toInt ≤ 9) ∧ (a5_200.toInt ≤ 2 → (I_252 5).toInt ≤ 99) ∧ (a5_200.toInt ≤ 3 → (I_252 5).toInt ≤ 999))) from by omega) (show ((a2_200.toInt = 1 → (97 ≤ (R0 0 (Int32.toNatClampNeg a1_200)).toInt ∧ (R0 0 (Int32.toNatClampNeg a1_200)).toInt ≤ 122))) from by omega) (show ((a3_200.toInt = 1 → (48 ≤ (R0 0 (Int32.toNatClampNeg a1_200)).toInt ∧ (R0 0 (Int32.toNatClampNeg a1_200)).toInt ≤ 57))) from by omega) (show (a1_200.toInt < (I0 1).toInt) from by omega) (show ((I_252 3).toInt ≤ (I_252 4).toInt) from by omega) (show ((I_252 4).toInt ≤ (I0 1).toInt) from by omega) (show ((¬ (I_252 2).toInt = 0) → (I_252 3).toInt < (I_252 4).toInt) from by omega) (show ((¬ (I0 6).toInt = 0) → (¬ (I_252 6).toInt = 0)) from by omega) (show ((I0 3).toInt ≤ (I_252 3).toInt) from by omega) hP hD hS (lv_sub hl [0, 1, 2, 3, 4, 5] rfl)
          · have gc12 : ¬ (a2_200.toInt = 0) := fun q0 => c12 (Int32.toInt_inj.mp q0)
            refine lv_aload_n hx hb dX12_ahead_263 rfl (lv_at hl 0 rfl) ?_
            refine lv_aload_n hx hb dX12_ahead_264 rfl (lv_at hl 0 rfl) ?_
            refine g_get F hK hP 0 (Wm_at0 G g q I_252 J_252 R_252 L_252) clX12 7 (by decide) flX12_32 rfl dX12_ahead_265 ?_
            refine lv_bipush (v := 8) hx hb dX12_ahead_268 (by decide) ?_
            obtain ⟨x13, ex13⟩ : ∃ y : Int64, ((J_252 0) : Int64) <<< ((8 : Int32).toInt64 &&& 63) = y := ⟨_, rfl⟩
            refine lv_lshl (v := x13) hx hb dX12_ahead_270 ex13 ?_
            refine lv_aload_n hx hb dX12_ahead_271 rfl (lv_at hl 0 rfl) ?_
            refine g_get F hK hP 0 (Wm_at0 G g q I_252 J_252 R_252 L_252) clX12 0 (by decide) flX12_7 rfl dX12_ahead_272 ?_
            refine lv_iload_n hx hb dX12_ahead_275 rfl (lv_at hl 1 rfl) ?_
            refine g_iald F hK hP 1 (Wm_at1 G g q I_252 J_252 R_252 L_252) (in_of (by omega)) dX12_ahead_276 rfl ?_
            refine lv_topi (fun x14 ex14 => ?_)
            have gx14 : x14.toInt = (R0 0 (Int32.toNatClampNeg a1_200)).toInt := congrArg Int32.toInt ((ex14).trans (congrFun (hsR 0 rfl) _))
            have fx14 : ((0 : Int) ≤ x14.toInt ∧ x14.toInt ≤ (255 : Int)) := by rw [ex14]; exact hvR 0 (by decide) _ (clamp_lt (n := 1800) (in_of (by omega)))
            obtain ⟨x15, ex15⟩ : ∃ y : Int64, (x14 : Int32).toInt64 = y := ⟨_, rfl⟩
            refine lv_i2l (v := x15) hx hb dX12_ahead_277 ex15 ?_
            refine lv_lor hx hb dX12_ahead_278 ?_
            refine lv_topl (fun x16 ex16 => ?_)
            refine p_fld (W1 := fun y => Wm G g q I_252 y R_252 L_252) (n := 0) (v := x16) F hK hP hD hS 0 (Wm_at0 G g q I_252 J_252 R_252 L_252) clX12 7 (by decide) flX12_32 rfl rfl rfl (Nat.le_of_ble_eq_true rfl) dX12_ahead_279 (Wm_setJ0 G g q I_252 J_252 R_252 L_252 _) (fun J17 H locs eJ17 hP hD hS => ?_)
            exact lab_282  I_252 J17 R_252 L_252 _ _ _ hvI hvR hsI hsR (show ((0 : Int) ≤ a1_200.toInt ∧ a1_200.toInt ≤ (1799 : Int)) from by omega) (show ((I_252 3).toInt ≤ a1_200.toInt) from by omega) (show ((I_252 4).toInt = (I_252 3).toInt + 1) from by omega) (show (a1_200.toInt ≤ (I0 1).toInt) from by omega) (show ((I0 4).toInt ≤ (I_252 3).toInt) from by omega) (show (a2_200.toInt + a3_200.toInt = 1) from by omega) (show (a3_200.toInt = 1 → a4_200.toInt = 4) from by omega) (show (a5_200.toInt = a1_200.toInt - (I_252 3).toInt) from by omega) (show (a3_200.toInt = 1 → ((a5_200.toInt = 0 → (I_252 5).toInt = 0) ∧ (a5_200.toInt ≤ 1 → (I_252 5).toInt ≤ 9) ∧ (a5_200.toInt ≤ 2 → (I_252 5).toInt ≤ 99) ∧ (a5_200.toInt ≤ 3 → (I_252 5).toInt ≤ 999))) from by omega) (show ((a2_200.toInt = 1 → (97 ≤ (R0 0 (Int32.toNatClampNeg a1_200)).toInt ∧ (R0 0 (Int32.toNatClampNeg a1_200)).toInt ≤ 122))) from by omega) (show ((a3_200.toInt = 1 → (48 ≤ (R0 0 (Int32.toNatClampNeg a1_200)).toInt ∧ (R0 0 (Int32.toNatClampNeg a1_200)).toInt ≤ 57))) from by omega) (show (a1_200.toInt < (I0 1).toInt) from by omega) (show ((I_252 3).toInt ≤ (I_252 4).toInt) from by omega) (show ((I_252 4).toInt ≤ (I0 1).toInt) from by omega) (show ((¬ (I_252 2).toInt = 0) → (I_252 3).toInt < (I_252 4).toInt) from by omega) (show ((¬ (I0 6).toInt = 0) → (¬ (I_252 6).toInt = 0)) from by omega) (show ((I0 3).toInt ≤ (I_252 3).toInt) from by omega) hP hD hS (lv_sub hl [0, 1, 2, 3, 4, 5] rfl)
      have lab_239 : ∀  (I_239 : Nat → Int32) (J_239 : Nat → Int64) (R_239 : Nat → Nat → Int32) (L_239 : Nat → Nat → Int64) (H : Heap) (locs : List Loc) (ls : Array Slot), InvI Wm_lo Wm_hi I_239 → InvR Wm_rl R_239 → SmF ([2, 3, 4, 5, 6, 7] : List Nat) I0 I_239 → SmF ([] : List Nat) R0 R_239 → ((0 : Int) ≤ a1_200.toInt ∧ a1_200.toInt ≤ (1799 : Int)) → ((I_239 3).toInt ≤ a1_200.toInt) → ((I_239 4).toInt = (I_239 3).toInt + 1) → (a1_200.toInt ≤ (I0 1).toInt) → ((I0 4).toInt ≤ (I_239 3).toInt) → (a2_200.toInt + a3_200.toInt = 1) → (a3_200.toInt = 1 → a4_200.toInt = 4) → (a5_200.toInt = a1_200.toInt - (I_239 3).toInt) → (a3_200.toInt = 1 → ((a5_200.toInt = 0 → (I_239 5).toInt = 0) ∧ (a5_200.toInt ≤ 1 → (I_239 5).toInt ≤ 9) ∧ (a5_200.toInt ≤ 2 → (I_239 5).toInt ≤ 99) ∧ (a5_200.toInt ≤ 3 → (I_239 5).toInt ≤ 999))) → ((a2_200.toInt = 1 → (97 ≤ (R0 0 (Int32.toNatClampNeg a1_200)).toInt ∧ (R0 0 (Int32.toNatClampNeg a1_200)).toInt ≤ 122))) → ((a3_200.toInt = 1 → (48 ≤ (R0 0 (Int32.toNatClampNeg a1_200)).toInt ∧ (R0 0 (Int32.toNatClampNeg a1_200)).toInt ≤ 57))) → (a1_200.toInt < (I0 1).toInt) → ((I_239 3).toInt ≤ (I_239 4).toInt) → ((I_239 4).toInt ≤ (I0 1).toInt) → ((¬ (I_239 2).toInt = 0) → (I_239 3).toInt < (I_239 4).toInt) → ((¬ (I0 6).toInt = 0) → (¬ (I_239 6).toInt = 0)) → ((I0 3).toInt ≤ (I_239 3).toInt) → va_P G.1 vwCl (Wm G g q I_239 J_239 R_239 L_239) H → va_D A (Wm G g q I_239 J_239 R_239 L_239) → va_S A s.heap H locs → lv_has ls 6 [(0, .ref (g 45)), (1, .int a1_200), (2, .int a2_200), (3, .int a3_200), (4, .int a4_200), (5, .int a5_200)] → W p l e (rmD 2 0 0) s m [.ref (g 45)].toArray below meth c H locs 0 0 Q (F0 m 239 ls []) := by
        intro I_239 J_239 R_239 L_239 H locs ls hvI hvR hsI hsR y0_239 z0_239 z1_239 z2_239 z3_239 z4_239 z5_239 z6_239 z7_239 z8_239 z9_239 z10_239 z11_239 z12_239 z13_239 z14_239 z15_239 hP hD hS hl
        have hv_I_239 := hvI
        have w_I_239_1 := rg (hvI 1 (by decide)) (0) (1800) rfl rfl
        have v_I_239_1 : (I_239 1).toInt = (I0 1).toInt := congrArg Int32.toInt (hsI 1 rfl)
        have w_I_239_2 := rg (hvI 2 (by decide)) (0) (3) rfl rfl
        have w_I_239_3 := rg (hvI 3 (by decide)) (0) (1800) rfl rfl
        have w_I_239_4 := rg (hvI 4 (by decide)) (0) (1800) rfl rfl
        have w_I_239_5 := rg (hvI 5 (by decide)) (0) (9999) rfl rfl
        have w_I_239_6 := rg (hvI 6 (by decide)) (0) (5) rfl rfl
        refine lv_iload hx hb dX12_ahead_239 (lv_at hl 5 rfl) ?_
        refine lv_iload hx hb dX12_ahead_241 (lv_at hl 4 rfl) ?_
        refine lv_icmp_ne (tgt := 252) hx hb dX12_ahead_243 (by decide) (fun c18 => ?_) (fun c18 => ?_)
        · have gc18 : ¬ (a5_200.toInt = a4_200.toInt) := fun q0 => c18 (Int32.toInt_inj.mp q0)
          exact lab_252  I_239 J_239 R_239 L_239 _ _ _ hvI hvR hsI hsR (show ((0 : Int) ≤ a1_200.toInt ∧ a1_200.toInt ≤ (1799 : Int)) from by omega) (show ((I_239 3).toInt ≤ a1_200.toInt) from by omega) (show ((I_239 4).toInt = (I_239 3).toInt + 1) from by omega) (show (a1_200.toInt ≤ (I0 1).toInt) from by omega) (show ((I0 4).toInt ≤ (I_239 3).toInt) from by omega) (show (a2_200.toInt + a3_200.toInt = 1) from by omega) (show (a3_200.toInt = 1 → a4_200.toInt = 4) from by omega) (show (a5_200.toInt = a1_200.toInt - (I_239 3).toInt) from by omega) (show (a3_200.toInt = 1 → ((a5_200.toInt = 0 → (I_239 5).toInt = 0) ∧ (a5_200.toInt ≤ 1 → (I_239 5).toInt ≤ 9) ∧ (a5_200.toInt ≤ 2 → (I_239 5).toInt ≤ 99) ∧ (a5_200.toInt ≤ 3 → (I_239 5).toInt ≤ 999))) from by omega) (show ((a2_200.toInt = 1 → (97 ≤ (R0 0 (Int32.toNatClampNeg a1_200)).toInt ∧ (R0 0 (Int32.toNatClampNeg a1_200)).toInt ≤ 122))) from by omega) (show ((a3_200.toInt = 1 → (48 ≤ (R0 0 (Int32.toNatClampNeg a1_200)).toInt ∧ (R0 0 (Int32.toNatClampNeg a1_200)).toInt ≤ 57))) from by omega) (show (a1_200.toInt < (I0 1).toInt) from by omega) (show ((I_239 3).toInt ≤ (I_239 4).toInt) from by omega) (show ((I_239 4).toInt ≤ (I0 1).toInt) from by omega) (show ((¬ (I_239 2).toInt = 0) → (I_239 3).toInt < (I_239 4).toInt) from by omega) (show ((¬ (I0 6).toInt = 0) → (¬ (I_239 6).toInt = 0)) from by omega) (show ((I0 3).toInt ≤ (I_239 3).toInt) from by omega) hP hD hS (lv_sub hl [0, 1, 2, 3, 4, 5] rfl)
        · have gc18 : a5_200.toInt = a4_200.toInt := congrArg Int32.toInt c18
          refine lv_aload_n hx hb dX12_ahead_246 rfl (lv_at hl 0 rfl) ?_
          refine lv_iconst (v := 1) hx hb dX12_ahead_247 (by decide) ?_
          refine lv_iload_n hx hb dX12_ahead_248 rfl (lv_at hl 1 rfl) ?_
          refine wvv (As := [.int 1, .int a1_200]) (rest := []) (b := (g 45)) (d := 1) F hK hP hD hS hA (s_X12_blame l G g q I_239 J_239 R_239 L_239 hvI hvR  1 a1_200 (by decide) (show ((0 : Int) ≤ a1_200.toInt ∧ a1_200.toInt ≤ (1800 : Int)) from by omega)) kmV_X12_blame mlX12_240 clX12 rfl 0 (Wm_at0 G g q I_239 J_239 R_239 L_239) ⟨(Nat.le_of_ble_eq_true rfl), (Nat.le_of_ble_eq_true rfl)⟩ hl.1 rfl (Nat.le_of_ble_eq_true rfl) dX12_ahead_249 (fun u20 H locs hwr19 hP hD hS => ?_)
          obtain ⟨I21, J22, R23, L24⟩ := u20
          replace hP : va_P G.1 vwCl (Wm G g q I21 J22 R23 L24) H := hP
          replace hD : va_D A (Wm G g q I21 J22 R23 L24) := hD
          obtain ⟨hvI, hvR, tIr19, tRr19, F0r19⟩ := hwr19
          replace F0r19 : (¬ (I21 6).toInt = 0) := F0r19
          replace hvI : InvI Wm_lo Wm_hi I21 := hvI
          replace hvR : InvR Wm_rl R23 := hvR
          replace tIr19 : SmF ([6, 7] : List Nat) I_239 I21 := tIr19
          replace tRr19 : SmF ([] : List Nat) R_239 R23 := tRr19
          have hv_I21 := hvI
          have hsI := smF_tr hsI tIr19 (by decide)
          have hsR := smF_tr hsR tRr19 (by decide)
          have u_I21_1 : (I21 1).toInt = (I_239 1).toInt := congrArg Int32.toInt (tIr19 1 rfl)
          have u_I21_2 : (I21 2).toInt = (I_239 2).toInt := congrArg Int32.toInt (tIr19 2 rfl)
          have u_I21_3 : (I21 3).toInt = (I_239 3).toInt := congrArg Int32.toInt (tIr19 3 rfl)
          have u_I21_4 : (I21 4).toInt = (I_239 4).toInt := congrArg Int32.toInt (tIr19 4 rfl)
          have u_I21_5 : (I21 5).toInt = (I_239 5).toInt := congrArg Int32.toInt (tIr19 5 rfl)
          have w_I21_6 := rg (hvI 6 (by decide)) (0) (5) rfl rfl
          exact lab_252  I21 J22 R23 L24 _ _ _ hvI hvR hsI hsR (show ((0 : Int) ≤ a1_200.toInt ∧ a1_200.toInt ≤ (1799 : Int)) from by omega) (show ((I21 3).toInt ≤ a1_200.toInt) from by omega) (show ((I21 4).toInt = (I21 3).toInt + 1) from by omega) (show (a1_200.toInt ≤ (I0 1).toInt) from by omega) (show ((I0 4).toInt ≤ (I21 3).toInt) from by omega) (show (a2_200.toInt + a3_200.toInt = 1) from by omega) (show (a3_200.toInt = 1 → a4_200.toInt = 4) from by omega) (show (a5_200.toInt = a1_200.toInt - (I21 3).toInt) from by omega) (show (a3_200.toInt = 1 → ((a5_200.toInt = 0 → (I21 5).toInt = 0) ∧ (a5_200.toInt ≤ 1 → (I21 5).toInt ≤ 9) ∧ (a5_200.toInt ≤ 2 → (I21 5).toInt ≤ 99) ∧ (a5_200.toInt ≤ 3 → (I21 5).toInt ≤ 999))) from by omega) (show ((a2_200.toInt = 1 → (97 ≤ (R0 0 (Int32.toNatClampNeg a1_200)).toInt ∧ (R0 0 (Int32.toNatClampNeg a1_200)).toInt ≤ 122))) from by omega) (show ((a3_200.toInt = 1 → (48 ≤ (R0 0 (Int32.toNatClampNeg a1_200)).toInt ∧ (R0 0 (Int32.toNatClampNeg a1_200)).toInt ≤ 57))) from by omega) (show (a1_200.toInt < (I0 1).toInt) from by omega) (show ((I21 3).toInt ≤ (I21 4).toInt) from by omega) (show ((I21 4).toInt ≤ (I0 1).toInt) from by omega) (show ((¬ (I21 2).toInt = 0) → (I21 3).toInt < (I21 4).toInt) from by omega) (show ((¬ (I0 6).toInt = 0) → (¬ (I21 6).toInt = 0)) from by omega) (show ((I0 3).toInt ≤ (I21 3).toInt) from by omega) hP hD hS (lv_sub hl [0, 1, 2, 3, 4, 5] rfl)
      refine lv_iload_n hx hb dX12_ahead_200 rfl (lv_at hl 1 rfl) ?_
      refine lv_aload_n hx hb dX12_ahead_201 rfl (lv_at hl 0 rfl) ?_
      refine g_get F hK hP 0 (Wm_at0 G g q I_200 J_200 R_200 L_200) clX12 2 (by decide) flX12_17 rfl dX12_ahead_202 ?_
      refine cst_i (hsI 1 rfl) ?_
      have w_I0_1 := rg (hvI0 1 (by decide)) (0) (1800) rfl rfl
      refine lv_icmp_ge (tgt := 323) hx hb dX12_ahead_205 (by decide) (fun c25 => ?_) (fun c25 => ?_)
      · have gc25 : (I0 1).toInt ≤ a1_200.toInt := (tle _ _).mp c25
        exact lab_323 a1_200 I_200 J_200 R_200 L_200 _ _ _ hvI hvR hsI hsR (show ((0 : Int) ≤ a1_200.toInt ∧ a1_200.toInt ≤ (1800 : Int)) from by omega) (show ((I_200 3).toInt < a1_200.toInt) from by omega) (show (a1_200.toInt ≤ (I0 1).toInt) from by omega) (show ((I0 4).toInt ≤ (I_200 3).toInt) from by omega) (show ((I_200 3).toInt ≤ (I_200 4).toInt) from by omega) (show ((I_200 4).toInt ≤ (I0 1).toInt) from by omega) (show ((¬ (I_200 2).toInt = 0) → (I_200 3).toInt < (I_200 4).toInt) from by omega) (show ((¬ (I0 6).toInt = 0) → (¬ (I_200 6).toInt = 0)) from by omega) (show ((I0 3).toInt ≤ (I_200 3).toInt) from by omega) hP hD hS (lv_sub hl [0, 1] rfl)
      · have gc25 : ¬ ((I0 1).toInt ≤ a1_200.toInt) := fun q0 => c25 ((tle _ _).mpr q0)
        refine lv_iload_n hx hb dX12_ahead_208 rfl (lv_at hl 2 rfl) ?_
        refine lv_if_eq (tgt := 227) hx hb dX12_ahead_209 (by decide) (fun c26 => ?_) (fun c26 => ?_)
        · have gc26 : a2_200.toInt = 0 := congrArg Int32.toInt c26
          refine lv_aload_n hx hb dX12_ahead_227 rfl (lv_at hl 0 rfl) ?_
          refine g_get F hK hP 0 (Wm_at0 G g q I_200 J_200 R_200 L_200) clX12 0 (by decide) flX12_7 rfl dX12_ahead_228 ?_
          refine lv_iload_n hx hb dX12_ahead_231 rfl (lv_at hl 1 rfl) ?_
          refine g_iald F hK hP 1 (Wm_at1 G g q I_200 J_200 R_200 L_200) (in_of (by omega)) dX12_ahead_232 rfl ?_
          refine lv_topi (fun x27 ex27 => ?_)
          have gx27 : x27.toInt = (R0 0 (Int32.toNatClampNeg a1_200)).toInt := congrArg Int32.toInt ((ex27).trans (congrFun (hsR 0 rfl) _))
          have fx27 : ((0 : Int) ≤ x27.toInt ∧ x27.toInt ≤ (255 : Int)) := by rw [ex27]; exact hvR 0 (by decide) _ (clamp_lt (n := 1800) (in_of (by omega)))
          refine w0i (As := [.int x27]) (rest := []) (d := 1) F hK hP hD hS hA (s_X12_isDigit l G  x27 (show ((0 : Int) ≤ x27.toInt ∧ x27.toInt ≤ (255 : Int)) from by omega)) kmS_X12_isDigit mlX12_237 ⟨(Nat.le_of_ble_eq_true rfl), (Nat.le_of_ble_eq_true rfl)⟩ hl.1 rfl (Nat.le_of_ble_eq_true rfl) dX12_ahead_233 (fun r28 u29 H locs hwr28 hP hD hS => ?_)
          obtain ⟨F0r28, F1r28⟩ := hwr28
          replace F0r28 : ((0 : Int) ≤ r28.toInt ∧ r28.toInt ≤ (1 : Int)) := F0r28
          replace F1r28 : ((r28.toInt = 1 ∧ 48 ≤ x27.toInt ∧ x27.toInt ≤ 57) ∨ (r28.toInt = 0 ∧ (x27.toInt < 48 ∨ 57 < x27.toInt))) := F1r28
          refine lv_if_eq (tgt := 323) hx hb dX12_ahead_236 (by decide) (fun c30 => ?_) (fun c30 => ?_)
          · have gc30 : r28.toInt = 0 := congrArg Int32.toInt c30
            exact lab_323 a1_200 I_200 J_200 R_200 L_200 _ _ _ hvI hvR hsI hsR (show ((0 : Int) ≤ a1_200.toInt ∧ a1_200.toInt ≤ (1800 : Int)) from by omega) (show ((I_200 3).toInt < a1_200.toInt) from by omega) (show (a1_200.toInt ≤ (I0 1).toInt) from by omega) (show ((I0 4).toInt ≤ (I_200 3).toInt) from by omega) (show ((I_200 3).toInt ≤ (I_200 4).toInt) from by omega) (show ((I_200 4).toInt ≤ (I0 1).toInt) from by omega) (show ((¬ (I_200 2).toInt = 0) → (I_200 3).toInt < (I_200 4).toInt) from by omega) (show ((¬ (I0 6).toInt = 0) → (¬ (I_200 6).toInt = 0)) from by omega) (show ((I0 3).toInt ≤ (I_200 3).toInt) from by omega) hP hD hS (lv_sub hl [0, 1] rfl)
          · have gc30 : ¬ (r28.toInt = 0) := fun q0 => c30 (Int32.toInt_inj.mp q0)
            exact lab_239  I_200 J_200 R_200 L_200 _ _ _ hvI hvR hsI hsR (show ((0 : Int) ≤ a1_200.toInt ∧ a1_200.toInt ≤ (1799 : Int)) from by omega) (show ((I_200 3).toInt ≤ a1_200.toInt) from by omega) (show ((I_200 4).toInt = (I_200 3).toInt + 1) from by omega) (show (a1_200.toInt ≤ (I0 1).toInt) from by omega) (show ((I0 4).toInt ≤ (I_200 3).toInt) from by omega) (show (a2_200.toInt + a3_200.toInt = 1) from by omega) (show (a3_200.toInt = 1 → a4_200.toInt = 4) from by omega) (show (a5_200.toInt = a1_200.toInt - (I_200 3).toInt) from by omega) (show (a3_200.toInt = 1 → ((a5_200.toInt = 0 → (I_200 5).toInt = 0) ∧ (a5_200.toInt ≤ 1 → (I_200 5).toInt ≤ 9) ∧ (a5_200.toInt ≤ 2 → (I_200 5).toInt ≤ 99) ∧ (a5_200.toInt ≤ 3 → (I_200 5).toInt ≤ 999))) from by omega) (show ((a2_200.toInt = 1 → (97 ≤ (R0 0 (Int32.toNatClampNeg a1_200)).toInt ∧ (R0 0 (Int32.toNatClampNeg a1_200)).toInt ≤ 122))) from by omega) (show ((a3_200.toInt = 1 → (48 ≤ (R0 0 (Int32.toNatClampNeg a1_200)).toInt ∧ (R0 0 (Int32.toNatClampNeg a1_200)).toInt ≤ 57))) from by omega) (show (a1_200.toInt < (I0 1).toInt) from by omega) (show ((I_200 3).toInt ≤ (I_200 4).toInt) from by omega) (show ((I_200 4).toInt ≤ (I0 1).toInt) from by omega) (show ((¬ (I_200 2).toInt = 0) → (I_200 3).toInt < (I_200 4).toInt) from by omega) (show ((¬ (I0 6).toInt = 0) → (¬ (I_200 6).toInt = 0)) from by omega) (show ((I0 3).toInt ≤ (I_200 3).toInt) from by omega) hP hD hS (lv_sub hl [0, 1, 2, 3, 4, 5] rfl)
        · have gc26 : ¬ (a2_200.toInt = 0) := fun q0 => c26 (Int32.toInt_inj.mp q0)
          refine lv_aload_n hx hb dX12_ahead_212 rfl (lv_at hl 0 rfl) ?_
          refine g_get F hK hP 0 (Wm_at0 G g q I_200 J_200 R_200 L_200) clX12 0 (by decide) flX12_7 rfl dX12_ahead_213 ?_
          refine lv_iload_n hx hb dX12_ahead_216 rfl (lv_at hl 1 rfl) ?_
          refine g_iald F hK hP 1 (Wm_at1 G g q I_200 J_200 R_200 L_200) (in_of (by omega)) dX12_ahead_217 rfl ?_
          refine lv_topi (fun x31 ex31 => ?_)
          have gx31 : x31.toInt = (R0 0 (Int32.toNatClampNeg a1_200)).toInt := congrArg Int32.toInt ((ex31).trans (congrFun (hsR 0 rfl) _))
          have fx31 : ((0 : Int) ≤ x31.toInt ∧ x31.toInt ≤ (255 : Int)) := by rw [ex31]; exact hvR 0 (by decide) _ (clamp_lt (n := 1800) (in_of (by omega)))
          refine w0i (As := [.int x31]) (rest := []) (d := 1) F hK hP hD hS hA (s_X12_isLetter l G  x31 (show ((0 : Int) ≤ x31.toInt ∧ x31.toInt ≤ (255 : Int)) from by omega)) kmS_X12_isLetter mlX12_233 ⟨(Nat.le_of_ble_eq_true rfl), (Nat.le_of_ble_eq_true rfl)⟩ hl.1 rfl (Nat.le_of_ble_eq_true rfl) dX12_ahead_218 (fun r32 u33 H locs hwr32 hP hD hS => ?_)
          obtain ⟨F0r32, F1r32⟩ := hwr32
          replace F0r32 : ((0 : Int) ≤ r32.toInt ∧ r32.toInt ≤ (1 : Int)) := F0r32
          replace F1r32 : ((r32.toInt = 1 ∧ 97 ≤ x31.toInt ∧ x31.toInt ≤ 122) ∨ (r32.toInt = 0 ∧ (x31.toInt < 97 ∨ 122 < x31.toInt))) := F1r32
          refine lv_if_eq (tgt := 323) hx hb dX12_ahead_221 (by decide) (fun c34 => ?_) (fun c34 => ?_)
          · have gc34 : r32.toInt = 0 := congrArg Int32.toInt c34
            exact lab_323 a1_200 I_200 J_200 R_200 L_200 _ _ _ hvI hvR hsI hsR (show ((0 : Int) ≤ a1_200.toInt ∧ a1_200.toInt ≤ (1800 : Int)) from by omega) (show ((I_200 3).toInt < a1_200.toInt) from by omega) (show (a1_200.toInt ≤ (I0 1).toInt) from by omega) (show ((I0 4).toInt ≤ (I_200 3).toInt) from by omega) (show ((I_200 3).toInt ≤ (I_200 4).toInt) from by omega) (show ((I_200 4).toInt ≤ (I0 1).toInt) from by omega) (show ((¬ (I_200 2).toInt = 0) → (I_200 3).toInt < (I_200 4).toInt) from by omega) (show ((¬ (I0 6).toInt = 0) → (¬ (I_200 6).toInt = 0)) from by omega) (show ((I0 3).toInt ≤ (I_200 3).toInt) from by omega) hP hD hS (lv_sub hl [0, 1] rfl)
          · have gc34 : ¬ (r32.toInt = 0) := fun q0 => c34 (Int32.toInt_inj.mp q0)
            refine lv_goto (tgt := 239) hx hb dX12_ahead_224 (by decide) ?_
            exact lab_239  I_200 J_200 R_200 L_200 _ _ _ hvI hvR hsI hsR (show ((0 : Int) ≤ a1_200.toInt ∧ a1_200.toInt ≤ (1799 : Int)) from by omega) (show ((I_200 3).toInt ≤ a1_200.toInt) from by omega) (show ((I_200 4).toInt = (I_200 3).toInt + 1) from by omega) (show (a1_200.toInt ≤ (I0 1).toInt) from by omega) (show ((I0 4).toInt ≤ (I_200 3).toInt) from by omega) (show (a2_200.toInt + a3_200.toInt = 1) from by omega) (show (a3_200.toInt = 1 → a4_200.toInt = 4) from by omega) (show (a5_200.toInt = a1_200.toInt - (I_200 3).toInt) from by omega) (show (a3_200.toInt = 1 → ((a5_200.toInt = 0 → (I_200 5).toInt = 0) ∧ (a5_200.toInt ≤ 1 → (I_200 5).toInt ≤ 9) ∧ (a5_200.toInt ≤ 2 → (I_200 5).toInt ≤ 99) ∧ (a5_200.toInt ≤ 3 → (I_200 5).toInt ≤ 999))) from by omega) (show ((a2_200.toInt = 1 → (97 ≤ (R0 0 (Int32.toNatClampNeg a1_200)).toInt ∧ (R0 0 (Int32.toNatClampNeg a1_200)).toInt ≤ 122))) from by omega) (show ((a3_200.toInt = 1 → (48 ≤ (R0 0 (Int32.toNatClampNeg a1_200)).toInt ∧ (R0 0 (Int32.toNatClampNeg a1_200)).toInt ≤ 57))) from by omega) (show (a1_200.toInt < (I0 1).toInt) from by omega) (show ((I_200 3).toInt ≤ (I_200 4).toInt) from by omega) (show ((I_200 4).toInt ≤ (I0 1).toInt) from by omega) (show ((¬ (I_200 2).toInt = 0) → (I_200 3).toInt < (I_200 4).toInt) from by omega) (show ((¬ (I0 6).toInt = 0) → (¬ (I_200 6).toInt = 0)) from by omega) (show ((I0 3).toInt ≤ (I_200 3).toInt) from by omega) hP hD hS (lv_sub hl [0, 1, 2, 3, 4, 5] rfl)
  have lab_195 : ∀ (a1_195 : Int32) (a2_195 : Int32) (a3_195 : Int32) (b0_195 : Int32) (I_195 : Nat → Int32) (J_195 : Nat → Int64) (R_195 : Nat → Nat → Int32) (L_195 : Nat → Nat → Int64) (H : Heap) (locs : List Loc) (ls : Array Slot), InvI Wm_lo Wm_hi I_195 → InvR Wm_rl R_195 → SmF ([2, 3, 4, 5, 6, 7] : List Nat) I0 I_195 → SmF ([] : List Nat) R0 R_195 → ((0 : Int) ≤ a1_195.toInt ∧ a1_195.toInt ≤ (1799 : Int)) → ((0 : Int) ≤ a2_195.toInt ∧ a2_195.toInt ≤ (1 : Int)) → ((0 : Int) ≤ a3_195.toInt ∧ a3_195.toInt ≤ (1 : Int)) → ((4 : Int) ≤ b0_195.toInt ∧ b0_195.toInt ≤ (6 : Int)) → ((I_195 3).toInt = a1_195.toInt) → ((I_195 4).toInt = a1_195.toInt + 1) → (a1_195.toInt < (I0 1).toInt) → ((I0 4).toInt ≤ a1_195.toInt) → (a2_195.toInt + a3_195.toInt = 1) → ((a2_195.toInt = 1 → (97 ≤ (R0 0 (Int32.toNatClampNeg a1_195)).toInt ∧ (R0 0 (Int32.toNatClampNeg a1_195)).toInt ≤ 122))) → ((a3_195.toInt = 1 → (48 ≤ (R0 0 (Int32.toNatClampNeg a1_195)).toInt ∧ (R0 0 (Int32.toNatClampNeg a1_195)).toInt ≤ 57))) → ((I_195 5).toInt = 0) → (a3_195.toInt = 1 → b0_195.toInt = 4) → ((I_195 3).toInt ≤ (I_195 4).toInt) → ((I_195 4).toInt ≤ (I0 1).toInt) → ((¬ (I_195 2).toInt = 0) → (I_195 3).toInt < (I_195 4).toInt) → ((¬ (I0 6).toInt = 0) → (¬ (I_195 6).toInt = 0)) → ((I0 3).toInt ≤ (I_195 3).toInt) → va_P G.1 vwCl (Wm G g q I_195 J_195 R_195 L_195) H → va_D A (Wm G g q I_195 J_195 R_195 L_195) → va_S A s.heap H locs → lv_has ls 6 [(0, .ref (g 45)), (1, .int a1_195), (2, .int a2_195), (3, .int a3_195)] → W p l e (rmD 2 0 0) s m [.ref (g 45)].toArray below meth c H locs 0 0 Q (F0 m 195 ls [.int b0_195]) := by
    intro a1_195 a2_195 a3_195 b0_195 I_195 J_195 R_195 L_195 H locs ls hvI hvR hsI hsR y0_195 y1_195 y2_195 y3_195 z0_195 z1_195 z2_195 z3_195 z4_195 z5_195 z6_195 z7_195 z8_195 z9_195 z10_195 z11_195 z12_195 z13_195 hP hD hS hl
    have hv_I_195 := hvI
    have w_I_195_1 := rg (hvI 1 (by decide)) (0) (1800) rfl rfl
    have v_I_195_1 : (I_195 1).toInt = (I0 1).toInt := congrArg Int32.toInt (hsI 1 rfl)
    have w_I_195_2 := rg (hvI 2 (by decide)) (0) (3) rfl rfl
    have w_I_195_3 := rg (hvI 3 (by decide)) (0) (1800) rfl rfl
    have w_I_195_4 := rg (hvI 4 (by decide)) (0) (1800) rfl rfl
    have w_I_195_5 := rg (hvI 5 (by decide)) (0) (9999) rfl rfl
    have w_I_195_6 := rg (hvI 6 (by decide)) (0) (5) rfl rfl
    refine lv_istore (lv' := [(4, .int b0_195), (0, .ref (g 45)), (1, .int a1_195), (2, .int a2_195), (3, .int a3_195)]) hx hb dX12_ahead_195 hl (by decide) rfl (fun ls hl => ?_)
    refine lv_iconst (v := 0) hx hb dX12_ahead_197 (by decide) ?_
    refine lv_istore (lv' := [(5, .int 0), (4, .int b0_195), (0, .ref (g 45)), (1, .int a1_195), (2, .int a2_195), (3, .int a3_195)]) hx hb dX12_ahead_198 hl (by decide) rfl (fun ls hl => ?_)
    exact lab_200 1801 a1_195 a2_195 a3_195 b0_195 0 I_195 J_195 R_195 L_195 _ _ _ (show (1800 - a1_195.toInt) < ((1801 : Nat) : Int) from by omega) hvI hvR hsI hsR (show ((0 : Int) ≤ a1_195.toInt ∧ a1_195.toInt ≤ (1800 : Int)) from by omega) (show ((0 : Int) ≤ a2_195.toInt ∧ a2_195.toInt ≤ (1 : Int)) from by omega) (show ((0 : Int) ≤ a3_195.toInt ∧ a3_195.toInt ≤ (1 : Int)) from by omega) (show ((4 : Int) ≤ b0_195.toInt ∧ b0_195.toInt ≤ (6 : Int)) from by omega) (show ((I_195 3).toInt ≤ a1_195.toInt) from by omega) (show ((I_195 4).toInt = (I_195 3).toInt + 1) from by omega) (show (a1_195.toInt ≤ (I0 1).toInt) from by omega) (show ((I0 4).toInt ≤ (I_195 3).toInt) from by omega) (show (a2_195.toInt + a3_195.toInt = 1) from by omega) (show (a3_195.toInt = 1 → b0_195.toInt = 4) from by omega) (show (0 = a1_195.toInt - (I_195 3).toInt) from by omega) (show (a3_195.toInt = 1 → ((0 = 0 → (I_195 5).toInt = 0) ∧ (0 ≤ 1 → (I_195 5).toInt ≤ 9) ∧ (0 ≤ 2 → (I_195 5).toInt ≤ 99) ∧ (0 ≤ 3 → (I_195 5).toInt ≤ 999))) from by omega) (show (a1_195.toInt = (I_195 3).toInt → ((a2_195.toInt = 1 → (97 ≤ (R0 0 (Int32.toNatClampNeg a1_195)).toInt ∧ (R0 0 (Int32.toNatClampNeg a1_195)).toInt ≤ 122)) ∧ (a3_195.toInt = 1 → (48 ≤ (R0 0 (Int32.toNatClampNeg a1_195)).toInt ∧ (R0 0 (Int32.toNatClampNeg a1_195)).toInt ≤ 57)))) from by omega) (show ((I_195 3).toInt ≤ (I_195 4).toInt) from by omega) (show ((I_195 4).toInt ≤ (I0 1).toInt) from by omega) (show ((¬ (I_195 2).toInt = 0) → (I_195 3).toInt < (I_195 4).toInt) from by omega) (show ((¬ (I0 6).toInt = 0) → (¬ (I_195 6).toInt = 0)) from by omega) (show ((I0 3).toInt ≤ (I_195 3).toInt) from by omega) hP hD hS (lv_sub hl [2, 3, 4, 5, 1, 0] rfl)
  have lab_182 : ∀ (a1_182 : Int32) (a2_182 : Int32) (a3_182 : Int32) (b0_182 : Int32) (I_182 : Nat → Int32) (J_182 : Nat → Int64) (R_182 : Nat → Nat → Int32) (L_182 : Nat → Nat → Int64) (H : Heap) (locs : List Loc) (ls : Array Slot), InvI Wm_lo Wm_hi I_182 → InvR Wm_rl R_182 → SmF ([2, 3, 4, 5, 6, 7] : List Nat) I0 I_182 → SmF ([] : List Nat) R0 R_182 → ((0 : Int) ≤ a1_182.toInt ∧ a1_182.toInt ≤ (1799 : Int)) → ((0 : Int) ≤ a2_182.toInt ∧ a2_182.toInt ≤ (1 : Int)) → ((0 : Int) ≤ a3_182.toInt ∧ a3_182.toInt ≤ (1 : Int)) → ((1 : Int) ≤ b0_182.toInt ∧ b0_182.toInt ≤ (2 : Int)) → ((I_182 3).toInt = a1_182.toInt) → ((I_182 4).toInt = a1_182.toInt + 1) → (a1_182.toInt < (I0 1).toInt) → ((I0 4).toInt ≤ a1_182.toInt) → (a2_182.toInt + a3_182.toInt = 1) → ((a2_182.toInt = 1 → (97 ≤ (R0 0 (Int32.toNatClampNeg a1_182)).toInt ∧ (R0 0 (Int32.toNatClampNeg a1_182)).toInt ≤ 122))) → ((a3_182.toInt = 1 → (48 ≤ (R0 0 (Int32.toNatClampNeg a1_182)).toInt ∧ (R0 0 (Int32.toNatClampNeg a1_182)).toInt ≤ 57))) → ((I_182 5).toInt = 0) → ((I_182 3).toInt ≤ (I_182 4).toInt) → ((I_182 4).toInt ≤ (I0 1).toInt) → ((¬ (I_182 2).toInt = 0) → (I_182 3).toInt < (I_182 4).toInt) → ((¬ (I0 6).toInt = 0) → (¬ (I_182 6).toInt = 0)) → ((I0 3).toInt ≤ (I_182 3).toInt) → va_P G.1 vwCl (Wm G g q I_182 J_182 R_182 L_182) H → va_D A (Wm G g q I_182 J_182 R_182 L_182) → va_S A s.heap H locs → lv_has ls 6 [(0, .ref (g 45)), (1, .int a1_182), (2, .int a2_182), (3, .int a3_182)] → W p l e (rmD 2 0 0) s m [.ref (g 45)].toArray below meth c H locs 0 0 Q (F0 m 182 ls [.int b0_182, .ref (g 45)]) := by
    intro a1_182 a2_182 a3_182 b0_182 I_182 J_182 R_182 L_182 H locs ls hvI hvR hsI hsR y0_182 y1_182 y2_182 y3_182 z0_182 z1_182 z2_182 z3_182 z4_182 z5_182 z6_182 z7_182 z8_182 z9_182 z10_182 z11_182 z12_182 hP hD hS hl
    have hv_I_182 := hvI
    have w_I_182_1 := rg (hvI 1 (by decide)) (0) (1800) rfl rfl
    have v_I_182_1 : (I_182 1).toInt = (I0 1).toInt := congrArg Int32.toInt (hsI 1 rfl)
    have w_I_182_2 := rg (hvI 2 (by decide)) (0) (3) rfl rfl
    have w_I_182_3 := rg (hvI 3 (by decide)) (0) (1800) rfl rfl
    have w_I_182_4 := rg (hvI 4 (by decide)) (0) (1800) rfl rfl
    have w_I_182_5 := rg (hvI 5 (by decide)) (0) (9999) rfl rfl
    have w_I_182_6 := rg (hvI 6 (by decide)) (0) (5) rfl rfl
    refine p_fld (W1 := fun y => Wm G g q y J_182 R_182 L_182) (n := 2) (v := b0_182) F hK hP hD hS 0 (Wm_at0 G g q I_182 J_182 R_182 L_182) clX12 3 (by decide) flX12_20 rfl rfl rfl (Nat.le_of_ble_eq_true rfl) dX12_ahead_182 (Wm_setI2 G g q I_182 J_182 R_182 L_182 _) (fun I35 H locs eI35 hP hD hS => ?_)
    have hvI : InvI Wm_lo Wm_hi I35 := inv_upI hvI 2 eI35 (show ((0 : Int) ≤ b0_182.toInt ∧ b0_182.toInt ≤ (3 : Int)) from by omega)
    have hsI := smF_up hsI eI35 (by decide)
    have hv_I35 := hvI
    have u_I35_1 : (I35 1).toInt = (I_182 1).toInt := by rw [eI35]; rfl
    have u_I35_2 : (I35 2).toInt = b0_182.toInt := by rw [eI35]; rfl
    have u_I35_3 : (I35 3).toInt = (I_182 3).toInt := by rw [eI35]; rfl
    have u_I35_4 : (I35 4).toInt = (I_182 4).toInt := by rw [eI35]; rfl
    have u_I35_5 : (I35 5).toInt = (I_182 5).toInt := by rw [eI35]; rfl
    have u_I35_6 : (I35 6).toInt = (I_182 6).toInt := by rw [eI35]; rfl
    refine lv_iload_n hx hb dX12_ahead_185 rfl (lv_at hl 2 rfl) ?_
    refine lv_if_eq (tgt := 194) hx hb dX12_ahead_186 (by decide) (fun c36 => ?_) (fun c36 => ?_)
    · have gc36 : a2_182.toInt = 0 := congrArg Int32.toInt c36
      refine lv_iconst (v := 4) hx hb dX12_ahead_194 (by decide) ?_
      exact lab_195 a1_182 a2_182 a3_182 4 I35 J_182 R_182 L_182 _ _ _ hvI hvR hsI hsR (show ((0 : Int) ≤ a1_182.toInt ∧ a1_182.toInt ≤ (1799 : Int)) from by omega) (show ((0 : Int) ≤ a2_182.toInt ∧ a2_182.toInt ≤ (1 : Int)) from by omega) (show ((0 : Int) ≤ a3_182.toInt ∧ a3_182.toInt ≤ (1 : Int)) from by omega) (by decide) (show ((I35 3).toInt = a1_182.toInt) from by omega) (show ((I35 4).toInt = a1_182.toInt + 1) from by omega) (show (a1_182.toInt < (I0 1).toInt) from by omega) (show ((I0 4).toInt ≤ a1_182.toInt) from by omega) (show (a2_182.toInt + a3_182.toInt = 1) from by omega) (show ((a2_182.toInt = 1 → (97 ≤ (R0 0 (Int32.toNatClampNeg a1_182)).toInt ∧ (R0 0 (Int32.toNatClampNeg a1_182)).toInt ≤ 122))) from by omega) (show ((a3_182.toInt = 1 → (48 ≤ (R0 0 (Int32.toNatClampNeg a1_182)).toInt ∧ (R0 0 (Int32.toNatClampNeg a1_182)).toInt ≤ 57))) from by omega) (show ((I35 5).toInt = 0) from by omega) (show (a3_182.toInt = 1 → 4 = 4) from by omega) (show ((I35 3).toInt ≤ (I35 4).toInt) from by omega) (show ((I35 4).toInt ≤ (I0 1).toInt) from by omega) (show ((¬ (I35 2).toInt = 0) → (I35 3).toInt < (I35 4).toInt) from by omega) (show ((¬ (I0 6).toInt = 0) → (¬ (I35 6).toInt = 0)) from by omega) (show ((I0 3).toInt ≤ (I35 3).toInt) from by omega) hP hD hS (lv_sub hl [0, 1, 2, 3] rfl)
    · have gc36 : ¬ (a2_182.toInt = 0) := fun q0 => c36 (Int32.toInt_inj.mp q0)
      refine lv_bipush (v := 6) hx hb dX12_ahead_189 (by decide) ?_
      refine lv_goto (tgt := 195) hx hb dX12_ahead_191 (by decide) ?_
      exact lab_195 a1_182 a2_182 a3_182 6 I35 J_182 R_182 L_182 _ _ _ hvI hvR hsI hsR (show ((0 : Int) ≤ a1_182.toInt ∧ a1_182.toInt ≤ (1799 : Int)) from by omega) (show ((0 : Int) ≤ a2_182.toInt ∧ a2_182.toInt ≤ (1 : Int)) from by omega) (show ((0 : Int) ≤ a3_182.toInt ∧ a3_182.toInt ≤ (1 : Int)) from by omega) (by decide) (show ((I35 3).toInt = a1_182.toInt) from by omega) (show ((I35 4).toInt = a1_182.toInt + 1) from by omega) (show (a1_182.toInt < (I0 1).toInt) from by omega) (show ((I0 4).toInt ≤ a1_182.toInt) from by omega) (show (a2_182.toInt + a3_182.toInt = 1) from by omega) (show ((a2_182.toInt = 1 → (97 ≤ (R0 0 (Int32.toNatClampNeg a1_182)).toInt ∧ (R0 0 (Int32.toNatClampNeg a1_182)).toInt ≤ 122))) from by omega) (show ((a3_182.toInt = 1 → (48 ≤ (R0 0 (Int32.toNatClampNeg a1_182)).toInt ∧ (R0 0 (Int32.toNatClampNeg a1_182)).toInt ≤ 57))) from by omega) (show ((I35 5).toInt = 0) from by omega) (show (a3_182.toInt = 1 → 6 = 4) from by omega) (show ((I35 3).toInt ≤ (I35 4).toInt) from by omega) (show ((I35 4).toInt ≤ (I0 1).toInt) from by omega) (show ((¬ (I35 2).toInt = 0) → (I35 3).toInt < (I35 4).toInt) from by omega) (show ((¬ (I0 6).toInt = 0) → (¬ (I35 6).toInt = 0)) from by omega) (show ((I0 3).toInt ≤ (I35 3).toInt) from by omega) hP hD hS (lv_sub hl [0, 1, 2, 3] rfl)
  have lab_172 : ∀ (a1_172 : Int32) (a2_172 : Int32) (a3_172 : Int32) (I_172 : Nat → Int32) (J_172 : Nat → Int64) (R_172 : Nat → Nat → Int32) (L_172 : Nat → Nat → Int64) (H : Heap) (locs : List Loc) (ls : Array Slot), InvI Wm_lo Wm_hi I_172 → InvR Wm_rl R_172 → SmF ([2, 3, 4, 5, 6, 7] : List Nat) I0 I_172 → SmF ([] : List Nat) R0 R_172 → ((0 : Int) ≤ a1_172.toInt ∧ a1_172.toInt ≤ (1799 : Int)) → ((0 : Int) ≤ a2_172.toInt ∧ a2_172.toInt ≤ (1 : Int)) → ((0 : Int) ≤ a3_172.toInt ∧ a3_172.toInt ≤ (1 : Int)) → ((I_172 3).toInt = a1_172.toInt) → ((I_172 4).toInt = a1_172.toInt + 1) → (a1_172.toInt < (I0 1).toInt) → ((I0 4).toInt ≤ a1_172.toInt) → (a2_172.toInt + a3_172.toInt = 1) → ((a2_172.toInt = 1 → (97 ≤ (R0 0 (Int32.toNatClampNeg a1_172)).toInt ∧ (R0 0 (Int32.toNatClampNeg a1_172)).toInt ≤ 122))) → ((a3_172.toInt = 1 → (48 ≤ (R0 0 (Int32.toNatClampNeg a1_172)).toInt ∧ (R0 0 (Int32.toNatClampNeg a1_172)).toInt ≤ 57))) → ((I_172 5).toInt = 0) → ((I_172 3).toInt ≤ (I_172 4).toInt) → ((I_172 4).toInt ≤ (I0 1).toInt) → ((¬ (I_172 2).toInt = 0) → (I_172 3).toInt < (I_172 4).toInt) → ((¬ (I0 6).toInt = 0) → (¬ (I_172 6).toInt = 0)) → ((I0 3).toInt ≤ (I_172 3).toInt) → va_P G.1 vwCl (Wm G g q I_172 J_172 R_172 L_172) H → va_D A (Wm G g q I_172 J_172 R_172 L_172) → va_S A s.heap H locs → lv_has ls 6 [(0, .ref (g 45)), (1, .int a1_172), (2, .int a2_172), (3, .int a3_172)] → W p l e (rmD 2 0 0) s m [.ref (g 45)].toArray below meth c H locs 0 0 Q (F0 m 172 ls []) := by
    intro a1_172 a2_172 a3_172 I_172 J_172 R_172 L_172 H locs ls hvI hvR hsI hsR y0_172 y1_172 y2_172 z0_172 z1_172 z2_172 z3_172 z4_172 z5_172 z6_172 z7_172 z8_172 z9_172 z10_172 z11_172 z12_172 hP hD hS hl
    have hv_I_172 := hvI
    have w_I_172_1 := rg (hvI 1 (by decide)) (0) (1800) rfl rfl
    have v_I_172_1 : (I_172 1).toInt = (I0 1).toInt := congrArg Int32.toInt (hsI 1 rfl)
    have w_I_172_2 := rg (hvI 2 (by decide)) (0) (3) rfl rfl
    have w_I_172_3 := rg (hvI 3 (by decide)) (0) (1800) rfl rfl
    have w_I_172_4 := rg (hvI 4 (by decide)) (0) (1800) rfl rfl
    have w_I_172_5 := rg (hvI 5 (by decide)) (0) (9999) rfl rfl
    have w_I_172_6 := rg (hvI 6 (by decide)) (0) (5) rfl rfl
    refine lv_aload_n hx hb dX12_ahead_172 rfl (lv_at hl 0 rfl) ?_
    refine lv_iload_n hx hb dX12_ahead_173 rfl (lv_at hl 2 rfl) ?_
    refine lv_if_eq (tgt := 181) hx hb dX12_ahead_174 (by decide) (fun c37 => ?_) (fun c37 => ?_)
    · have gc37 : a2_172.toInt = 0 := congrArg Int32.toInt c37
      refine lv_iconst (v := 2) hx hb dX12_ahead_181 (by decide) ?_
      exact lab_182 a1_172 a2_172 a3_172 2 I_172 J_172 R_172 L_172 _ _ _ hvI hvR hsI hsR (show ((0 : Int) ≤ a1_172.toInt ∧ a1_172.toInt ≤ (1799 : Int)) from by omega) (show ((0 : Int) ≤ a2_172.toInt ∧ a2_172.toInt ≤ (1 : Int)) from by omega) (show ((0 : Int) ≤ a3_172.toInt ∧ a3_172.toInt ≤ (1 : Int)) from by omega) (by decide) (show ((I_172 3).toInt = a1_172.toInt) from by omega) (show ((I_172 4).toInt = a1_172.toInt + 1) from by omega) (show (a1_172.toInt < (I0 1).toInt) from by omega) (show ((I0 4).toInt ≤ a1_172.toInt) from by omega) (show (a2_172.toInt + a3_172.toInt = 1) from by omega) (show ((a2_172.toInt = 1 → (97 ≤ (R0 0 (Int32.toNatClampNeg a1_172)).toInt ∧ (R0 0 (Int32.toNatClampNeg a1_172)).toInt ≤ 122))) from by omega) (show ((a3_172.toInt = 1 → (48 ≤ (R0 0 (Int32.toNatClampNeg a1_172)).toInt ∧ (R0 0 (Int32.toNatClampNeg a1_172)).toInt ≤ 57))) from by omega) (show ((I_172 5).toInt = 0) from by omega) (show ((I_172 3).toInt ≤ (I_172 4).toInt) from by omega) (show ((I_172 4).toInt ≤ (I0 1).toInt) from by omega) (show ((¬ (I_172 2).toInt = 0) → (I_172 3).toInt < (I_172 4).toInt) from by omega) (show ((¬ (I0 6).toInt = 0) → (¬ (I_172 6).toInt = 0)) from by omega) (show ((I0 3).toInt ≤ (I_172 3).toInt) from by omega) hP hD hS (lv_sub hl [0, 1, 2, 3] rfl)
    · have gc37 : ¬ (a2_172.toInt = 0) := fun q0 => c37 (Int32.toInt_inj.mp q0)
      refine lv_iconst (v := 1) hx hb dX12_ahead_177 (by decide) ?_
      refine lv_goto (tgt := 182) hx hb dX12_ahead_178 (by decide) ?_
      exact lab_182 a1_172 a2_172 a3_172 1 I_172 J_172 R_172 L_172 _ _ _ hvI hvR hsI hsR (show ((0 : Int) ≤ a1_172.toInt ∧ a1_172.toInt ≤ (1799 : Int)) from by omega) (show ((0 : Int) ≤ a2_172.toInt ∧ a2_172.toInt ≤ (1 : Int)) from by omega) (show ((0 : Int) ≤ a3_172.toInt ∧ a3_172.toInt ≤ (1 : Int)) from by omega) (by decide) (show ((I_172 3).toInt = a1_172.toInt) from by omega) (show ((I_172 4).toInt = a1_172.toInt + 1) from by omega) (show (a1_172.toInt < (I0 1).toInt) from by omega) (show ((I0 4).toInt ≤ a1_172.toInt) from by omega) (show (a2_172.toInt + a3_172.toInt = 1) from by omega) (show ((a2_172.toInt = 1 → (97 ≤ (R0 0 (Int32.toNatClampNeg a1_172)).toInt ∧ (R0 0 (Int32.toNatClampNeg a1_172)).toInt ≤ 122))) from by omega) (show ((a3_172.toInt = 1 → (48 ≤ (R0 0 (Int32.toNatClampNeg a1_172)).toInt ∧ (R0 0 (Int32.toNatClampNeg a1_172)).toInt ≤ 57))) from by omega) (show ((I_172 5).toInt = 0) from by omega) (show ((I_172 3).toInt ≤ (I_172 4).toInt) from by omega) (show ((I_172 4).toInt ≤ (I0 1).toInt) from by omega) (show ((¬ (I_172 2).toInt = 0) → (I_172 3).toInt < (I_172 4).toInt) from by omega) (show ((¬ (I0 6).toInt = 0) → (¬ (I_172 6).toInt = 0)) from by omega) (show ((I0 3).toInt ≤ (I_172 3).toInt) from by omega) hP hD hS (lv_sub hl [0, 1, 2, 3] rfl)
  have lab_131 : ∀ (a1_131 : Int32) (a2_131 : Int32) (a3_131 : Int32) (I_131 : Nat → Int32) (J_131 : Nat → Int64) (R_131 : Nat → Nat → Int32) (L_131 : Nat → Nat → Int64) (H : Heap) (locs : List Loc) (ls : Array Slot), InvI Wm_lo Wm_hi I_131 → InvR Wm_rl R_131 → SmF ([2, 3, 4, 5, 6, 7] : List Nat) I0 I_131 → SmF ([] : List Nat) R0 R_131 → ((0 : Int) ≤ a1_131.toInt ∧ a1_131.toInt ≤ (1799 : Int)) → ((0 : Int) ≤ a2_131.toInt ∧ a2_131.toInt ≤ (1 : Int)) → ((0 : Int) ≤ a3_131.toInt ∧ a3_131.toInt ≤ (1 : Int)) → ((I_131 3).toInt = a1_131.toInt) → ((I_131 4).toInt = a1_131.toInt) → (a1_131.toInt < (I0 1).toInt) → ((I0 4).toInt ≤ a1_131.toInt) → (a2_131.toInt + a3_131.toInt ≤ 1) → ((a2_131.toInt = 1 → (97 ≤ (R0 0 (Int32.toNatClampNeg a1_131)).toInt ∧ (R0 0 (Int32.toNatClampNeg a1_131)).toInt ≤ 122))) → ((a3_131.toInt = 1 → (48 ≤ (R0 0 (Int32.toNatClampNeg a1_131)).toInt ∧ (R0 0 (Int32.toNatClampNeg a1_131)).toInt ≤ 57))) → ((I_131 3).toInt ≤ (I_131 4).toInt) → ((I_131 4).toInt ≤ (I0 1).toInt) → ((¬ (I_131 2).toInt = 0) → (I_131 3).toInt < (I_131 4).toInt) → ((¬ (I0 6).toInt = 0) → (¬ (I_131 6).toInt = 0)) → ((I0 3).toInt ≤ (I_131 3).toInt) → va_P G.1 vwCl (Wm G g q I_131 J_131 R_131 L_131) H → va_D A (Wm G g q I_131 J_131 R_131 L_131) → va_S A s.heap H locs → lv_has ls 6 [(0, .ref (g 45)), (1, .int a1_131), (2, .int a2_131), (3, .int a3_131)] → W p l e (rmD 2 0 0) s m [.ref (g 45)].toArray below meth c H locs 0 0 Q (F0 m 131 ls []) := by
    intro a1_131 a2_131 a3_131 I_131 J_131 R_131 L_131 H locs ls hvI hvR hsI hsR y0_131 y1_131 y2_131 z0_131 z1_131 z2_131 z3_131 z4_131 z5_131 z6_131 z7_131 z8_131 z9_131 z10_131 z11_131 hP hD hS hl
    have hv_I_131 := hvI
    have w_I_131_1 := rg (hvI 1 (by decide)) (0) (1800) rfl rfl
    have v_I_131_1 : (I_131 1).toInt = (I0 1).toInt := congrArg Int32.toInt (hsI 1 rfl)
    have w_I_131_2 := rg (hvI 2 (by decide)) (0) (3) rfl rfl
    have w_I_131_3 := rg (hvI 3 (by decide)) (0) (1800) rfl rfl
    have w_I_131_4 := rg (hvI 4 (by decide)) (0) (1800) rfl rfl
    have w_I_131_5 := rg (hvI 5 (by decide)) (0) (9999) rfl rfl
    have w_I_131_6 := rg (hvI 6 (by decide)) (0) (5) rfl rfl
    refine lv_aload_n hx hb dX12_ahead_131 rfl (lv_at hl 0 rfl) ?_
    refine lv_iconst (v := 0) hx hb dX12_ahead_132 (by decide) ?_
    refine p_fld (W1 := fun y => Wm G g q y J_131 R_131 L_131) (n := 5) (v := 0) F hK hP hD hS 0 (Wm_at0 G g q I_131 J_131 R_131 L_131) clX12 6 (by decide) flX12_29 rfl rfl rfl (Nat.le_of_ble_eq_true rfl) dX12_ahead_133 (Wm_setI5 G g q I_131 J_131 R_131 L_131 _) (fun I38 H locs eI38 hP hD hS => ?_)
    have hvI : InvI Wm_lo Wm_hi I38 := inv_upI hvI 5 eI38 (by decide)
    have hsI := smF_up hsI eI38 (by decide)
    have hv_I38 := hvI
    have u_I38_1 : (I38 1).toInt = (I_131 1).toInt := by rw [eI38]; rfl
    have u_I38_2 : (I38 2).toInt = (I_131 2).toInt := by rw [eI38]; rfl
    have u_I38_3 : (I38 3).toInt = (I_131 3).toInt := by rw [eI38]; rfl
    have u_I38_4 : (I38 4).toInt = (I_131 4).toInt := by rw [eI38]; rfl
    have u_I38_5 : (I38 5).toInt = 0 := by rw [eI38]; rfl
    have u_I38_6 : (I38 6).toInt = (I_131 6).toInt := by rw [eI38]; rfl
    refine lv_aload_n hx hb dX12_ahead_136 rfl (lv_at hl 0 rfl) ?_
    refine lv_lconst (v := 0) hx hb dX12_ahead_137 (by decide) ?_
    refine p_fld (W1 := fun y => Wm G g q I38 y R_131 L_131) (n := 0) (v := 0) F hK hP hD hS 0 (Wm_at0 G g q I38 J_131 R_131 L_131) clX12 7 (by decide) flX12_32 rfl rfl rfl (Nat.le_of_ble_eq_true rfl) dX12_ahead_138 (Wm_setJ0 G g q I38 J_131 R_131 L_131 _) (fun J39 H locs eJ39 hP hD hS => ?_)
    refine lv_aload_n hx hb dX12_ahead_141 rfl (lv_at hl 0 rfl) ?_
    refine lv_iconst (v := 3) hx hb dX12_ahead_142 (by decide) ?_
    refine p_fld (W1 := fun y => Wm G g q y J39 R_131 L_131) (n := 2) (v := 3) F hK hP hD hS 0 (Wm_at0 G g q I38 J39 R_131 L_131) clX12 3 (by decide) flX12_20 rfl rfl rfl (Nat.le_of_ble_eq_true rfl) dX12_ahead_143 (Wm_setI2 G g q I38 J39 R_131 L_131 _) (fun I40 H locs eI40 hP hD hS => ?_)
    have hvI : InvI Wm_lo Wm_hi I40 := inv_upI hvI 2 eI40 (by decide)
    have hsI := smF_up hsI eI40 (by decide)
    have hv_I40 := hvI
    have u_I40_1 : (I40 1).toInt = (I38 1).toInt := by rw [eI40]; rfl
    have u_I40_2 : (I40 2).toInt = 3 := by rw [eI40]; rfl
    have u_I40_3 : (I40 3).toInt = (I38 3).toInt := by rw [eI40]; rfl
    have u_I40_4 : (I40 4).toInt = (I38 4).toInt := by rw [eI40]; rfl
    have u_I40_5 : (I40 5).toInt = (I38 5).toInt := by rw [eI40]; rfl
    have u_I40_6 : (I40 6).toInt = (I38 6).toInt := by rw [eI40]; rfl
    refine lv_aload_n hx hb dX12_ahead_146 rfl (lv_at hl 0 rfl) ?_
    refine lv_iload_n hx hb dX12_ahead_147 rfl (lv_at hl 1 rfl) ?_
    refine lv_iconst (v := 1) hx hb dX12_ahead_148 (by decide) ?_
    refine lv_iadd hx hb dX12_ahead_149 ?_
    refine lv_topi (fun x41 ex41 => ?_)
    have fx41 : x41.toInt = a1_131.toInt + 1 := by rw [ex41]; exact t_add (by show (-2147483648 : Int) ≤ a1_131.toInt + 1; omega) (by show a1_131.toInt + 1 ≤ 2147483647; omega)
    refine p_fld (W1 := fun y => Wm G g q y J39 R_131 L_131) (n := 4) (v := x41) F hK hP hD hS 0 (Wm_at0 G g q I40 J39 R_131 L_131) clX12 5 (by decide) flX12_26 rfl rfl rfl (Nat.le_of_ble_eq_true rfl) dX12_ahead_150 (Wm_setI4 G g q I40 J39 R_131 L_131 _) (fun I42 H locs eI42 hP hD hS => ?_)
    have hvI : InvI Wm_lo Wm_hi I42 := inv_upI hvI 4 eI42 (show ((0 : Int) ≤ x41.toInt ∧ x41.toInt ≤ (1800 : Int)) from by omega)
    have hsI := smF_up hsI eI42 (by decide)
    have hv_I42 := hvI
    have u_I42_1 : (I42 1).toInt = (I40 1).toInt := by rw [eI42]; rfl
    have u_I42_2 : (I42 2).toInt = (I40 2).toInt := by rw [eI42]; rfl
    have u_I42_3 : (I42 3).toInt = (I40 3).toInt := by rw [eI42]; rfl
    have u_I42_4 : (I42 4).toInt = x41.toInt := by rw [eI42]; rfl
    have u_I42_5 : (I42 5).toInt = (I40 5).toInt := by rw [eI42]; rfl
    have u_I42_6 : (I42 6).toInt = (I40 6).toInt := by rw [eI42]; rfl
    refine lv_iload_n hx hb dX12_ahead_153 rfl (lv_at hl 2 rfl) ?_
    refine lv_if_ne (tgt := 172) hx hb dX12_ahead_154 (by decide) (fun c43 => ?_) (fun c43 => ?_)
    · have gc43 : ¬ (a2_131.toInt = 0) := fun q0 => c43 (Int32.toInt_inj.mp q0)
      exact lab_172 a1_131 a2_131 a3_131 I42 J39 R_131 L_131 _ _ _ hvI hvR hsI hsR (show ((0 : Int) ≤ a1_131.toInt ∧ a1_131.toInt ≤ (1799 : Int)) from by omega) (show ((0 : Int) ≤ a2_131.toInt ∧ a2_131.toInt ≤ (1 : Int)) from by omega) (show ((0 : Int) ≤ a3_131.toInt ∧ a3_131.toInt ≤ (1 : Int)) from by omega) (show ((I42 3).toInt = a1_131.toInt) from by omega) (show ((I42 4).toInt = a1_131.toInt + 1) from by omega) (show (a1_131.toInt < (I0 1).toInt) from by omega) (show ((I0 4).toInt ≤ a1_131.toInt) from by omega) (show (a2_131.toInt + a3_131.toInt = 1) from by omega) (show ((a2_131.toInt = 1 → (97 ≤ (R0 0 (Int32.toNatClampNeg a1_131)).toInt ∧ (R0 0 (Int32.toNatClampNeg a1_131)).toInt ≤ 122))) from by omega) (show ((a3_131.toInt = 1 → (48 ≤ (R0 0 (Int32.toNatClampNeg a1_131)).toInt ∧ (R0 0 (Int32.toNatClampNeg a1_131)).toInt ≤ 57))) from by omega) (show ((I42 5).toInt = 0) from by omega) (show ((I42 3).toInt ≤ (I42 4).toInt) from by omega) (show ((I42 4).toInt ≤ (I0 1).toInt) from by omega) (show ((¬ (I42 2).toInt = 0) → (I42 3).toInt < (I42 4).toInt) from by omega) (show ((¬ (I0 6).toInt = 0) → (¬ (I42 6).toInt = 0)) from by omega) (show ((I0 3).toInt ≤ (I42 3).toInt) from by omega) hP hD hS (lv_sub hl [0, 1, 2, 3] rfl)
    · have gc43 : a2_131.toInt = 0 := congrArg Int32.toInt c43
      refine lv_iload_n hx hb dX12_ahead_157 rfl (lv_at hl 3 rfl) ?_
      refine lv_if_ne (tgt := 172) hx hb dX12_ahead_158 (by decide) (fun c44 => ?_) (fun c44 => ?_)
      · have gc44 : ¬ (a3_131.toInt = 0) := fun q0 => c44 (Int32.toInt_inj.mp q0)
        exact lab_172 a1_131 a2_131 a3_131 I42 J39 R_131 L_131 _ _ _ hvI hvR hsI hsR (show ((0 : Int) ≤ a1_131.toInt ∧ a1_131.toInt ≤ (1799 : Int)) from by omega) (show ((0 : Int) ≤ a2_131.toInt ∧ a2_131.toInt ≤ (1 : Int)) from by omega) (show ((0 : Int) ≤ a3_131.toInt ∧ a3_131.toInt ≤ (1 : Int)) from by omega) (show ((I42 3).toInt = a1_131.toInt) from by omega) (show ((I42 4).toInt = a1_131.toInt + 1) from by omega) (show (a1_131.toInt < (I0 1).toInt) from by omega) (show ((I0 4).toInt ≤ a1_131.toInt) from by omega) (show (a2_131.toInt + a3_131.toInt = 1) from by omega) (show ((a2_131.toInt = 1 → (97 ≤ (R0 0 (Int32.toNatClampNeg a1_131)).toInt ∧ (R0 0 (Int32.toNatClampNeg a1_131)).toInt ≤ 122))) from by omega) (show ((a3_131.toInt = 1 → (48 ≤ (R0 0 (Int32.toNatClampNeg a1_131)).toInt ∧ (R0 0 (Int32.toNatClampNeg a1_131)).toInt ≤ 57))) from by omega) (show ((I42 5).toInt = 0) from by omega) (show ((I42 3).toInt ≤ (I42 4).toInt) from by omega) (show ((I42 4).toInt ≤ (I0 1).toInt) from by omega) (show ((¬ (I42 2).toInt = 0) → (I42 3).toInt < (I42 4).toInt) from by omega) (show ((¬ (I0 6).toInt = 0) → (¬ (I42 6).toInt = 0)) from by omega) (show ((I0 3).toInt ≤ (I42 3).toInt) from by omega) hP hD hS (lv_sub hl [0, 1, 2, 3] rfl)
      · have gc44 : a3_131.toInt = 0 := congrArg Int32.toInt c44
        refine lv_aload_n hx hb dX12_ahead_161 rfl (lv_at hl 0 rfl) ?_
        refine lv_aload_n hx hb dX12_ahead_162 rfl (lv_at hl 0 rfl) ?_
        refine g_get F hK hP 0 (Wm_at0 G g q I42 J39 R_131 L_131) clX12 0 (by decide) flX12_7 rfl dX12_ahead_163 ?_
        refine lv_iload_n hx hb dX12_ahead_166 rfl (lv_at hl 1 rfl) ?_
        refine g_iald F hK hP 1 (Wm_at1 G g q I42 J39 R_131 L_131) (in_of (by omega)) dX12_ahead_167 rfl ?_
        refine lv_topi (fun x45 ex45 => ?_)
        have gx45 : x45.toInt = (R0 0 (Int32.toNatClampNeg a1_131)).toInt := congrArg Int32.toInt ((ex45).trans (congrFun (hsR 0 rfl) _))
        have fx45 : ((0 : Int) ≤ x45.toInt ∧ x45.toInt ≤ (255 : Int)) := by rw [ex45]; exact hvR 0 (by decide) _ (clamp_lt (n := 1800) (in_of (by omega)))
        refine p_fld (W1 := fun y => Wm G g q y J39 R_131 L_131) (n := 5) (v := x45) F hK hP hD hS 0 (Wm_at0 G g q I42 J39 R_131 L_131) clX12 6 (by decide) flX12_29 rfl rfl rfl (Nat.le_of_ble_eq_true rfl) dX12_ahead_168 (Wm_setI5 G g q I42 J39 R_131 L_131 _) (fun I46 H locs eI46 hP hD hS => ?_)
        have hvI : InvI Wm_lo Wm_hi I46 := inv_upI hvI 5 eI46 (show ((0 : Int) ≤ x45.toInt ∧ x45.toInt ≤ (9999 : Int)) from by omega)
        have hsI := smF_up hsI eI46 (by decide)
        have hv_I46 := hvI
        have u_I46_1 : (I46 1).toInt = (I42 1).toInt := by rw [eI46]; rfl
        have u_I46_2 : (I46 2).toInt = (I42 2).toInt := by rw [eI46]; rfl
        have u_I46_3 : (I46 3).toInt = (I42 3).toInt := by rw [eI46]; rfl
        have u_I46_4 : (I46 4).toInt = (I42 4).toInt := by rw [eI46]; rfl
        have u_I46_5 : (I46 5).toInt = x45.toInt := by rw [eI46]; rfl
        have u_I46_6 : (I46 6).toInt = (I42 6).toInt := by rw [eI46]; rfl
        rw [hQ]
        exact q_v F hr hlk (I46, J39, R_131, L_131) hP hD hS ⟨hvI, hvR, hsI, hsR, (show ((I0 4).toInt ≤ (I46 3).toInt) from by omega), (show ((I46 3).toInt ≤ (I46 4).toInt) from by omega), (show ((I46 4).toInt ≤ (I0 1).toInt) from by omega), (show ((¬ (I46 2).toInt = 0) → (I46 3).toInt < (I46 4).toInt) from by omega), (show ((¬ (I0 6).toInt = 0) → (¬ (I46 6).toInt = 0)) from by omega), (show ((I0 3).toInt ≤ (I46 3).toInt) from by omega)⟩ dX12_ahead_171 (Nat.le_of_ble_eq_true rfl) (Nat.le_of_ble_eq_true rfl)
  have lab_125 : ∀ (a1_125 : Int32) (a2_125 : Int32) (a3_125 : Int32) (I_125 : Nat → Int32) (J_125 : Nat → Int64) (R_125 : Nat → Nat → Int32) (L_125 : Nat → Nat → Int64) (H : Heap) (locs : List Loc) (ls : Array Slot), InvI Wm_lo Wm_hi I_125 → InvR Wm_rl R_125 → SmF ([2, 3, 4, 5, 6, 7] : List Nat) I0 I_125 → SmF ([] : List Nat) R0 R_125 → ((1 : Int) ≤ a1_125.toInt ∧ a1_125.toInt ≤ (1799 : Int)) → ((0 : Int) ≤ a2_125.toInt ∧ a2_125.toInt ≤ (1 : Int)) → ((0 : Int) ≤ a3_125.toInt ∧ a3_125.toInt ≤ (1 : Int)) → ((I_125 3).toInt = a1_125.toInt) → ((I_125 4).toInt = a1_125.toInt) → (a1_125.toInt < (I0 1).toInt) → ((I0 4).toInt ≤ a1_125.toInt) → (a2_125.toInt + a3_125.toInt ≤ 1) → ((a2_125.toInt = 1 → (97 ≤ (R0 0 (Int32.toNatClampNeg a1_125)).toInt ∧ (R0 0 (Int32.toNatClampNeg a1_125)).toInt ≤ 122))) → ((a3_125.toInt = 1 → (48 ≤ (R0 0 (Int32.toNatClampNeg a1_125)).toInt ∧ (R0 0 (Int32.toNatClampNeg a1_125)).toInt ≤ 57))) → ((I_125 3).toInt ≤ (I_125 4).toInt) → ((I_125 4).toInt ≤ (I0 1).toInt) → ((¬ (I_125 2).toInt = 0) → (I_125 3).toInt < (I_125 4).toInt) → ((¬ (I0 6).toInt = 0) → (¬ (I_125 6).toInt = 0)) → ((I0 3).toInt ≤ (I_125 3).toInt) → va_P G.1 vwCl (Wm G g q I_125 J_125 R_125 L_125) H → va_D A (Wm G g q I_125 J_125 R_125 L_125) → va_S A s.heap H locs → lv_has ls 6 [(0, .ref (g 45)), (1, .int a1_125), (2, .int a2_125), (3, .int a3_125)] → W p l e (rmD 2 0 0) s m [.ref (g 45)].toArray below meth c H locs 0 0 Q (F0 m 125 ls []) := by
    intro a1_125 a2_125 a3_125 I_125 J_125 R_125 L_125 H locs ls hvI hvR hsI hsR y0_125 y1_125 y2_125 z0_125 z1_125 z2_125 z3_125 z4_125 z5_125 z6_125 z7_125 z8_125 z9_125 z10_125 z11_125 hP hD hS hl
    have hv_I_125 := hvI
    have w_I_125_1 := rg (hvI 1 (by decide)) (0) (1800) rfl rfl
    have v_I_125_1 : (I_125 1).toInt = (I0 1).toInt := congrArg Int32.toInt (hsI 1 rfl)
    have w_I_125_2 := rg (hvI 2 (by decide)) (0) (3) rfl rfl
    have w_I_125_3 := rg (hvI 3 (by decide)) (0) (1800) rfl rfl
    have w_I_125_4 := rg (hvI 4 (by decide)) (0) (1800) rfl rfl
    have w_I_125_5 := rg (hvI 5 (by decide)) (0) (9999) rfl rfl
    have w_I_125_6 := rg (hvI 6 (by decide)) (0) (5) rfl rfl
    refine lv_aload_n hx hb dX12_ahead_125 rfl (lv_at hl 0 rfl) ?_
    refine lv_iconst (v := 1) hx hb dX12_ahead_126 (by decide) ?_
    refine lv_iload_n hx hb dX12_ahead_127 rfl (lv_at hl 1 rfl) ?_
    refine wvv (As := [.int 1, .int a1_125]) (rest := []) (b := (g 45)) (d := 1) F hK hP hD hS hA (s_X12_blame l G g q I_125 J_125 R_125 L_125 hvI hvR  1 a1_125 (by decide) (show ((0 : Int) ≤ a1_125.toInt ∧ a1_125.toInt ≤ (1800 : Int)) from by omega)) kmV_X12_blame mlX12_240 clX12 rfl 0 (Wm_at0 G g q I_125 J_125 R_125 L_125) ⟨(Nat.le_of_ble_eq_true rfl), (Nat.le_of_ble_eq_true rfl)⟩ hl.1 rfl (Nat.le_of_ble_eq_true rfl) dX12_ahead_128 (fun u48 H locs hwr47 hP hD hS => ?_)
    obtain ⟨I49, J50, R51, L52⟩ := u48
    replace hP : va_P G.1 vwCl (Wm G g q I49 J50 R51 L52) H := hP
    replace hD : va_D A (Wm G g q I49 J50 R51 L52) := hD
    obtain ⟨hvI, hvR, tIr47, tRr47, F0r47⟩ := hwr47
    replace F0r47 : (¬ (I49 6).toInt = 0) := F0r47
    replace hvI : InvI Wm_lo Wm_hi I49 := hvI
    replace hvR : InvR Wm_rl R51 := hvR
    replace tIr47 : SmF ([6, 7] : List Nat) I_125 I49 := tIr47
    replace tRr47 : SmF ([] : List Nat) R_125 R51 := tRr47
    have hv_I49 := hvI
    have hsI := smF_tr hsI tIr47 (by decide)
    have hsR := smF_tr hsR tRr47 (by decide)
    have u_I49_1 : (I49 1).toInt = (I_125 1).toInt := congrArg Int32.toInt (tIr47 1 rfl)
    have u_I49_2 : (I49 2).toInt = (I_125 2).toInt := congrArg Int32.toInt (tIr47 2 rfl)
    have u_I49_3 : (I49 3).toInt = (I_125 3).toInt := congrArg Int32.toInt (tIr47 3 rfl)
    have u_I49_4 : (I49 4).toInt = (I_125 4).toInt := congrArg Int32.toInt (tIr47 4 rfl)
    have u_I49_5 : (I49 5).toInt = (I_125 5).toInt := congrArg Int32.toInt (tIr47 5 rfl)
    have w_I49_6 := rg (hvI 6 (by decide)) (0) (5) rfl rfl
    exact lab_131 a1_125 a2_125 a3_125 I49 J50 R51 L52 _ _ _ hvI hvR hsI hsR (show ((0 : Int) ≤ a1_125.toInt ∧ a1_125.toInt ≤ (1799 : Int)) from by omega) (show ((0 : Int) ≤ a2_125.toInt ∧ a2_125.toInt ≤ (1 : Int)) from by omega) (show ((0 : Int) ≤ a3_125.toInt ∧ a3_125.toInt ≤ (1 : Int)) from by omega) (show ((I49 3).toInt = a1_125.toInt) from by omega) (show ((I49 4).toInt = a1_125.toInt) from by omega) (show (a1_125.toInt < (I0 1).toInt) from by omega) (show ((I0 4).toInt ≤ a1_125.toInt) from by omega) (show (a2_125.toInt + a3_125.toInt ≤ 1) from by omega) (show ((a2_125.toInt = 1 → (97 ≤ (R0 0 (Int32.toNatClampNeg a1_125)).toInt ∧ (R0 0 (Int32.toNatClampNeg a1_125)).toInt ≤ 122))) from by omega) (show ((a3_125.toInt = 1 → (48 ≤ (R0 0 (Int32.toNatClampNeg a1_125)).toInt ∧ (R0 0 (Int32.toNatClampNeg a1_125)).toInt ≤ 57))) from by omega) (show ((I49 3).toInt ≤ (I49 4).toInt) from by omega) (show ((I49 4).toInt ≤ (I0 1).toInt) from by omega) (show ((¬ (I49 2).toInt = 0) → (I49 3).toInt < (I49 4).toInt) from by omega) (show ((¬ (I0 6).toInt = 0) → (¬ (I49 6).toInt = 0)) from by omega) (show ((I0 3).toInt ≤ (I49 3).toInt) from by omega) hP hD hS (lv_sub hl [0, 1, 2, 3] rfl)
  have lab_93 : ∀ (a1_93 : Int32) (a2_93 : Int32) (a3_93 : Int32) (I_93 : Nat → Int32) (J_93 : Nat → Int64) (R_93 : Nat → Nat → Int32) (L_93 : Nat → Nat → Int64) (H : Heap) (locs : List Loc) (ls : Array Slot), InvI Wm_lo Wm_hi I_93 → InvR Wm_rl R_93 → SmF ([2, 3, 4, 5, 6, 7] : List Nat) I0 I_93 → SmF ([] : List Nat) R0 R_93 → ((0 : Int) ≤ a1_93.toInt ∧ a1_93.toInt ≤ (1799 : Int)) → ((0 : Int) ≤ a2_93.toInt ∧ a2_93.toInt ≤ (1 : Int)) → ((0 : Int) ≤ a3_93.toInt ∧ a3_93.toInt ≤ (1 : Int)) → ((I_93 3).toInt = a1_93.toInt) → ((I_93 4).toInt = a1_93.toInt) → (a1_93.toInt < (I0 1).toInt) → ((I0 4).toInt ≤ a1_93.toInt) → (a2_93.toInt + a3_93.toInt ≤ 1) → ((a2_93.toInt = 1 → (97 ≤ (R0 0 (Int32.toNatClampNeg a1_93)).toInt ∧ (R0 0 (Int32.toNatClampNeg a1_93)).toInt ≤ 122))) → ((a3_93.toInt = 1 → (48 ≤ (R0 0 (Int32.toNatClampNeg a1_93)).toInt ∧ (R0 0 (Int32.toNatClampNeg a1_93)).toInt ≤ 57))) → ((I_93 3).toInt ≤ (I_93 4).toInt) → ((I_93 4).toInt ≤ (I0 1).toInt) → ((¬ (I_93 2).toInt = 0) → (I_93 3).toInt < (I_93 4).toInt) → ((¬ (I0 6).toInt = 0) → (¬ (I_93 6).toInt = 0)) → ((I0 3).toInt ≤ (I_93 3).toInt) → va_P G.1 vwCl (Wm G g q I_93 J_93 R_93 L_93) H → va_D A (Wm G g q I_93 J_93 R_93 L_93) → va_S A s.heap H locs → lv_has ls 6 [(0, .ref (g 45)), (1, .int a1_93), (2, .int a2_93), (3, .int a3_93)] → W p l e (rmD 2 0 0) s m [.ref (g 45)].toArray below meth c H locs 0 0 Q (F0 m 93 ls []) := by
    intro a1_93 a2_93 a3_93 I_93 J_93 R_93 L_93 H locs ls hvI hvR hsI hsR y0_93 y1_93 y2_93 z0_93 z1_93 z2_93 z3_93 z4_93 z5_93 z6_93 z7_93 z8_93 z9_93 z10_93 z11_93 hP hD hS hl
    have hv_I_93 := hvI
    have w_I_93_1 := rg (hvI 1 (by decide)) (0) (1800) rfl rfl
    have v_I_93_1 : (I_93 1).toInt = (I0 1).toInt := congrArg Int32.toInt (hsI 1 rfl)
    have w_I_93_2 := rg (hvI 2 (by decide)) (0) (3) rfl rfl
    have w_I_93_3 := rg (hvI 3 (by decide)) (0) (1800) rfl rfl
    have w_I_93_4 := rg (hvI 4 (by decide)) (0) (1800) rfl rfl
    have w_I_93_5 := rg (hvI 5 (by decide)) (0) (9999) rfl rfl
    have w_I_93_6 := rg (hvI 6 (by decide)) (0) (5) rfl rfl
    refine lv_iload_n hx hb dX12_ahead_93 rfl (lv_at hl 1 rfl) ?_
    refine lv_if_le (tgt := 131) hx hb dX12_ahead_94 (by decide) (fun c53 => ?_) (fun c53 => ?_)
    · have gc53 : a1_93.toInt ≤ 0 := (tle _ _).mp c53
      exact lab_131 a1_93 a2_93 a3_93 I_93 J_93 R_93 L_93 _ _ _ hvI hvR hsI hsR (show ((0 : Int) ≤ a1_93.toInt ∧ a1_93.toInt ≤ (1799 : Int)) from by omega) (show ((0 : Int) ≤ a2_93.toInt ∧ a2_93.toInt ≤ (1 : Int)) from by omega) (show ((0 : Int) ≤ a3_93.toInt ∧ a3_93.toInt ≤ (1 : Int)) from by omega) (show ((I_93 3).toInt = a1_93.toInt) from by omega) (show ((I_93 4).toInt = a1_93.toInt) from by omega) (show (a1_93.toInt < (I0 1).toInt) from by omega) (show ((I0 4).toInt ≤ a1_93.toInt) from by omega) (show (a2_93.toInt + a3_93.toInt ≤ 1) from by omega) (show ((a2_93.toInt = 1 → (97 ≤ (R0 0 (Int32.toNatClampNeg a1_93)).toInt ∧ (R0 0 (Int32.toNatClampNeg a1_93)).toInt ≤ 122))) from by omega) (show ((a3_93.toInt = 1 → (48 ≤ (R0 0 (Int32.toNatClampNeg a1_93)).toInt ∧ (R0 0 (Int32.toNatClampNeg a1_93)).toInt ≤ 57))) from by omega) (show ((I_93 3).toInt ≤ (I_93 4).toInt) from by omega) (show ((I_93 4).toInt ≤ (I0 1).toInt) from by omega) (show ((¬ (I_93 2).toInt = 0) → (I_93 3).toInt < (I_93 4).toInt) from by omega) (show ((¬ (I0 6).toInt = 0) → (¬ (I_93 6).toInt = 0)) from by omega) (show ((I0 3).toInt ≤ (I_93 3).toInt) from by omega) hP hD hS (lv_sub hl [0, 1, 2, 3] rfl)
    · have gc53 : ¬ (a1_93.toInt ≤ 0) := fun q0 => c53 ((tle _ _).mpr q0)
      refine lv_aload_n hx hb dX12_ahead_97 rfl (lv_at hl 0 rfl) ?_
      refine g_get F hK hP 0 (Wm_at0 G g q I_93 J_93 R_93 L_93) clX12 0 (by decide) flX12_7 rfl dX12_ahead_98 ?_
      refine lv_iload_n hx hb dX12_ahead_101 rfl (lv_at hl 1 rfl) ?_
      refine lv_iconst (v := 1) hx hb dX12_ahead_102 (by decide) ?_
      refine lv_isub hx hb dX12_ahead_103 ?_
      refine lv_topi (fun x54 ex54 => ?_)
      have fx54 : x54.toInt = a1_93.toInt - 1 := by rw [ex54]; exact t_sub (by show (-2147483648 : Int) ≤ a1_93.toInt - 1; omega) (by show a1_93.toInt - 1 ≤ 2147483647; omega)
      refine g_iald F hK hP 1 (Wm_at1 G g q I_93 J_93 R_93 L_93) (in_of (by omega)) dX12_ahead_104 rfl ?_
      refine lv_topi (fun x55 ex55 => ?_)
      have gx55 : x55.toInt = (R0 0 (Int32.toNatClampNeg x54)).toInt := congrArg Int32.toInt ((ex55).trans (congrFun (hsR 0 rfl) _))
      have fx55 : ((0 : Int) ≤ x55.toInt ∧ x55.toInt ≤ (255 : Int)) := by rw [ex55]; exact hvR 0 (by decide) _ (clamp_lt (n := 1800) (in_of (by omega)))
      refine w0i (As := [.int x55]) (rest := []) (d := 1) F hK hP hD hS hA (s_X12_isLetter l G  x55 (show ((0 : Int) ≤ x55.toInt ∧ x55.toInt ≤ (255 : Int)) from by omega)) kmS_X12_isLetter mlX12_233 ⟨(Nat.le_of_ble_eq_true rfl), (Nat.le_of_ble_eq_true rfl)⟩ hl.1 rfl (Nat.le_of_ble_eq_true rfl) dX12_ahead_105 (fun r56 u57 H locs hwr56 hP hD hS => ?_)
      obtain ⟨F0r56, F1r56⟩ := hwr56
      replace F0r56 : ((0 : Int) ≤ r56.toInt ∧ r56.toInt ≤ (1 : Int)) := F0r56
      replace F1r56 : ((r56.toInt = 1 ∧ 97 ≤ x55.toInt ∧ x55.toInt ≤ 122) ∨ (r56.toInt = 0 ∧ (x55.toInt < 97 ∨ 122 < x55.toInt))) := F1r56
      refine lv_if_ne (tgt := 125) hx hb dX12_ahead_108 (by decide) (fun c58 => ?_) (fun c58 => ?_)
      · have gc58 : ¬ (r56.toInt = 0) := fun q0 => c58 (Int32.toInt_inj.mp q0)
        exact lab_125 a1_93 a2_93 a3_93 I_93 J_93 R_93 L_93 _ _ _ hvI hvR hsI hsR (show ((1 : Int) ≤ a1_93.toInt ∧ a1_93.toInt ≤ (1799 : Int)) from by omega) (show ((0 : Int) ≤ a2_93.toInt ∧ a2_93.toInt ≤ (1 : Int)) from by omega) (show ((0 : Int) ≤ a3_93.toInt ∧ a3_93.toInt ≤ (1 : Int)) from by omega) (show ((I_93 3).toInt = a1_93.toInt) from by omega) (show ((I_93 4).toInt = a1_93.toInt) from by omega) (show (a1_93.toInt < (I0 1).toInt) from by omega) (show ((I0 4).toInt ≤ a1_93.toInt) from by omega) (show (a2_93.toInt + a3_93.toInt ≤ 1) from by omega) (show ((a2_93.toInt = 1 → (97 ≤ (R0 0 (Int32.toNatClampNeg a1_93)).toInt ∧ (R0 0 (Int32.toNatClampNeg a1_93)).toInt ≤ 122))) from by omega) (show ((a3_93.toInt = 1 → (48 ≤ (R0 0 (Int32.toNatClampNeg a1_93)).toInt ∧ (R0 0 (Int32.toNatClampNeg a1_93)).toInt ≤ 57))) from by omega) (show ((I_93 3).toInt ≤ (I_93 4).toInt) from by omega) (show ((I_93 4).toInt ≤ (I0 1).toInt) from by omega) (show ((¬ (I_93 2).toInt = 0) → (I_93 3).toInt < (I_93 4).toInt) from by omega) (show ((¬ (I0 6).toInt = 0) → (¬ (I_93 6).toInt = 0)) from by omega) (show ((I0 3).toInt ≤ (I_93 3).toInt) from by omega) hP hD hS (lv_sub hl [0, 1, 2, 3] rfl)
      · have gc58 : r56.toInt = 0 := congrArg Int32.toInt c58
        refine lv_aload_n hx hb dX12_ahead_111 rfl (lv_at hl 0 rfl) ?_
        refine g_get F hK hP 0 (Wm_at0 G g q I_93 J_93 R_93 L_93) clX12 0 (by decide) flX12_7 rfl dX12_ahead_112 ?_
        refine lv_iload_n hx hb dX12_ahead_115 rfl (lv_at hl 1 rfl) ?_
        refine lv_iconst (v := 1) hx hb dX12_ahead_116 (by decide) ?_
        refine lv_isub hx hb dX12_ahead_117 ?_
        refine lv_topi (fun x59 ex59 => ?_)
        have fx59 : x59.toInt = a1_93.toInt - 1 := by rw [ex59]; exact t_sub (by show (-2147483648 : Int) ≤ a1_93.toInt - 1; omega) (by show a1_93.toInt - 1 ≤ 2147483647; omega)
        refine g_iald F hK hP 1 (Wm_at1 G g q I_93 J_93 R_93 L_93) (in_of (by omega)) dX12_ahead_118 rfl ?_
        refine lv_topi (fun x60 ex60 => ?_)
        have gx60 : x60.toInt = (R0 0 (Int32.toNatClampNeg x59)).toInt := congrArg Int32.toInt ((ex60).trans (congrFun (hsR 0 rfl) _))
        have fx60 : ((0 : Int) ≤ x60.toInt ∧ x60.toInt ≤ (255 : Int)) := by rw [ex60]; exact hvR 0 (by decide) _ (clamp_lt (n := 1800) (in_of (by omega)))
        refine w0i (As := [.int x60]) (rest := []) (d := 1) F hK hP hD hS hA (s_X12_isDigit l G  x60 (show ((0 : Int) ≤ x60.toInt ∧ x60.toInt ≤ (255 : Int)) from by omega)) kmS_X12_isDigit mlX12_237 ⟨(Nat.le_of_ble_eq_true rfl), (Nat.le_of_ble_eq_true rfl)⟩ hl.1 rfl (Nat.le_of_ble_eq_true rfl) dX12_ahead_119 (fun r61 u62 H locs hwr61 hP hD hS => ?_)
        obtain ⟨F0r61, F1r61⟩ := hwr61
        replace F0r61 : ((0 : Int) ≤ r61.toInt ∧ r61.toInt ≤ (1 : Int)) := F0r61
        replace F1r61 : ((r61.toInt = 1 ∧ 48 ≤ x60.toInt ∧ x60.toInt ≤ 57) ∨ (r61.toInt = 0 ∧ (x60.toInt < 48 ∨ 57 < x60.toInt))) := F1r61
        refine lv_if_eq (tgt := 131) hx hb dX12_ahead_122 (by decide) (fun c63 => ?_) (fun c63 => ?_)
        · have gc63 : r61.toInt = 0 := congrArg Int32.toInt c63
          exact lab_131 a1_93 a2_93 a3_93 I_93 J_93 R_93 L_93 _ _ _ hvI hvR hsI hsR (show ((0 : Int) ≤ a1_93.toInt ∧ a1_93.toInt ≤ (1799 : Int)) from by omega) (show ((0 : Int) ≤ a2_93.toInt ∧ a2_93.toInt ≤ (1 : Int)) from by omega) (show ((0 : Int) ≤ a3_93.toInt ∧ a3_93.toInt ≤ (1 : Int)) from by omega) (show ((I_93 3).toInt = a1_93.toInt) from by omega) (show ((I_93 4).toInt = a1_93.toInt) from by omega) (show (a1_93.toInt < (I0 1).toInt) from by omega) (show ((I0 4).toInt ≤ a1_93.toInt) from by omega) (show (a2_93.toInt + a3_93.toInt ≤ 1) from by omega) (show ((a2_93.toInt = 1 → (97 ≤ (R0 0 (Int32.toNatClampNeg a1_93)).toInt ∧ (R0 0 (Int32.toNatClampNeg a1_93)).toInt ≤ 122))) from by omega) (show ((a3_93.toInt = 1 → (48 ≤ (R0 0 (Int32.toNatClampNeg a1_93)).toInt ∧ (R0 0 (Int32.toNatClampNeg a1_93)).toInt ≤ 57))) from by omega) (show ((I_93 3).toInt ≤ (I_93 4).toInt) from by omega) (show ((I_93 4).toInt ≤ (I0 1).toInt) from by omega) (show ((¬ (I_93 2).toInt = 0) → (I_93 3).toInt < (I_93 4).toInt) from by omega) (show ((¬ (I0 6).toInt = 0) → (¬ (I_93 6).toInt = 0)) from by omega) (show ((I0 3).toInt ≤ (I_93 3).toInt) from by omega) hP hD hS (lv_sub hl [0, 1, 2, 3] rfl)
        · have gc63 : ¬ (r61.toInt = 0) := fun q0 => c63 (Int32.toInt_inj.mp q0)
          exact lab_125 a1_93 a2_93 a3_93 I_93 J_93 R_93 L_93 _ _ _ hvI hvR hsI hsR (show ((1 : Int) ≤ a1_93.toInt ∧ a1_93.toInt ≤ (1799 : Int)) from by omega) (show ((0 : Int) ≤ a2_93.toInt ∧ a2_93.toInt ≤ (1 : Int)) from by omega) (show ((0 : Int) ≤ a3_93.toInt ∧ a3_93.toInt ≤ (1 : Int)) from by omega) (show ((I_93 3).toInt = a1_93.toInt) from by omega) (show ((I_93 4).toInt = a1_93.toInt) from by omega) (show (a1_93.toInt < (I0 1).toInt) from by omega) (show ((I0 4).toInt ≤ a1_93.toInt) from by omega) (show (a2_93.toInt + a3_93.toInt ≤ 1) from by omega) (show ((a2_93.toInt = 1 → (97 ≤ (R0 0 (Int32.toNatClampNeg a1_93)).toInt ∧ (R0 0 (Int32.toNatClampNeg a1_93)).toInt ≤ 122))) from by omega) (show ((a3_93.toInt = 1 → (48 ≤ (R0 0 (Int32.toNatClampNeg a1_93)).toInt ∧ (R0 0 (Int32.toNatClampNeg a1_93)).toInt ≤ 57))) from by omega) (show ((I_93 3).toInt ≤ (I_93 4).toInt) from by omega) (show ((I_93 4).toInt ≤ (I0 1).toInt) from by omega) (show ((¬ (I_93 2).toInt = 0) → (I_93 3).toInt < (I_93 4).toInt) from by omega) (show ((¬ (I0 6).toInt = 0) → (¬ (I_93 6).toInt = 0)) from by omega) (show ((I0 3).toInt ≤ (I_93 3).toInt) from by omega) hP hD hS (lv_sub hl [0, 1, 2, 3] rfl)
  have lab_41 : ∀ (a1_41 : Int32) (I_41 : Nat → Int32) (J_41 : Nat → Int64) (R_41 : Nat → Nat → Int32) (L_41 : Nat → Nat → Int64) (H : Heap) (locs : List Loc) (ls : Array Slot), InvI Wm_lo Wm_hi I_41 → InvR Wm_rl R_41 → SmF ([2, 3, 4, 5, 6, 7] : List Nat) I0 I_41 → SmF ([] : List Nat) R0 R_41 → ((0 : Int) ≤ a1_41.toInt ∧ a1_41.toInt ≤ (1800 : Int)) → ((I0 4).toInt ≤ a1_41.toInt) → (a1_41.toInt ≤ (I0 1).toInt) → ((I_41 3).toInt ≤ a1_41.toInt) → ((I_41 3).toInt ≤ (I_41 4).toInt) → ((I_41 4).toInt ≤ (I0 1).toInt) → ((¬ (I_41 2).toInt = 0) → (I_41 3).toInt < (I_41 4).toInt) → ((¬ (I0 6).toInt = 0) → (¬ (I_41 6).toInt = 0)) → ((I0 3).toInt ≤ (I_41 3).toInt) → va_P G.1 vwCl (Wm G g q I_41 J_41 R_41 L_41) H → va_D A (Wm G g q I_41 J_41 R_41 L_41) → va_S A s.heap H locs → lv_has ls 6 [(0, .ref (g 45)), (1, .int a1_41)] → W p l e (rmD 2 0 0) s m [.ref (g 45)].toArray below meth c H locs 0 0 Q (F0 m 41 ls []) := by
    intro a1_41 I_41 J_41 R_41 L_41 H locs ls hvI hvR hsI hsR y0_41 z0_41 z1_41 z2_41 z3_41 z4_41 z5_41 z6_41 z7_41 hP hD hS hl
    have hv_I_41 := hvI
    have w_I_41_1 := rg (hvI 1 (by decide)) (0) (1800) rfl rfl
    have v_I_41_1 : (I_41 1).toInt = (I0 1).toInt := congrArg Int32.toInt (hsI 1 rfl)
    have w_I_41_2 := rg (hvI 2 (by decide)) (0) (3) rfl rfl
    have w_I_41_3 := rg (hvI 3 (by decide)) (0) (1800) rfl rfl
    have w_I_41_4 := rg (hvI 4 (by decide)) (0) (1800) rfl rfl
    have w_I_41_5 := rg (hvI 5 (by decide)) (0) (9999) rfl rfl
    have w_I_41_6 := rg (hvI 6 (by decide)) (0) (5) rfl rfl
    refine lv_aload_n hx hb dX12_ahead_41 rfl (lv_at hl 0 rfl) ?_
    refine lv_iload_n hx hb dX12_ahead_42 rfl (lv_at hl 1 rfl) ?_
    refine p_fld (W1 := fun y => Wm G g q y J_41 R_41 L_41) (n := 3) (v := a1_41) F hK hP hD hS 0 (Wm_at0 G g q I_41 J_41 R_41 L_41) clX12 4 (by decide) flX12_23 rfl rfl rfl (Nat.le_of_ble_eq_true rfl) dX12_ahead_43 (Wm_setI3 G g q I_41 J_41 R_41 L_41 _) (fun I64 H locs eI64 hP hD hS => ?_)
    have hvI : InvI Wm_lo Wm_hi I64 := inv_upI hvI 3 eI64 (show ((0 : Int) ≤ a1_41.toInt ∧ a1_41.toInt ≤ (1800 : Int)) from by omega)
    have hsI := smF_up hsI eI64 (by decide)
    have hv_I64 := hvI
    have u_I64_1 : (I64 1).toInt = (I_41 1).toInt := by rw [eI64]; rfl
    have u_I64_2 : (I64 2).toInt = (I_41 2).toInt := by rw [eI64]; rfl
    have u_I64_3 : (I64 3).toInt = a1_41.toInt := by rw [eI64]; rfl
    have u_I64_4 : (I64 4).toInt = (I_41 4).toInt := by rw [eI64]; rfl
    have u_I64_5 : (I64 5).toInt = (I_41 5).toInt := by rw [eI64]; rfl
    have u_I64_6 : (I64 6).toInt = (I_41 6).toInt := by rw [eI64]; rfl
    refine lv_aload_n hx hb dX12_ahead_46 rfl (lv_at hl 0 rfl) ?_
    refine lv_iload_n hx hb dX12_ahead_47 rfl (lv_at hl 1 rfl) ?_
    refine p_fld (W1 := fun y => Wm G g q y J_41 R_41 L_41) (n := 4) (v := a1_41) F hK hP hD hS 0 (Wm_at0 G g q I64 J_41 R_41 L_41) clX12 5 (by decide) flX12_26 rfl rfl rfl (Nat.le_of_ble_eq_true rfl) dX12_ahead_48 (Wm_setI4 G g q I64 J_41 R_41 L_41 _) (fun I65 H locs eI65 hP hD hS => ?_)
    have hvI : InvI Wm_lo Wm_hi I65 := inv_upI hvI 4 eI65 (show ((0 : Int) ≤ a1_41.toInt ∧ a1_41.toInt ≤ (1800 : Int)) from by omega)
    have hsI := smF_up hsI eI65 (by decide)
    have hv_I65 := hvI
    have u_I65_1 : (I65 1).toInt = (I64 1).toInt := by rw [eI65]; rfl
    have u_I65_2 : (I65 2).toInt = (I64 2).toInt := by rw [eI65]; rfl
    have u_I65_3 : (I65 3).toInt = (I64 3).toInt := by rw [eI65]; rfl
    have u_I65_4 : (I65 4).toInt = a1_41.toInt := by rw [eI65]; rfl
    have u_I65_5 : (I65 5).toInt = (I64 5).toInt := by rw [eI65]; rfl
    have u_I65_6 : (I65 6).toInt = (I64 6).toInt := by rw [eI65]; rfl
    refine lv_aload_n hx hb dX12_ahead_51 rfl (lv_at hl 0 rfl) ?_
    refine lv_iconst (v := 0) hx hb dX12_ahead_52 (by decide) ?_
    refine p_fld (W1 := fun y => Wm G g q y J_41 R_41 L_41) (n := 2) (v := 0) F hK hP hD hS 0 (Wm_at0 G g q I65 J_41 R_41 L_41) clX12 3 (by decide) flX12_20 rfl rfl rfl (Nat.le_of_ble_eq_true rfl) dX12_ahead_53 (Wm_setI2 G g q I65 J_41 R_41 L_41 _) (fun I66 H locs eI66 hP hD hS => ?_)
    have hvI : InvI Wm_lo Wm_hi I66 := inv_upI hvI 2 eI66 (by decide)
    have hsI := smF_up hsI eI66 (by decide)
    have hv_I66 := hvI
    have u_I66_1 : (I66 1).toInt = (I65 1).toInt := by rw [eI66]; rfl
    have u_I66_2 : (I66 2).toInt = 0 := by rw [eI66]; rfl
    have u_I66_3 : (I66 3).toInt = (I65 3).toInt := by rw [eI66]; rfl
    have u_I66_4 : (I66 4).toInt = (I65 4).toInt := by rw [eI66]; rfl
    have u_I66_5 : (I66 5).toInt = (I65 5).toInt := by rw [eI66]; rfl
    have u_I66_6 : (I66 6).toInt = (I65 6).toInt := by rw [eI66]; rfl
    refine lv_iload_n hx hb dX12_ahead_56 rfl (lv_at hl 1 rfl) ?_
    refine lv_aload_n hx hb dX12_ahead_57 rfl (lv_at hl 0 rfl) ?_
    refine g_get F hK hP 0 (Wm_at0 G g q I66 J_41 R_41 L_41) clX12 2 (by decide) flX12_17 rfl dX12_ahead_58 ?_
    refine cst_i (hsI 1 rfl) ?_
    have w_I0_1 := rg (hvI0 1 (by decide)) (0) (1800) rfl rfl
    refine lv_icmp_lt (tgt := 65) hx hb dX12_ahead_61 (by decide) (fun c67 => ?_) (fun c67 => ?_)
    · have gc67 : a1_41.toInt < (I0 1).toInt := (tlt _ _).mp c67
      refine lv_aload_n hx hb dX12_ahead_65 rfl (lv_at hl 0 rfl) ?_
      refine g_get F hK hP 0 (Wm_at0 G g q I66 J_41 R_41 L_41) clX12 0 (by decide) flX12_7 rfl dX12_ahead_66 ?_
      refine lv_iload_n hx hb dX12_ahead_69 rfl (lv_at hl 1 rfl) ?_
      refine g_iald F hK hP 1 (Wm_at1 G g q I66 J_41 R_41 L_41) (in_of (by omega)) dX12_ahead_70 rfl ?_
      refine lv_topi (fun x68 ex68 => ?_)
      have gx68 : x68.toInt = (R0 0 (Int32.toNatClampNeg a1_41)).toInt := congrArg Int32.toInt ((ex68).trans (congrFun (hsR 0 rfl) _))
      have fx68 : ((0 : Int) ≤ x68.toInt ∧ x68.toInt ≤ (255 : Int)) := by rw [ex68]; exact hvR 0 (by decide) _ (clamp_lt (n := 1800) (in_of (by omega)))
      refine w0i (As := [.int x68]) (rest := []) (d := 1) F hK hP hD hS hA (s_X12_isLetter l G  x68 (show ((0 : Int) ≤ x68.toInt ∧ x68.toInt ≤ (255 : Int)) from by omega)) kmS_X12_isLetter mlX12_233 ⟨(Nat.le_of_ble_eq_true rfl), (Nat.le_of_ble_eq_true rfl)⟩ hl.1 rfl (Nat.le_of_ble_eq_true rfl) dX12_ahead_71 (fun r69 u70 H locs hwr69 hP hD hS => ?_)
      obtain ⟨F0r69, F1r69⟩ := hwr69
      replace F0r69 : ((0 : Int) ≤ r69.toInt ∧ r69.toInt ≤ (1 : Int)) := F0r69
      replace F1r69 : ((r69.toInt = 1 ∧ 97 ≤ x68.toInt ∧ x68.toInt ≤ 122) ∨ (r69.toInt = 0 ∧ (x68.toInt < 97 ∨ 122 < x68.toInt))) := F1r69
      refine lv_istore_n (lv' := [(2, .int r69), (0, .ref (g 45)), (1, .int a1_41)]) hx hb dX12_ahead_74 rfl hl (by decide) rfl (fun ls hl => ?_)
      refine lv_aload_n hx hb dX12_ahead_75 rfl (lv_at hl 1 rfl) ?_
      refine g_get F hK hP 0 (Wm_at0 G g q I66 J_41 R_41 L_41) clX12 0 (by decide) flX12_7 rfl dX12_ahead_76 ?_
      refine lv_iload_n hx hb dX12_ahead_79 rfl (lv_at hl 2 rfl) ?_
      refine g_iald F hK hP 1 (Wm_at1 G g q I66 J_41 R_41 L_41) (in_of (by omega)) dX12_ahead_80 rfl ?_
      refine lv_topi (fun x71 ex71 => ?_)
      have gx71 : x71.toInt = (R0 0 (Int32.toNatClampNeg a1_41)).toInt := congrArg Int32.toInt ((ex71).trans (congrFun (hsR 0 rfl) _))
      have fx71 : ((0 : Int) ≤ x71.toInt ∧ x71.toInt ≤ (255 : Int)) := by rw [ex71]; exact hvR 0 (by decide) _ (clamp_lt (n := 1800) (in_of (by omega)))
      refine w0i (As := [.int x71]) (rest := []) (d := 1) F hK hP hD hS hA (s_X12_isDigit l G  x71 (show ((0 : Int) ≤ x71.toInt ∧ x71.toInt ≤ (255 : Int)) from by omega)) kmS_X12_isDigit mlX12_237 ⟨(Nat.le_of_ble_eq_true rfl), (Nat.le_of_ble_eq_true rfl)⟩ hl.1 rfl (Nat.le_of_ble_eq_true rfl) dX12_ahead_81 (fun r72 u73 H locs hwr72 hP hD hS => ?_)
      obtain ⟨F0r72, F1r72⟩ := hwr72
      replace F0r72 : ((0 : Int) ≤ r72.toInt ∧ r72.toInt ≤ (1 : Int)) := F0r72
      replace F1r72 : ((r72.toInt = 1 ∧ 48 ≤ x71.toInt ∧ x71.toInt ≤ 57) ∨ (r72.toInt = 0 ∧ (x71.toInt < 48 ∨ 57 < x71.toInt))) := F1r72
      refine lv_istore_n (lv' := [(3, .int r72), (2, .int r69), (0, .ref (g 45)), (1, .int a1_41)]) hx hb dX12_ahead_84 rfl hl (by decide) rfl (fun ls hl => ?_)
      refine lv_iload_n hx hb dX12_ahead_85 rfl (lv_at hl 1 rfl) ?_
      refine lv_if_ne (tgt := 93) hx hb dX12_ahead_86 (by decide) (fun c74 => ?_) (fun c74 => ?_)
      · have gc74 : ¬ (r69.toInt = 0) := fun q0 => c74 (Int32.toInt_inj.mp q0)
        exact lab_93 a1_41 r69 r72 I66 J_41 R_41 L_41 _ _ _ hvI hvR hsI hsR (show ((0 : Int) ≤ a1_41.toInt ∧ a1_41.toInt ≤ (1799 : Int)) from by omega) (show ((0 : Int) ≤ r69.toInt ∧ r69.toInt ≤ (1 : Int)) from by omega) (show ((0 : Int) ≤ r72.toInt ∧ r72.toInt ≤ (1 : Int)) from by omega) (show ((I66 3).toInt = a1_41.toInt) from by omega) (show ((I66 4).toInt = a1_41.toInt) from by omega) (show (a1_41.toInt < (I0 1).toInt) from by omega) (show ((I0 4).toInt ≤ a1_41.toInt) from by omega) (show (r69.toInt + r72.toInt ≤ 1) from by omega) (show ((r69.toInt = 1 → (97 ≤ (R0 0 (Int32.toNatClampNeg a1_41)).toInt ∧ (R0 0 (Int32.toNatClampNeg a1_41)).toInt ≤ 122))) from by omega) (show ((r72.toInt = 1 → (48 ≤ (R0 0 (Int32.toNatClampNeg a1_41)).toInt ∧ (R0 0 (Int32.toNatClampNeg a1_41)).toInt ≤ 57))) from by omega) (show ((I66 3).toInt ≤ (I66 4).toInt) from by omega) (show ((I66 4).toInt ≤ (I0 1).toInt) from by omega) (show ((¬ (I66 2).toInt = 0) → (I66 3).toInt < (I66 4).toInt) from by omega) (show ((¬ (I0 6).toInt = 0) → (¬ (I66 6).toInt = 0)) from by omega) (show ((I0 3).toInt ≤ (I66 3).toInt) from by omega) hP hD hS (lv_sub hl [2, 3, 1, 0] rfl)
      · have gc74 : r69.toInt = 0 := congrArg Int32.toInt c74
        refine lv_iload_n hx hb dX12_ahead_89 rfl (lv_at hl 0 rfl) ?_
        refine lv_if_eq (tgt := 131) hx hb dX12_ahead_90 (by decide) (fun c75 => ?_) (fun c75 => ?_)
        · have gc75 : r72.toInt = 0 := congrArg Int32.toInt c75
          exact lab_131 a1_41 r69 r72 I66 J_41 R_41 L_41 _ _ _ hvI hvR hsI hsR (show ((0 : Int) ≤ a1_41.toInt ∧ a1_41.toInt ≤ (1799 : Int)) from by omega) (show ((0 : Int) ≤ r69.toInt ∧ r69.toInt ≤ (1 : Int)) from by omega) (show ((0 : Int) ≤ r72.toInt ∧ r72.toInt ≤ (1 : Int)) from by omega) (show ((I66 3).toInt = a1_41.toInt) from by omega) (show ((I66 4).toInt = a1_41.toInt) from by omega) (show (a1_41.toInt < (I0 1).toInt) from by omega) (show ((I0 4).toInt ≤ a1_41.toInt) from by omega) (show (r69.toInt + r72.toInt ≤ 1) from by omega) (show ((r69.toInt = 1 → (97 ≤ (R0 0 (Int32.toNatClampNeg a1_41)).toInt ∧ (R0 0 (Int32.toNatClampNeg a1_41)).toInt ≤ 122))) from by omega) (show ((r72.toInt = 1 → (48 ≤ (R0 0 (Int32.toNatClampNeg a1_41)).toInt ∧ (R0 0 (Int32.toNatClampNeg a1_41)).toInt ≤ 57))) from by omega) (show ((I66 3).toInt ≤ (I66 4).toInt) from by omega) (show ((I66 4).toInt ≤ (I0 1).toInt) from by omega) (show ((¬ (I66 2).toInt = 0) → (I66 3).toInt < (I66 4).toInt) from by omega) (show ((¬ (I0 6).toInt = 0) → (¬ (I66 6).toInt = 0)) from by omega) (show ((I0 3).toInt ≤ (I66 3).toInt) from by omega) hP hD hS (lv_sub hl [2, 3, 1, 0] rfl)
        · have gc75 : ¬ (r72.toInt = 0) := fun q0 => c75 (Int32.toInt_inj.mp q0)
          exact lab_93 a1_41 r69 r72 I66 J_41 R_41 L_41 _ _ _ hvI hvR hsI hsR (show ((0 : Int) ≤ a1_41.toInt ∧ a1_41.toInt ≤ (1799 : Int)) from by omega) (show ((0 : Int) ≤ r69.toInt ∧ r69.toInt ≤ (1 : Int)) from by omega) (show ((0 : Int) ≤ r72.toInt ∧ r72.toInt ≤ (1 : Int)) from by omega) (show ((I66 3).toInt = a1_41.toInt) from by omega) (show ((I66 4).toInt = a1_41.toInt) from by omega) (show (a1_41.toInt < (I0 1).toInt) from by omega) (show ((I0 4).toInt ≤ a1_41.toInt) from by omega) (show (r69.toInt + r72.toInt ≤ 1) from by omega) (show ((r69.toInt = 1 → (97 ≤ (R0 0 (Int32.toNatClampNeg a1_41)).toInt ∧ (R0 0 (Int32.toNatClampNeg a1_41)).toInt ≤ 122))) from by omega) (show ((r72.toInt = 1 → (48 ≤ (R0 0 (Int32.toNatClampNeg a1_41)).toInt ∧ (R0 0 (Int32.toNatClampNeg a1_41)).toInt ≤ 57))) from by omega) (show ((I66 3).toInt ≤ (I66 4).toInt) from by omega) (show ((I66 4).toInt ≤ (I0 1).toInt) from by omega) (show ((¬ (I66 2).toInt = 0) → (I66 3).toInt < (I66 4).toInt) from by omega) (show ((¬ (I0 6).toInt = 0) → (¬ (I66 6).toInt = 0)) from by omega) (show ((I0 3).toInt ≤ (I66 3).toInt) from by omega) hP hD hS (lv_sub hl [2, 3, 1, 0] rfl)
    · have gc67 : ¬ (a1_41.toInt < (I0 1).toInt) := fun q0 => c67 ((tlt _ _).mpr q0)
      rw [hQ]
      exact q_v F hr hlk (I66, J_41, R_41, L_41) hP hD hS ⟨hvI, hvR, hsI, hsR, (show ((I0 4).toInt ≤ (I66 3).toInt) from by omega), (show ((I66 3).toInt ≤ (I66 4).toInt) from by omega), (show ((I66 4).toInt ≤ (I0 1).toInt) from by omega), (show ((¬ (I66 2).toInt = 0) → (I66 3).toInt < (I66 4).toInt) from by omega), (show ((¬ (I0 6).toInt = 0) → (¬ (I66 6).toInt = 0)) from by omega), (show ((I0 3).toInt ≤ (I66 3).toInt) from by omega)⟩ dX12_ahead_64 (Nat.le_of_ble_eq_true rfl) (Nat.le_of_ble_eq_true rfl)
  have lab_5 : ∀ (k_5 : Nat) (a1_5 : Int32) (I_5 : Nat → Int32) (J_5 : Nat → Int64) (R_5 : Nat → Nat → Int32) (L_5 : Nat → Nat → Int64) (H : Heap) (locs : List Loc) (ls : Array Slot), ((1800 - a1_5.toInt) < (k_5 : Int)) → InvI Wm_lo Wm_hi I_5 → InvR Wm_rl R_5 → SmF ([2, 3, 4, 5, 6, 7] : List Nat) I0 I_5 → SmF ([] : List Nat) R0 R_5 → ((0 : Int) ≤ a1_5.toInt ∧ a1_5.toInt ≤ (1800 : Int)) → ((I0 4).toInt ≤ a1_5.toInt) → (a1_5.toInt ≤ (I0 1).toInt) → ((I_5 3).toInt ≤ a1_5.toInt) → ((I_5 3).toInt ≤ (I_5 4).toInt) → ((I_5 4).toInt ≤ (I0 1).toInt) → ((¬ (I_5 2).toInt = 0) → (I_5 3).toInt < (I_5 4).toInt) → ((¬ (I0 6).toInt = 0) → (¬ (I_5 6).toInt = 0)) → ((I0 3).toInt ≤ (I_5 3).toInt) → va_P G.1 vwCl (Wm G g q I_5 J_5 R_5 L_5) H → va_D A (Wm G g q I_5 J_5 R_5 L_5) → va_S A s.heap H locs → lv_has ls 6 [(0, .ref (g 45)), (1, .int a1_5)] → W p l e (rmD 2 0 0) s m [.ref (g 45)].toArray below meth c H locs 0 0 Q (F0 m 5 ls []) := by
    intro k_5
    induction k_5 with
    | zero =>
      intro a1_5 I_5 J_5 R_5 L_5 H locs ls hm hvI hvR hsI hsR y0_5 z0_5 z1_5 z2_5 z3_5 z4_5 z5_5 z6_5 z7_5 hP hD hS hl
      have hv_I_5 := hvI
      have w_I_5_1 := rg (hvI 1 (by decide)) (0) (1800) rfl rfl
      have v_I_5_1 : (I_5 1).toInt = (I0 1).toInt := congrArg Int32.toInt (hsI 1 rfl)
      have w_I_5_2 := rg (hvI 2 (by decide)) (0) (3) rfl rfl
      have w_I_5_3 := rg (hvI 3 (by decide)) (0) (1800) rfl rfl
      have w_I_5_4 := rg (hvI 4 (by decide)) (0) (1800) rfl rfl
      have w_I_5_5 := rg (hvI 5 (by decide)) (0) (9999) rfl rfl
      have w_I_5_6 := rg (hvI 6 (by decide)) (0) (5) rfl rfl
      exact absurd hm (by omega)
    | succ k_5 ih_5 =>
      intro a1_5 I_5 J_5 R_5 L_5 H locs ls hm hvI hvR hsI hsR y0_5 z0_5 z1_5 z2_5 z3_5 z4_5 z5_5 z6_5 z7_5 hP hD hS hl
      have hv_I_5 := hvI
      have w_I_5_1 := rg (hvI 1 (by decide)) (0) (1800) rfl rfl
      have v_I_5_1 : (I_5 1).toInt = (I0 1).toInt := congrArg Int32.toInt (hsI 1 rfl)
      have w_I_5_2 := rg (hvI 2 (by decide)) (0) (3) rfl rfl
      have w_I_5_3 := rg (hvI 3 (by decide)) (0) (1800) rfl rfl
      have w_I_5_4 := rg (hvI 4 (by decide)) (0) (1800) rfl rfl
      have w_I_5_5 := rg (hvI 5 (by decide)) (0) (9999) rfl rfl
      have w_I_5_6 := rg (hvI 6 (by decide)) (0) (5) rfl rfl
      have lab_35 : ∀  (I_35 : Nat → Int32) (J_35 : Nat → Int64) (R_35 : Nat → Nat → Int32) (L_35 : Nat → Nat → Int64) (H : Heap) (locs : List Loc) (ls : Array Slot), InvI Wm_lo Wm_hi I_35 → InvR Wm_rl R_35 → SmF ([2, 3, 4, 5, 6, 7] : List Nat) I0 I_35 → SmF ([] : List Nat) R0 R_35 → ((0 : Int) ≤ a1_5.toInt ∧ a1_5.toInt ≤ (1799 : Int)) → ((I0 4).toInt ≤ a1_5.toInt) → (a1_5.toInt ≤ (I0 1).toInt) → ((I_35 3).toInt ≤ a1_5.toInt) → (a1_5.toInt < (I0 1).toInt) → ((I_35 3).toInt ≤ (I_35 4).toInt) → ((I_35 4).toInt ≤ (I0 1).toInt) → ((¬ (I_35 2).toInt = 0) → (I_35 3).toInt < (I_35 4).toInt) → ((¬ (I0 6).toInt = 0) → (¬ (I_35 6).toInt = 0)) → ((I0 3).toInt ≤ (I_35 3).toInt) → va_P G.1 vwCl (Wm G g q I_35 J_35 R_35 L_35) H → va_D A (Wm G g q I_35 J_35 R_35 L_35) → va_S A s.heap H locs → lv_has ls 6 [(0, .ref (g 45)), (1, .int a1_5)] → W p l e (rmD 2 0 0) s m [.ref (g 45)].toArray below meth c H locs 0 0 Q (F0 m 35 ls []) := by
        intro I_35 J_35 R_35 L_35 H locs ls hvI hvR hsI hsR y0_35 z0_35 z1_35 z2_35 z3_35 z4_35 z5_35 z6_35 z7_35 z8_35 hP hD hS hl
        have hv_I_35 := hvI
        have w_I_35_1 := rg (hvI 1 (by decide)) (0) (1800) rfl rfl
        have v_I_35_1 : (I_35 1).toInt = (I0 1).toInt := congrArg Int32.toInt (hsI 1 rfl)
        have w_I_35_2 := rg (hvI 2 (by decide)) (0) (3) rfl rfl
        have w_I_35_3 := rg (hvI 3 (by decide)) (0) (1800) rfl rfl
        have w_I_35_4 := rg (hvI 4 (by decide)) (0) (1800) rfl rfl
        have w_I_35_5 := rg (hvI 5 (by decide)) (0) (9999) rfl rfl
        have w_I_35_6 := rg (hvI 6 (by decide)) (0) (5) rfl rfl
        obtain ⟨x76, ex76⟩ : ∃ y : Int32, y = a1_5 + 1 := ⟨_, rfl⟩
        have fx76 : x76.toInt = a1_5.toInt + (1 : Int) := by rw [ex76]; exact t_add (by show (-2147483648 : Int) ≤ a1_5.toInt + (1 : Int); omega) (by show a1_5.toInt + (1 : Int) ≤ 2147483647; omega)
        refine lv_iinc (v := x76) (lv' := [(1, .int x76), (0, .ref (g 45))]) hx hb dX12_ahead_35 hl (k := 1) rfl (by rw [ex76]; rfl) (by decide) rfl (fun ls hl => ?_)
        refine lv_goto (tgt := 5) hx hb dX12_ahead_38 (by decide) ?_
        exact ih_5 x76 I_35 J_35 R_35 L_35 _ _ _ (show (1800 - x76.toInt) < (k_5 : Int) from by omega) hvI hvR hsI hsR (show ((0 : Int) ≤ x76.toInt ∧ x76.toInt ≤ (1800 : Int)) from by omega) (show ((I0 4).toInt ≤ x76.toInt) from by omega) (show (x76.toInt ≤ (I0 1).toInt) from by omega) (show ((I_35 3).toInt ≤ x76.toInt) from by omega) (show ((I_35 3).toInt ≤ (I_35 4).toInt) from by omega) (show ((I_35 4).toInt ≤ (I0 1).toInt) from by omega) (show ((¬ (I_35 2).toInt = 0) → (I_35 3).toInt < (I_35 4).toInt) from by omega) (show ((¬ (I0 6).toInt = 0) → (¬ (I_35 6).toInt = 0)) from by omega) (show ((I0 3).toInt ≤ (I_35 3).toInt) from by omega) hP hD hS (lv_sub hl [1, 0] rfl)
      refine lv_iload_n hx hb dX12_ahead_5 rfl (lv_at hl 1 rfl) ?_
      refine lv_aload_n hx hb dX12_ahead_6 rfl (lv_at hl 0 rfl) ?_
      refine g_get F hK hP 0 (Wm_at0 G g q I_5 J_5 R_5 L_5) clX12 2 (by decide) flX12_17 rfl dX12_ahead_7 ?_
      refine cst_i (hsI 1 rfl) ?_
      have w_I0_1 := rg (hvI0 1 (by decide)) (0) (1800) rfl rfl
      refine lv_icmp_ge (tgt := 41) hx hb dX12_ahead_10 (by decide) (fun c77 => ?_) (fun c77 => ?_)
      · have gc77 : (I0 1).toInt ≤ a1_5.toInt := (tle _ _).mp c77
        exact lab_41 a1_5 I_5 J_5 R_5 L_5 _ _ _ hvI hvR hsI hsR (show ((0 : Int) ≤ a1_5.toInt ∧ a1_5.toInt ≤ (1800 : Int)) from by omega) (show ((I0 4).toInt ≤ a1_5.toInt) from by omega) (show (a1_5.toInt ≤ (I0 1).toInt) from by omega) (show ((I_5 3).toInt ≤ a1_5.toInt) from by omega) (show ((I_5 3).toInt ≤ (I_5 4).toInt) from by omega) (show ((I_5 4).toInt ≤ (I0 1).toInt) from by omega) (show ((¬ (I_5 2).toInt = 0) → (I_5 3).toInt < (I_5 4).toInt) from by omega) (show ((¬ (I0 6).toInt = 0) → (¬ (I_5 6).toInt = 0)) from by omega) (show ((I0 3).toInt ≤ (I_5 3).toInt) from by omega) hP hD hS (lv_sub hl [0, 1] rfl)
      · have gc77 : ¬ ((I0 1).toInt ≤ a1_5.toInt) := fun q0 => c77 ((tle _ _).mpr q0)
        refine lv_aload_n hx hb dX12_ahead_13 rfl (lv_at hl 0 rfl) ?_
        refine g_get F hK hP 0 (Wm_at0 G g q I_5 J_5 R_5 L_5) clX12 0 (by decide) flX12_7 rfl dX12_ahead_14 ?_
        refine lv_iload_n hx hb dX12_ahead_17 rfl (lv_at hl 1 rfl) ?_
        refine g_iald F hK hP 1 (Wm_at1 G g q I_5 J_5 R_5 L_5) (in_of (by omega)) dX12_ahead_18 rfl ?_
        refine lv_topi (fun x78 ex78 => ?_)
        have gx78 : x78.toInt = (R0 0 (Int32.toNatClampNeg a1_5)).toInt := congrArg Int32.toInt ((ex78).trans (congrFun (hsR 0 rfl) _))
        have fx78 : ((0 : Int) ≤ x78.toInt ∧ x78.toInt ≤ (255 : Int)) := by rw [ex78]; exact hvR 0 (by decide) _ (clamp_lt (n := 1800) (in_of (by omega)))
        refine lv_bipush (v := 32) hx hb dX12_ahead_19 (by decide) ?_
        refine lv_icmp_eq (tgt := 35) hx hb dX12_ahead_21 (by decide) (fun c79 => ?_) (fun c79 => ?_)
        · have gc79 : x78.toInt = 32 := congrArg Int32.toInt c79
          exact lab_35  I_5 J_5 R_5 L_5 _ _ _ hvI hvR hsI hsR (show ((0 : Int) ≤ a1_5.toInt ∧ a1_5.toInt ≤ (1799 : Int)) from by omega) (show ((I0 4).toInt ≤ a1_5.toInt) from by omega) (show (a1_5.toInt ≤ (I0 1).toInt) from by omega) (show ((I_5 3).toInt ≤ a1_5.toInt) from by omega) (show (a1_5.toInt < (I0 1).toInt) from by omega) (show ((I_5 3).toInt ≤ (I_5 4).toInt) from by omega) (show ((I_5 4).toInt ≤ (I0 1).toInt) from by omega) (show ((¬ (I_5 2).toInt = 0) → (I_5 3).toInt < (I_5 4).toInt) from by omega) (show ((¬ (I0 6).toInt = 0) → (¬ (I_5 6).toInt = 0)) from by omega) (show ((I0 3).toInt ≤ (I_5 3).toInt) from by omega) hP hD hS (lv_sub hl [0, 1] rfl)
        · have gc79 : ¬ (x78.toInt = 32) := fun q0 => c79 (Int32.toInt_inj.mp q0)
          refine lv_aload_n hx hb dX12_ahead_24 rfl (lv_at hl 0 rfl) ?_
          refine g_get F hK hP 0 (Wm_at0 G g q I_5 J_5 R_5 L_5) clX12 0 (by decide) flX12_7 rfl dX12_ahead_25 ?_
          refine lv_iload_n hx hb dX12_ahead_28 rfl (lv_at hl 1 rfl) ?_
          refine g_iald F hK hP 1 (Wm_at1 G g q I_5 J_5 R_5 L_5) (in_of (by omega)) dX12_ahead_29 rfl ?_
          refine lv_topi (fun x80 ex80 => ?_)
          have gx80 : x80.toInt = (R0 0 (Int32.toNatClampNeg a1_5)).toInt := congrArg Int32.toInt ((ex80).trans (congrFun (hsR 0 rfl) _))
          have fx80 : ((0 : Int) ≤ x80.toInt ∧ x80.toInt ≤ (255 : Int)) := by rw [ex80]; exact hvR 0 (by decide) _ (clamp_lt (n := 1800) (in_of (by omega)))
          refine lv_bipush (v := 10) hx hb dX12_ahead_30 (by decide) ?_
          refine lv_icmp_ne (tgt := 41) hx hb dX12_ahead_32 (by decide) (fun c81 => ?_) (fun c81 => ?_)
          · have gc81 : ¬ (x80.toInt = 10) := fun q0 => c81 (Int32.toInt_inj.mp q0)
            exact lab_41 a1_5 I_5 J_5 R_5 L_5 _ _ _ hvI hvR hsI hsR (show ((0 : Int) ≤ a1_5.toInt ∧ a1_5.toInt ≤ (1800 : Int)) from by omega) (show ((I0 4).toInt ≤ a1_5.toInt) from by omega) (show (a1_5.toInt ≤ (I0 1).toInt) from by omega) (show ((I_5 3).toInt ≤ a1_5.toInt) from by omega) (show ((I_5 3).toInt ≤ (I_5 4).toInt) from by omega) (show ((I_5 4).toInt ≤ (I0 1).toInt) from by omega) (show ((¬ (I_5 2).toInt = 0) → (I_5 3).toInt < (I_5 4).toInt) from by omega) (show ((¬ (I0 6).toInt = 0) → (¬ (I_5 6).toInt = 0)) from by omega) (show ((I0 3).toInt ≤ (I_5 3).toInt) from by omega) hP hD hS (lv_sub hl [0, 1] rfl)
          · have gc81 : x80.toInt = 10 := congrArg Int32.toInt c81
            exact lab_35  I_5 J_5 R_5 L_5 _ _ _ hvI hvR hsI hsR (show ((0 : Int) ≤ a1_5.toInt ∧ a1_5.toInt ≤ (1799 : Int)) from by omega) (show ((I0 4).toInt ≤ a1_5.toInt) from by omega) (show (a1_5.toInt ≤ (I0 1).toInt) from by omega) (show ((I_5 3).toInt ≤ a1_5.toInt) from by omega) (show (a1_5.toInt < (I0 1).toInt) from by omega) (show ((I_5 3).toInt ≤ (I_5 4).toInt) from by omega) (show ((I_5 4).toInt ≤ (I0 1).toInt) from by omega) (show ((¬ (I_5 2).toInt = 0) → (I_5 3).toInt < (I_5 4).toInt) from by omega) (show ((¬ (I0 6).toInt = 0) → (¬ (I_5 6).toInt = 0)) from by omega) (show ((I0 3).toInt ≤ (I_5 3).toInt) from by omega) hP hD hS (lv_sub hl [0, 1] rfl)
  have w_I0_1 := rg (hvI 1 (by decide)) (0) (1800) rfl rfl
  have w_I0_2 := rg (hvI 2 (by decide)) (0) (3) rfl rfl
  have w_I0_3 := rg (hvI 3 (by decide)) (0) (1800) rfl rfl
  have w_I0_4 := rg (hvI 4 (by decide)) (0) (1800) rfl rfl
  have w_I0_5 := rg (hvI 5 (by decide)) (0) (9999) rfl rfl
  have w_I0_6 := rg (hvI 6 (by decide)) (0) (5) rfl rfl
  refine lv_aload_n hx hb dX12_ahead_0 rfl (lv_at hl 0 rfl) ?_
  refine g_get F hK hP 0 (Wm_at0 G g q I0 J0 R0 L0) clX12 5 (by decide) flX12_26 rfl dX12_ahead_1 ?_
  have w_I0_4 := rg (hvI0 4 (by decide)) (0) (1800) rfl rfl
  refine lv_istore_n (lv' := [(1, .int (I0 4)), (0, .ref (g 45))]) hx hb dX12_ahead_4 rfl hl (by decide) rfl (fun ls hl => ?_)
  exact lab_5 1801 ((I0 4)) I0 J0 R0 L0 _ _ _ (show (1800 - (I0 4).toInt) < ((1801 : Nat) : Int) from by omega) hvI hvR hsI hsR (show ((0 : Int) ≤ (I0 4).toInt ∧ (I0 4).toInt ≤ (1800 : Int)) from by omega) (show ((I0 4).toInt ≤ (I0 4).toInt) from by omega) (show ((I0 4).toInt ≤ (I0 1).toInt) from by omega) (show ((I0 3).toInt ≤ (I0 4).toInt) from by omega) (show ((I0 3).toInt ≤ (I0 4).toInt) from by omega) (show ((I0 4).toInt ≤ (I0 1).toInt) from by omega) (show ((¬ (I0 2).toInt = 0) → (I0 3).toInt < (I0 4).toInt) from by omega) (show ((¬ (I0 6).toInt = 0) → (¬ (I0 6).toInt = 0)) from by omega) (show ((I0 3).toInt ≤ (I0 3).toInt) from by omega) hP hD hS (lv_sub hl [1, 0] rfl)
