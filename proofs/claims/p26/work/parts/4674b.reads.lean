set_option maxHeartbeats 4000000 in
set_option maxRecDepth 100000 in
theorem s_X12_reads (l : Launch) (G : Gx) (g q : Nat → Nat) (I0 : Nat → Int32) (J0 : Nat → Int64) (R0 : Nat → Nat → Int32) (L0 : Nat → Nat → Int64) (hvI : InvI Wm_lo Wm_hi I0) (hvR : InvR Wm_rl R0)  (p1 : Int32) (hp1 : ((0 : Int) ≤ p1.toInt ∧ p1.toInt ≤ (1 : Int))) (hpre0 : ((I0 3).toInt ≤ (I0 4).toInt)) (hpre1 : ((I0 4).toInt ≤ (I0 1).toInt)) (hpre2 : ((¬ (I0 2).toInt = 0) → (I0 3).toInt < (I0 4).toInt)) (hpre3 : ((I0 6).toInt = 0 → (I0 11).toInt + 1 ≤ (I0 3).toInt)) (a : Nat) (ha : 1800 * (I0 12).toInt + (I0 11).toInt = ((a : Nat) : Int)) (hT : ((I0 6).toInt = 0 → TL I0 (R0 0))) (hW : ((I0 6).toInt = 0 → WB I0 (J0 0))) : CtV (S := St) l yX12_reads cX12_reads 3 none (rmD 5 0 0) G [.ref (g 45), .int p1] (Wm G g q I0 J0 R0 L0) (fun u => InvI Wm_lo Wm_hi u.1 ∧ InvR Wm_rl u.2.2.1 ∧ SmF ([2, 3, 4, 5, 6, 7, 11, 13, 14, 15, 16] : List Nat) I0 u.1 ∧ SmF ([26, 27, 28, 29, 30, 31, 32, 33] : List Nat) R0 u.2.2.1 ∧ ((u.1 3).toInt ≤ (u.1 4).toInt) ∧ ((u.1 4).toInt ≤ (I0 1).toInt) ∧ ((¬ (u.1 2).toInt = 0) → (u.1 3).toInt < (u.1 4).toInt) ∧ ((¬ (I0 6).toInt = 0) → (¬ (u.1 6).toInt = 0)) ∧ ((I0 3).toInt ≤ (u.1 3).toInt) ∧ (EN a u.1 u.2.2.1) ∧ (KE I0 (R0 26) u.1 (u.2.2.1 26))) (fun u => Wm G g q u.1 u.2.1 u.2.2.1 u.2.2.2) := by
  refine ctV_of (own := RX12) (by decide +kernel) rfl (Nat.le_of_ble_eq_true rfl) ?_
  intro p e s m below meth c A ls F hr hlk hnm hK hP hD hA hS hl
  have hx := F.1
  have hb := F.2.1
  have hown := F.2.2.2.1
  have hl : lv_has ls 3 [(0, .ref (g 45)), (1, .int p1)] := hl
  obtain ⟨Q, hQ⟩ : ∃ Q : State → Prop, Q = MQ below (va_Qv (S := St) (fun u => InvI Wm_lo Wm_hi u.1 ∧ InvR Wm_rl u.2.2.1 ∧ SmF ([2, 3, 4, 5, 6, 7, 11, 13, 14, 15, 16] : List Nat) I0 u.1 ∧ SmF ([26, 27, 28, 29, 30, 31, 32, 33] : List Nat) R0 u.2.2.1 ∧ ((u.1 3).toInt ≤ (u.1 4).toInt) ∧ ((u.1 4).toInt ≤ (I0 1).toInt) ∧ ((¬ (u.1 2).toInt = 0) → (u.1 3).toInt < (u.1 4).toInt) ∧ ((¬ (I0 6).toInt = 0) → (¬ (u.1 6).toInt = 0)) ∧ ((I0 3).toInt ≤ (u.1 3).toInt) ∧ (EN a u.1 u.2.2.1) ∧ (KE I0 (R0 26) u.1 (u.2.2.1 26))) (BX G A (fun u => Wm G g q u.1 u.2.1 u.2.2.1 u.2.2.2)) A) [.ref (g 45), .int p1].toArray s 0 0 A := ⟨_, rfl⟩
  rw [show (MQ below (va_Qv (S := St) (fun u => InvI Wm_lo Wm_hi u.1 ∧ InvR Wm_rl u.2.2.1 ∧ SmF ([2, 3, 4, 5, 6, 7, 11, 13, 14, 15, 16] : List Nat) I0 u.1 ∧ SmF ([26, 27, 28, 29, 30, 31, 32, 33] : List Nat) R0 u.2.2.1 ∧ ((u.1 3).toInt ≤ (u.1 4).toInt) ∧ ((u.1 4).toInt ≤ (I0 1).toInt) ∧ ((¬ (u.1 2).toInt = 0) → (u.1 3).toInt < (u.1 4).toInt) ∧ ((¬ (I0 6).toInt = 0) → (¬ (u.1 6).toInt = 0)) ∧ ((I0 3).toInt ≤ (u.1 3).toInt) ∧ (EN a u.1 u.2.2.1) ∧ (KE I0 (R0 26) u.1 (u.2.2.1 26))) (BX G A (fun u => Wm G g q u.1 u.2.1 u.2.2.1 u.2.2.2)) A) [.ref (g 45), .int p1].toArray s (rmD 5 0 0).cells (rmD 5 0 0).slots A) = Q from hQ.symm]
  have hsI := smF_rf ([2, 3, 4, 5, 6, 7, 11, 13, 14, 15, 16] : List Nat) I0
  have hsR := smF_rf ([26, 27, 28, 29, 30, 31, 32, 33] : List Nat) R0
  have hvI0 := hvI
  have w_I0_1 := rg (hvI 1 (by decide)) (0) (1800) rfl rfl
  have w_I0_2 := rg (hvI 2 (by decide)) (0) (3) rfl rfl
  have w_I0_3 := rg (hvI 3 (by decide)) (0) (1800) rfl rfl
  have w_I0_4 := rg (hvI 4 (by decide)) (0) (1800) rfl rfl
  have w_I0_5 := rg (hvI 5 (by decide)) (0) (9999) rfl rfl
  have w_I0_6 := rg (hvI 6 (by decide)) (0) (5) rfl rfl
  have w_I0_11 := rg (hvI 11 (by decide)) (0) (1800) rfl rfl
  have w_I0_12 := rg (hvI 12 (by decide)) (0) (1) rfl rfl
  have w_I0_13 := rg (hvI 13 (by decide)) (0) (9) rfl rfl
  have w_I0_14 := rg (hvI 14 (by decide)) (0) (8) rfl rfl
  have w_I0_15 := rg (hvI 15 (by decide)) (0) (499) rfl rfl
  have w_I0_16 := rg (hvI 16 (by decide)) (0) (1) rfl rfl
  have lab_43 : ∀ (k_43 : Nat) (a2_43 : Int32) (I_43 : Nat → Int32) (J_43 : Nat → Int64) (R_43 : Nat → Nat → Int32) (L_43 : Nat → Nat → Int64) (H : Heap) (locs : List Loc) (ls : Array Slot), ((1801 - (I_43 3).toInt + a2_43.toInt) < (k_43 : Int)) → InvI Wm_lo Wm_hi I_43 → InvR Wm_rl R_43 → SmF ([2, 3, 4, 5, 6, 7, 11, 13, 14, 15, 16] : List Nat) I0 I_43 → SmF ([26, 27, 28, 29, 30, 31, 32, 33] : List Nat) R0 R_43 → ((0 : Int) ≤ a2_43.toInt ∧ a2_43.toInt ≤ (1 : Int)) → (a2_43.toInt = 1 → (I_43 6).toInt = 0) → ((I_43 3).toInt ≤ (I_43 4).toInt) → ((I_43 4).toInt ≤ (I0 1).toInt) → ((¬ (I_43 2).toInt = 0) → (I_43 3).toInt < (I_43 4).toInt) → ((¬ (I0 6).toInt = 0) → (¬ (I_43 6).toInt = 0)) → ((I0 3).toInt ≤ (I_43 3).toInt) → (a2_43.toInt = 1 → RS a (Int32.toNatClampNeg (I_43 16)) I_43 (J_43 0) R_43) → (a2_43.toInt = 0 → EN a I_43 R_43) → (KE I0 (R0 26) I_43 (R_43 26)) → va_P G.1 vwCl (Wm G g q I_43 J_43 R_43 L_43) H → va_D A (Wm G g q I_43 J_43 R_43 L_43) → va_S A s.heap H locs → lv_has ls 3 [(0, .ref (g 45)), (2, .int a2_43)] → W p l e (rmD 5 0 0) s m [.ref (g 45), .int p1].toArray below meth c H locs 0 0 Q (F0 m 43 ls []) := by
    intro k_43
    induction k_43 with
    | zero =>
      intro a2_43 I_43 J_43 R_43 L_43 H locs ls hm hvI hvR hsI hsR y0_43 z0_43 z1_43 z2_43 z3_43 z4_43 z5_43 xl0_43 xl1_43 xl2_43 hP hD hS hl
      have hv_I_43 := hvI
      have w_I_43_1 := rg (hvI 1 (by decide)) (0) (1800) rfl rfl
      have v_I_43_1 : (I_43 1).toInt = (I0 1).toInt := congrArg Int32.toInt (hsI 1 rfl)
      have w_I_43_2 := rg (hvI 2 (by decide)) (0) (3) rfl rfl
      have w_I_43_3 := rg (hvI 3 (by decide)) (0) (1800) rfl rfl
      have w_I_43_4 := rg (hvI 4 (by decide)) (0) (1800) rfl rfl
      have w_I_43_5 := rg (hvI 5 (by decide)) (0) (9999) rfl rfl
      have w_I_43_6 := rg (hvI 6 (by decide)) (0) (5) rfl rfl
      have w_I_43_11 := rg (hvI 11 (by decide)) (0) (1800) rfl rfl
      have w_I_43_12 := rg (hvI 12 (by decide)) (0) (1) rfl rfl
      have v_I_43_12 : (I_43 12).toInt = (I0 12).toInt := congrArg Int32.toInt (hsI 12 rfl)
      have w_I_43_13 := rg (hvI 13 (by decide)) (0) (9) rfl rfl
      have w_I_43_14 := rg (hvI 14 (by decide)) (0) (8) rfl rfl
      have w_I_43_15 := rg (hvI 15 (by decide)) (0) (499) rfl rfl
      have w_I_43_16 := rg (hvI 16 (by decide)) (0) (1) rfl rfl
      exact absurd hm (by omega)
    | succ k_43 ih_43 =>
      intro a2_43 I_43 J_43 R_43 L_43 H locs ls hm hvI hvR hsI hsR y0_43 z0_43 z1_43 z2_43 z3_43 z4_43 z5_43 xl0_43 xl1_43 xl2_43 hP hD hS hl
      have hv_I_43 := hvI
      have w_I_43_1 := rg (hvI 1 (by decide)) (0) (1800) rfl rfl
      have v_I_43_1 : (I_43 1).toInt = (I0 1).toInt := congrArg Int32.toInt (hsI 1 rfl)
      have w_I_43_2 := rg (hvI 2 (by decide)) (0) (3) rfl rfl
      have w_I_43_3 := rg (hvI 3 (by decide)) (0) (1800) rfl rfl
      have w_I_43_4 := rg (hvI 4 (by decide)) (0) (1800) rfl rfl
      have w_I_43_5 := rg (hvI 5 (by decide)) (0) (9999) rfl rfl
      have w_I_43_6 := rg (hvI 6 (by decide)) (0) (5) rfl rfl
      have w_I_43_11 := rg (hvI 11 (by decide)) (0) (1800) rfl rfl
      have w_I_43_12 := rg (hvI 12 (by decide)) (0) (1) rfl rfl
      have v_I_43_12 : (I_43 12).toInt = (I0 12).toInt := congrArg Int32.toInt (hsI 12 rfl)
      have w_I_43_13 := rg (hvI 13 (by decide)) (0) (9) rfl rfl
      have w_I_43_14 := rg (hvI 14 (by decide)) (0) (8) rfl rfl
      have w_I_43_15 := rg (hvI 15 (by decide)) (0) (499) rfl rfl
      have w_I_43_16 := rg (hvI 16 (by decide)) (0) (1) rfl rfl
      have lab_86 : ∀ (b0_86 : Int32) (I_86 : Nat → Int32) (J_86 : Nat → Int64) (R_86 : Nat → Nat → Int32) (L_86 : Nat → Nat → Int64) (H : Heap) (locs : List Loc) (ls : Array Slot), InvI Wm_lo Wm_hi I_86 → InvR Wm_rl R_86 → SmF ([2, 3, 4, 5, 6, 7, 11, 13, 14, 15, 16] : List Nat) I0 I_86 → SmF ([26, 27, 28, 29, 30, 31, 32, 33] : List Nat) R0 R_86 → ((0 : Int) ≤ b0_86.toInt ∧ b0_86.toInt ≤ (1 : Int)) → (b0_86.toInt = 1 → (I_86 6).toInt = 0) → (b0_86.toInt = 1 → (I_43 3).toInt < (I_86 3).toInt) → ((I_43 3).toInt ≤ (I_86 3).toInt) → (a2_43.toInt = 1) → ((I_86 3).toInt ≤ (I_86 4).toInt) → ((I_86 4).toInt ≤ (I0 1).toInt) → ((¬ (I_86 2).toInt = 0) → (I_86 3).toInt < (I_86 4).toInt) → ((¬ (I0 6).toInt = 0) → (¬ (I_86 6).toInt = 0)) → ((I0 3).toInt ≤ (I_86 3).toInt) → (b0_86.toInt = 1 → RS a (Int32.toNatClampNeg (I_86 16)) I_86 (J_86 0) R_86) → (b0_86.toInt = 0 → EN a I_86 R_86) → (KE I0 (R0 26) I_86 (R_86 26)) → va_P G.1 vwCl (Wm G g q I_86 J_86 R_86 L_86) H → va_D A (Wm G g q I_86 J_86 R_86 L_86) → va_S A s.heap H locs → lv_has ls 3 [(0, .ref (g 45))] → W p l e (rmD 5 0 0) s m [.ref (g 45), .int p1].toArray below meth c H locs 0 0 Q (F0 m 86 ls [.int b0_86]) := by
        intro b0_86 I_86 J_86 R_86 L_86 H locs ls hvI hvR hsI hsR y0_86 z0_86 z1_86 z2_86 z3_86 z4_86 z5_86 z6_86 z7_86 z8_86 xl0_86 xl1_86 xl2_86 hP hD hS hl
        have hv_I_86 := hvI
        have w_I_86_1 := rg (hvI 1 (by decide)) (0) (1800) rfl rfl
        have v_I_86_1 : (I_86 1).toInt = (I0 1).toInt := congrArg Int32.toInt (hsI 1 rfl)
        have w_I_86_2 := rg (hvI 2 (by decide)) (0) (3) rfl rfl
        have w_I_86_3 := rg (hvI 3 (by decide)) (0) (1800) rfl rfl
        have w_I_86_4 := rg (hvI 4 (by decide)) (0) (1800) rfl rfl
        have w_I_86_5 := rg (hvI 5 (by decide)) (0) (9999) rfl rfl
        have w_I_86_6 := rg (hvI 6 (by decide)) (0) (5) rfl rfl
        have w_I_86_11 := rg (hvI 11 (by decide)) (0) (1800) rfl rfl
        have w_I_86_12 := rg (hvI 12 (by decide)) (0) (1) rfl rfl
        have v_I_86_12 : (I_86 12).toInt = (I0 12).toInt := congrArg Int32.toInt (hsI 12 rfl)
        have w_I_86_13 := rg (hvI 13 (by decide)) (0) (9) rfl rfl
        have w_I_86_14 := rg (hvI 14 (by decide)) (0) (8) rfl rfl
        have w_I_86_15 := rg (hvI 15 (by decide)) (0) (499) rfl rfl
        have w_I_86_16 := rg (hvI 16 (by decide)) (0) (1) rfl rfl
        refine lv_istore_n (lv' := [(2, .int b0_86), (0, .ref (g 45))]) hx hb dX12_reads_86 rfl hl (by decide) rfl (fun ls hl => ?_)
        refine lv_goto (tgt := 43) hx hb dX12_reads_87 (by decide) ?_
        exact ih_43 b0_86 I_86 J_86 R_86 L_86 _ _ _ (show (1801 - (I_86 3).toInt + b0_86.toInt) < (k_43 : Int) from by omega) hvI hvR hsI hsR (show ((0 : Int) ≤ b0_86.toInt ∧ b0_86.toInt ≤ (1 : Int)) from by omega) (show (b0_86.toInt = 1 → (I_86 6).toInt = 0) from by omega) (show ((I_86 3).toInt ≤ (I_86 4).toInt) from by omega) (show ((I_86 4).toInt ≤ (I0 1).toInt) from by omega) (show ((¬ (I_86 2).toInt = 0) → (I_86 3).toInt < (I_86 4).toInt) from by omega) (show ((¬ (I0 6).toInt = 0) → (¬ (I_86 6).toInt = 0)) from by omega) (show ((I0 3).toInt ≤ (I_86 3).toInt) from by omega) (show (b0_86.toInt = 1 → RS a (Int32.toNatClampNeg (I_86 16)) I_86 (J_86 0) R_86) from xl0_86) (show (b0_86.toInt = 0 → EN a I_86 R_86) from xl1_86) (show (KE I0 (R0 26) I_86 (R_86 26)) from xl2_86) hP hD hS (lv_sub hl [1, 0] rfl)
      have lab_85 : ∀  (I_85 : Nat → Int32) (J_85 : Nat → Int64) (R_85 : Nat → Nat → Int32) (L_85 : Nat → Nat → Int64) (H : Heap) (locs : List Loc) (ls : Array Slot), InvI Wm_lo Wm_hi I_85 → InvR Wm_rl R_85 → SmF ([2, 3, 4, 5, 6, 7, 11, 13, 14, 15, 16] : List Nat) I0 I_85 → SmF ([26, 27, 28, 29, 30, 31, 32, 33] : List Nat) R0 R_85 → ((I_43 3).toInt ≤ (I_85 3).toInt) → (a2_43.toInt = 1) → ((I_85 3).toInt ≤ (I_85 4).toInt) → ((I_85 4).toInt ≤ (I0 1).toInt) → ((¬ (I_85 2).toInt = 0) → (I_85 3).toInt < (I_85 4).toInt) → ((¬ (I0 6).toInt = 0) → (¬ (I_85 6).toInt = 0)) → ((I0 3).toInt ≤ (I_85 3).toInt) → (EN a I_85 R_85) → (KE I0 (R0 26) I_85 (R_85 26)) → va_P G.1 vwCl (Wm G g q I_85 J_85 R_85 L_85) H → va_D A (Wm G g q I_85 J_85 R_85 L_85) → va_S A s.heap H locs → lv_has ls 3 [(0, .ref (g 45))] → W p l e (rmD 5 0 0) s m [.ref (g 45), .int p1].toArray below meth c H locs 0 0 Q (F0 m 85 ls []) := by
        intro I_85 J_85 R_85 L_85 H locs ls hvI hvR hsI hsR z0_85 z1_85 z2_85 z3_85 z4_85 z5_85 z6_85 xl0_85 xl1_85 hP hD hS hl
        have hv_I_85 := hvI
        have w_I_85_1 := rg (hvI 1 (by decide)) (0) (1800) rfl rfl
        have v_I_85_1 : (I_85 1).toInt = (I0 1).toInt := congrArg Int32.toInt (hsI 1 rfl)
        have w_I_85_2 := rg (hvI 2 (by decide)) (0) (3) rfl rfl
        have w_I_85_3 := rg (hvI 3 (by decide)) (0) (1800) rfl rfl
        have w_I_85_4 := rg (hvI 4 (by decide)) (0) (1800) rfl rfl
        have w_I_85_5 := rg (hvI 5 (by decide)) (0) (9999) rfl rfl
        have w_I_85_6 := rg (hvI 6 (by decide)) (0) (5) rfl rfl
        have w_I_85_11 := rg (hvI 11 (by decide)) (0) (1800) rfl rfl
        have w_I_85_12 := rg (hvI 12 (by decide)) (0) (1) rfl rfl
        have v_I_85_12 : (I_85 12).toInt = (I0 12).toInt := congrArg Int32.toInt (hsI 12 rfl)
        have w_I_85_13 := rg (hvI 13 (by decide)) (0) (9) rfl rfl
        have w_I_85_14 := rg (hvI 14 (by decide)) (0) (8) rfl rfl
        have w_I_85_15 := rg (hvI 15 (by decide)) (0) (499) rfl rfl
        have w_I_85_16 := rg (hvI 16 (by decide)) (0) (1) rfl rfl
        refine lv_iconst (v := 0) hx hb dX12_reads_85 (by decide) ?_
        exact lab_86 0 I_85 J_85 R_85 L_85 _ _ _ hvI hvR hsI hsR (by decide) (show (0 = 1 → (I_85 6).toInt = 0) from by omega) (show (0 = 1 → (I_43 3).toInt < (I_85 3).toInt) from by omega) (show ((I_43 3).toInt ≤ (I_85 3).toInt) from by omega) (show (a2_43.toInt = 1) from by omega) (show ((I_85 3).toInt ≤ (I_85 4).toInt) from by omega) (show ((I_85 4).toInt ≤ (I0 1).toInt) from by omega) (show ((¬ (I_85 2).toInt = 0) → (I_85 3).toInt < (I_85 4).toInt) from by omega) (show ((¬ (I0 6).toInt = 0) → (¬ (I_85 6).toInt = 0)) from by omega) (show ((I0 3).toInt ≤ (I_85 3).toInt) from by omega) (show (0 = 1 → RS a (Int32.toNatClampNeg (I_85 16)) I_85 (J_85 0) R_85) from fun h => absurd h (by decide)) (show (0 = 0 → EN a I_85 R_85) from fun _ => xl0_85) (show (KE I0 (R0 26) I_85 (R_85 26)) from xl1_85) hP hD hS (lv_sub hl [0] rfl)
      have lab_70 : ∀ (a2_70 : Int32) (I_70 : Nat → Int32) (J_70 : Nat → Int64) (R_70 : Nat → Nat → Int32) (L_70 : Nat → Nat → Int64) (H : Heap) (locs : List Loc) (ls : Array Slot), InvI Wm_lo Wm_hi I_70 → InvR Wm_rl R_70 → SmF ([2, 3, 4, 5, 6, 7, 11, 13, 14, 15, 16] : List Nat) I0 I_70 → SmF ([26, 27, 28, 29, 30, 31, 32, 33] : List Nat) R0 R_70 → ((0 : Int) ≤ a2_70.toInt ∧ a2_70.toInt ≤ (1 : Int)) → ((a2_70.toInt = 1 ∧ (I_70 6).toInt = 0) → (I_43 3).toInt < (I_70 3).toInt) → ((I_43 3).toInt ≤ (I_70 3).toInt) → (a2_43.toInt = 1) → ((I_70 3).toInt ≤ (I_70 4).toInt) → ((I_70 4).toInt ≤ (I0 1).toInt) → ((¬ (I_70 2).toInt = 0) → (I_70 3).toInt < (I_70 4).toInt) → ((¬ (I0 6).toInt = 0) → (¬ (I_70 6).toInt = 0)) → ((I0 3).toInt ≤ (I_70 3).toInt) → (a2_70.toInt = 1 → RS a (Int32.toNatClampNeg (I_70 16)) I_70 (J_70 0) R_70) → (a2_70.toInt = 0 → EN a I_70 R_70) → (KE I0 (R0 26) I_70 (R_70 26)) → va_P G.1 vwCl (Wm G g q I_70 J_70 R_70 L_70) H → va_D A (Wm G g q I_70 J_70 R_70 L_70) → va_S A s.heap H locs → lv_has ls 3 [(0, .ref (g 45)), (2, .int a2_70)] → W p l e (rmD 5 0 0) s m [.ref (g 45), .int p1].toArray below meth c H locs 0 0 Q (F0 m 70 ls []) := by
        intro a2_70 I_70 J_70 R_70 L_70 H locs ls hvI hvR hsI hsR y0_70 z0_70 z1_70 z2_70 z3_70 z4_70 z5_70 z6_70 z7_70 xl0_70 xl1_70 xl2_70 hP hD hS hl
        have hv_I_70 := hvI
        have w_I_70_1 := rg (hvI 1 (by decide)) (0) (1800) rfl rfl
        have v_I_70_1 : (I_70 1).toInt = (I0 1).toInt := congrArg Int32.toInt (hsI 1 rfl)
        have w_I_70_2 := rg (hvI 2 (by decide)) (0) (3) rfl rfl
        have w_I_70_3 := rg (hvI 3 (by decide)) (0) (1800) rfl rfl
        have w_I_70_4 := rg (hvI 4 (by decide)) (0) (1800) rfl rfl
        have w_I_70_5 := rg (hvI 5 (by decide)) (0) (9999) rfl rfl
        have w_I_70_6 := rg (hvI 6 (by decide)) (0) (5) rfl rfl
        have w_I_70_11 := rg (hvI 11 (by decide)) (0) (1800) rfl rfl
        have w_I_70_12 := rg (hvI 12 (by decide)) (0) (1) rfl rfl
        have v_I_70_12 : (I_70 12).toInt = (I0 12).toInt := congrArg Int32.toInt (hsI 12 rfl)
        have w_I_70_13 := rg (hvI 13 (by decide)) (0) (9) rfl rfl
        have w_I_70_14 := rg (hvI 14 (by decide)) (0) (8) rfl rfl
        have w_I_70_15 := rg (hvI 15 (by decide)) (0) (499) rfl rfl
        have w_I_70_16 := rg (hvI 16 (by decide)) (0) (1) rfl rfl
        refine lv_iload_n hx hb dX12_reads_70 rfl (lv_at hl 1 rfl) ?_
        refine lv_if_eq (tgt := 85) hx hb dX12_reads_71 (by decide) (fun c1 => ?_) (fun c1 => ?_)
        · have gc1 : a2_70.toInt = 0 := congrArg Int32.toInt c1
          exact lab_85  I_70 J_70 R_70 L_70 _ _ _ hvI hvR hsI hsR (show ((I_43 3).toInt ≤ (I_70 3).toInt) from by omega) (show (a2_43.toInt = 1) from by omega) (show ((I_70 3).toInt ≤ (I_70 4).toInt) from by omega) (show ((I_70 4).toInt ≤ (I0 1).toInt) from by omega) (show ((¬ (I_70 2).toInt = 0) → (I_70 3).toInt < (I_70 4).toInt) from by omega) (show ((¬ (I0 6).toInt = 0) → (¬ (I_70 6).toInt = 0)) from by omega) (show ((I0 3).toInt ≤ (I_70 3).toInt) from by omega) (show (EN a I_70 R_70) from by first | exact xl1_70 (by omega) | exact fun h => absurd h (by omega)) (show (KE I0 (R0 26) I_70 (R_70 26)) from xl2_70) hP hD hS (lv_sub hl [0] rfl)
        · have gc1 : ¬ (a2_70.toInt = 0) := fun q0 => c1 (Int32.toInt_inj.mp q0)
          refine lv_aload_n hx hb dX12_reads_74 rfl (lv_at hl 0 rfl) ?_
          refine g_get F hK hP 0 (Wm_at0 G g q I_70 J_70 R_70 L_70) clX12 8 (by decide) flX12_36 rfl dX12_reads_75 ?_
          have w_I_70_6 := rg (hv_I_70 6 (by decide)) (0) (5) rfl rfl
          refine lv_if_ne (tgt := 85) hx hb dX12_reads_78 (by decide) (fun c2 => ?_) (fun c2 => ?_)
          · have gc2 : ¬ ((I_70 6).toInt = 0) := fun q0 => c2 (Int32.toInt_inj.mp q0)
            exact lab_85  I_70 J_70 R_70 L_70 _ _ _ hvI hvR hsI hsR (show ((I_43 3).toInt ≤ (I_70 3).toInt) from by omega) (show (a2_43.toInt = 1) from by omega) (show ((I_70 3).toInt ≤ (I_70 4).toInt) from by omega) (show ((I_70 4).toInt ≤ (I0 1).toInt) from by omega) (show ((¬ (I_70 2).toInt = 0) → (I_70 3).toInt < (I_70 4).toInt) from by omega) (show ((¬ (I0 6).toInt = 0) → (¬ (I_70 6).toInt = 0)) from by omega) (show ((I0 3).toInt ≤ (I_70 3).toInt) from by omega) (show (EN a I_70 R_70) from by first | exact xl1_70 (by omega) | exact fun h => absurd h (by omega)) (show (KE I0 (R0 26) I_70 (R_70 26)) from xl2_70) hP hD hS (lv_sub hl [0] rfl)
          · have gc2 : (I_70 6).toInt = 0 := congrArg Int32.toInt c2
            refine lv_iconst (v := 1) hx hb dX12_reads_81 (by decide) ?_
            refine lv_goto (tgt := 86) hx hb dX12_reads_82 (by decide) ?_
            exact lab_86 1 I_70 J_70 R_70 L_70 _ _ _ hvI hvR hsI hsR (by decide) (show (1 = 1 → (I_70 6).toInt = 0) from by omega) (show (1 = 1 → (I_43 3).toInt < (I_70 3).toInt) from by omega) (show ((I_43 3).toInt ≤ (I_70 3).toInt) from by omega) (show (a2_43.toInt = 1) from by omega) (show ((I_70 3).toInt ≤ (I_70 4).toInt) from by omega) (show ((I_70 4).toInt ≤ (I0 1).toInt) from by omega) (show ((¬ (I_70 2).toInt = 0) → (I_70 3).toInt < (I_70 4).toInt) from by omega) (show ((¬ (I0 6).toInt = 0) → (¬ (I_70 6).toInt = 0)) from by omega) (show ((I0 3).toInt ≤ (I_70 3).toInt) from by omega) (show (1 = 1 → RS a (Int32.toNatClampNeg (I_70 16)) I_70 (J_70 0) R_70) from fun _ => xl0_70 (by omega)) (show (1 = 0 → EN a I_70 R_70) from fun h => absurd h (by decide)) (show (KE I0 (R0 26) I_70 (R_70 26)) from xl2_70) hP hD hS (lv_sub hl [0] rfl)
      refine lv_iload_n hx hb dX12_reads_43 rfl (lv_at hl 1 rfl) ?_
      refine lv_if_eq (tgt := 90) hx hb dX12_reads_44 (by decide) (fun c3 => ?_) (fun c3 => ?_)
      · have gc3 : a2_43.toInt = 0 := congrArg Int32.toInt c3
        rw [hQ]
        exact q_v F hr hlk (I_43, J_43, R_43, L_43) hP hD hS ⟨hvI, hvR, hsI, hsR, (show ((I_43 3).toInt ≤ (I_43 4).toInt) from by omega), (show ((I_43 4).toInt ≤ (I0 1).toInt) from by omega), (show ((¬ (I_43 2).toInt = 0) → (I_43 3).toInt < (I_43 4).toInt) from by omega), (show ((¬ (I0 6).toInt = 0) → (¬ (I_43 6).toInt = 0)) from by omega), (show ((I0 3).toInt ≤ (I_43 3).toInt) from by omega), (show (EN a I_43 R_43) from xl1_43 (by omega)), (show (KE I0 (R0 26) I_43 (R_43 26)) from xl2_43)⟩ dX12_reads_90 (Nat.le_of_ble_eq_true rfl) (Nat.le_of_ble_eq_true rfl)
      · have gc3 : ¬ (a2_43.toInt = 0) := fun q0 => c3 (Int32.toInt_inj.mp q0)
        refine lv_aload_n hx hb dX12_reads_47 rfl (lv_at hl 0 rfl) ?_
        refine g_get F hK hP 0 (Wm_at0 G g q I_43 J_43 R_43 L_43) clX12 54 (by decide) flX12_176 rfl dX12_reads_48 ?_
        have w_I_43_16 := rg (hv_I_43 16 (by decide)) (0) (1) rfl rfl
        refine lv_if_ne (tgt := 65) hx hb dX12_reads_51 (by decide) (fun c4 => ?_) (fun c4 => ?_)
        · have gc4 : ¬ ((I_43 16).toInt = 0) := fun q0 => c4 (Int32.toInt_inj.mp q0)
          refine lv_aload_n hx hb dX12_reads_65 rfl (lv_at hl 0 rfl) ?_
          refine wvi (As := []) (rest := []) (b := (g 45)) (d := 3) F hK hP hD hS hA (s_X12_goesOn l G g q I_43 J_43 R_43 L_43 hvI hvR   (by omega) (by omega) (by omega) (by omega) (by omega) a (rs_n (xl0_43 (by omega)) (cl_n (by omega)))) kmV_X12_goesOn mlX12_348 clX12 rfl 0 (Wm_at0 G g q I_43 J_43 R_43 L_43) ⟨(Nat.le_of_ble_eq_true rfl), (Nat.le_of_ble_eq_true rfl)⟩ hl.1 rfl (Nat.le_of_ble_eq_true rfl) dX12_reads_66 (fun r5 u6 H locs hwr5 hP hD hS => ?_)
          obtain ⟨I7, J8, R9, L10⟩ := u6
          replace hP : va_P G.1 vwCl (Wm G g q I7 J8 R9 L10) H := hP
          replace hD : va_D A (Wm G g q I7 J8 R9 L10) := hD
          obtain ⟨hvI, hvR, tIr5, tRr5, F0r5, F1r5, F2r5, F3r5, F4r5, F5r5, F6r5, F7r5, F8r5, F9r5⟩ := hwr5
          replace F0r5 : ((0 : Int) ≤ r5.toInt ∧ r5.toInt ≤ (1 : Int)) := F0r5
          replace F1r5 : ((r5.toInt = 1 ∧ (I7 6).toInt = 0) → (I_43 3).toInt < (I7 3).toInt) := F1r5
          replace F2r5 : ((I7 3).toInt ≤ (I7 4).toInt) := F2r5
          replace F3r5 : ((I7 4).toInt ≤ (I_43 1).toInt) := F3r5
          replace F4r5 : ((¬ (I7 2).toInt = 0) → (I7 3).toInt < (I7 4).toInt) := F4r5
          replace F5r5 : ((¬ (I_43 6).toInt = 0) → (¬ (I7 6).toInt = 0)) := F5r5
          replace F6r5 : ((I_43 3).toInt ≤ (I7 3).toInt) := F6r5
          replace F7r5 : (r5.toInt = 1 → RS a (Int32.toNatClampNeg (I7 16)) I7 (J8 0) R9) := F7r5
          replace F8r5 : (r5.toInt = 0 → EN a I7 R9) := F8r5
          replace F9r5 : (KE I_43 (R_43 26) I7 (R9 26)) := F9r5
          replace hvI : InvI Wm_lo Wm_hi I7 := hvI
          replace hvR : InvR Wm_rl R9 := hvR
          replace tIr5 : SmF ([2, 3, 4, 5, 6, 7, 11, 13, 14, 15, 16] : List Nat) I_43 I7 := tIr5
          replace tRr5 : SmF ([26, 27, 28, 29, 30, 33] : List Nat) R_43 R9 := tRr5
          have hv_I7 := hvI
          have hsI := smF_tr hsI tIr5 (by decide)
          have hsR := smF_tr hsR tRr5 (by decide)
          have u_I7_1 : (I7 1).toInt = (I_43 1).toInt := congrArg Int32.toInt (tIr5 1 rfl)
          have w_I7_2 := rg (hvI 2 (by decide)) (0) (3) rfl rfl
          have w_I7_3 := rg (hvI 3 (by decide)) (0) (1800) rfl rfl
          have w_I7_4 := rg (hvI 4 (by decide)) (0) (1800) rfl rfl
          have w_I7_5 := rg (hvI 5 (by decide)) (0) (9999) rfl rfl
          have w_I7_6 := rg (hvI 6 (by decide)) (0) (5) rfl rfl
          have w_I7_11 := rg (hvI 11 (by decide)) (0) (1800) rfl rfl
          have u_I7_12 : (I7 12).toInt = (I_43 12).toInt := congrArg Int32.toInt (tIr5 12 rfl)
          have w_I7_13 := rg (hvI 13 (by decide)) (0) (9) rfl rfl
          have w_I7_14 := rg (hvI 14 (by decide)) (0) (8) rfl rfl
          have w_I7_15 := rg (hvI 15 (by decide)) (0) (499) rfl rfl
          have w_I7_16 := rg (hvI 16 (by decide)) (0) (1) rfl rfl
          have ker5 := ke_tr xl2_43 F9r5
          refine lv_istore_n (lv' := [(2, .int r5), (0, .ref (g 45))]) hx hb dX12_reads_69 rfl hl (by decide) rfl (fun ls hl => ?_)
          exact lab_70 r5 I7 J8 R9 L10 _ _ _ hvI hvR hsI hsR (show ((0 : Int) ≤ r5.toInt ∧ r5.toInt ≤ (1 : Int)) from by omega) (show ((r5.toInt = 1 ∧ (I7 6).toInt = 0) → (I_43 3).toInt < (I7 3).toInt) from by omega) (show ((I_43 3).toInt ≤ (I7 3).toInt) from by omega) (show (a2_43.toInt = 1) from by omega) (show ((I7 3).toInt ≤ (I7 4).toInt) from by omega) (show ((I7 4).toInt ≤ (I0 1).toInt) from by omega) (show ((¬ (I7 2).toInt = 0) → (I7 3).toInt < (I7 4).toInt) from by omega) (show ((¬ (I0 6).toInt = 0) → (¬ (I7 6).toInt = 0)) from by omega) (show ((I0 3).toInt ≤ (I7 3).toInt) from by omega) (show (r5.toInt = 1 → RS a (Int32.toNatClampNeg (I7 16)) I7 (J8 0) R9) from F7r5) (show (r5.toInt = 0 → EN a I7 R9) from F8r5) (show (KE I0 (R0 26) I7 (R9 26)) from ker5) hP hD hS (lv_sub hl [1, 0] rfl)
        · have gc4 : (I_43 16).toInt = 0 := congrArg Int32.toInt c4
          refine lv_aload_n hx hb dX12_reads_54 rfl (lv_at hl 0 rfl) ?_
          refine lv_aload_n hx hb dX12_reads_55 rfl (lv_at hl 0 rfl) ?_
          refine wvi (As := []) (rest := [.ref (g 45)]) (b := (g 45)) (d := 4) F hK hP hD hS hA (s_X12_operand l G g q I_43 J_43 R_43 L_43 hvI hvR   (by omega) (by omega) (by omega) (by omega) a (rs_n (xl0_43 (by omega)) (cl_n (by omega)))) kmV_X12_operand mlX12_345 clX12 rfl 0 (Wm_at0 G g q I_43 J_43 R_43 L_43) ⟨(Nat.le_of_ble_eq_true rfl), (Nat.le_of_ble_eq_true rfl)⟩ hl.1 rfl (Nat.le_of_ble_eq_true rfl) dX12_reads_56 (fun r11 u12 H locs hwr11 hP hD hS => ?_)
          obtain ⟨I13, J14, R15, L16⟩ := u12
          replace hP : va_P G.1 vwCl (Wm G g q I13 J14 R15 L16) H := hP
          replace hD : va_D A (Wm G g q I13 J14 R15 L16) := hD
          obtain ⟨hvI, hvR, tIr11, tRr11, F0r11, F1r11, F2r11, F3r11, F4r11, F5r11, F6r11, F7r11, F8r11⟩ := hwr11
          replace F0r11 : ((0 : Int) ≤ r11.toInt ∧ r11.toInt ≤ (1 : Int)) := F0r11
          replace F1r11 : ((I13 6).toInt = 0 → (I_43 3).toInt < (I13 3).toInt) := F1r11
          replace F2r11 : ((I13 3).toInt ≤ (I13 4).toInt) := F2r11
          replace F3r11 : ((I13 4).toInt ≤ (I_43 1).toInt) := F3r11
          replace F4r11 : ((¬ (I13 2).toInt = 0) → (I13 3).toInt < (I13 4).toInt) := F4r11
          replace F5r11 : ((¬ (I_43 6).toInt = 0) → (¬ (I13 6).toInt = 0)) := F5r11
          replace F6r11 : ((I_43 3).toInt ≤ (I13 3).toInt) := F6r11
          replace F7r11 : (RS a (r11.toInt : Int).toNat I13 (J14 0) R15) := F7r11
          replace F8r11 : (KE I_43 (R_43 26) I13 (R15 26)) := F8r11
          replace hvI : InvI Wm_lo Wm_hi I13 := hvI
          replace hvR : InvR Wm_rl R15 := hvR
          replace tIr11 : SmF ([2, 3, 4, 5, 6, 7, 11, 13, 14, 15] : List Nat) I_43 I13 := tIr11
          replace tRr11 : SmF ([26, 27, 28, 29, 30, 31, 32, 33] : List Nat) R_43 R15 := tRr11
          have hv_I13 := hvI
          have hsI := smF_tr hsI tIr11 (by decide)
          have hsR := smF_tr hsR tRr11 (by decide)
          have u_I13_1 : (I13 1).toInt = (I_43 1).toInt := congrArg Int32.toInt (tIr11 1 rfl)
          have w_I13_2 := rg (hvI 2 (by decide)) (0) (3) rfl rfl
          have w_I13_3 := rg (hvI 3 (by decide)) (0) (1800) rfl rfl
          have w_I13_4 := rg (hvI 4 (by decide)) (0) (1800) rfl rfl
          have w_I13_5 := rg (hvI 5 (by decide)) (0) (9999) rfl rfl
          have w_I13_6 := rg (hvI 6 (by decide)) (0) (5) rfl rfl
          have w_I13_11 := rg (hvI 11 (by decide)) (0) (1800) rfl rfl
          have u_I13_12 : (I13 12).toInt = (I_43 12).toInt := congrArg Int32.toInt (tIr11 12 rfl)
          have w_I13_13 := rg (hvI 13 (by decide)) (0) (9) rfl rfl
          have w_I13_14 := rg (hvI 14 (by decide)) (0) (8) rfl rfl
          have w_I13_15 := rg (hvI 15 (by decide)) (0) (499) rfl rfl
          have u_I13_16 : (I13 16).toInt = (I_43 16).toInt := congrArg Int32.toInt (tIr11 16 rfl)
          have ker11 := ke_tr xl2_43 F8r11
          refine p_fld (W1 := fun y => Wm G g q y J14 R15 L16) (n := 16) (v := r11) F hK hP hD hS 0 (Wm_at0 G g q I13 J14 R15 L16) clX12 54 (by decide) flX12_176 rfl (nar01 (by omega)) (fits01 (by omega)) (Nat.le_of_ble_eq_true rfl) dX12_reads_59 (Wm_setI16 G g q I13 J14 R15 L16 _) (fun I17 H locs eI17 hP hD hS => ?_)
          have hvI : InvI Wm_lo Wm_hi I17 := inv_upI hvI 16 eI17 (show ((0 : Int) ≤ r11.toInt ∧ r11.toInt ≤ (1 : Int)) from by omega)
          have hsI := smF_up hsI eI17 (by decide)
          have hv_I17 := hvI
          have u_I17_1 : (I17 1).toInt = (I13 1).toInt := by rw [eI17]; rfl
          have u_I17_2 : (I17 2).toInt = (I13 2).toInt := by rw [eI17]; rfl
          have u_I17_3 : (I17 3).toInt = (I13 3).toInt := by rw [eI17]; rfl
          have u_I17_4 : (I17 4).toInt = (I13 4).toInt := by rw [eI17]; rfl
          have u_I17_5 : (I17 5).toInt = (I13 5).toInt := by rw [eI17]; rfl
          have u_I17_6 : (I17 6).toInt = (I13 6).toInt := by rw [eI17]; rfl
          have u_I17_11 : (I17 11).toInt = (I13 11).toInt := by rw [eI17]; rfl
          have u_I17_12 : (I17 12).toInt = (I13 12).toInt := by rw [eI17]; rfl
          have u_I17_13 : (I17 13).toInt = (I13 13).toInt := by rw [eI17]; rfl
          have u_I17_14 : (I17 14).toInt = (I13 14).toInt := by rw [eI17]; rfl
          have u_I17_15 : (I17 15).toInt = (I13 15).toInt := by rw [eI17]; rfl
          have u_I17_16 : (I17 16).toInt = r11.toInt := by rw [eI17]; rfl
          have keI17 := ke_sm ker11 (congrArg Int32.toInt (up_ne eI17 (by decide))) (congrArg Int32.toInt (up_ne eI17 (by decide))) rfl
          refine lv_goto (tgt := 70) hx hb dX12_reads_62 (by decide) ?_
          exact lab_70 a2_43 I17 J14 R15 L16 _ _ _ hvI hvR hsI hsR (show ((0 : Int) ≤ a2_43.toInt ∧ a2_43.toInt ≤ (1 : Int)) from by omega) (show ((a2_43.toInt = 1 ∧ (I17 6).toInt = 0) → (I_43 3).toInt < (I17 3).toInt) from by omega) (show ((I_43 3).toInt ≤ (I17 3).toInt) from by omega) (show (a2_43.toInt = 1) from by omega) (show ((I17 3).toInt ≤ (I17 4).toInt) from by omega) (show ((I17 4).toInt ≤ (I0 1).toInt) from by omega) (show ((¬ (I17 2).toInt = 0) → (I17 3).toInt < (I17 4).toInt) from by omega) (show ((¬ (I0 6).toInt = 0) → (¬ (I17 6).toInt = 0)) from by omega) (show ((I0 3).toInt ≤ (I17 3).toInt) from by omega) (show (a2_43.toInt = 1 → RS a (Int32.toNatClampNeg (I17 16)) I17 (J14 0) R15) from fun _ => rs_op F7r11 eI17) (show (a2_43.toInt = 0 → EN a I17 R15) from fun h => absurd h (by omega)) (show (KE I0 (R0 26) I17 (R15 26)) from keI17) hP hD hS (lv_sub hl [0, 1] rfl)
  have lab_38 : ∀ (b0_38 : Int32) (I_38 : Nat → Int32) (J_38 : Nat → Int64) (R_38 : Nat → Nat → Int32) (L_38 : Nat → Nat → Int64) (H : Heap) (locs : List Loc) (ls : Array Slot), InvI Wm_lo Wm_hi I_38 → InvR Wm_rl R_38 → SmF ([2, 3, 4, 5, 6, 7, 11, 13, 14, 15, 16] : List Nat) I0 I_38 → SmF ([26, 27, 28, 29, 30, 31, 32, 33] : List Nat) R0 R_38 → ((0 : Int) ≤ b0_38.toInt ∧ b0_38.toInt ≤ (1 : Int)) → ((I_38 13).toInt = 0) → ((I_38 14).toInt = 0) → ((I_38 15).toInt = 0) → ((I_38 16).toInt = 0) → ((I_38 11).toInt = (I0 11).toInt) → ((I_38 3).toInt = (I0 3).toInt) → ((I_38 6).toInt = 0) → ((I0 6).toInt = 0) → ((I_38 3).toInt ≤ (I_38 4).toInt) → ((I_38 4).toInt ≤ (I0 1).toInt) → ((¬ (I_38 2).toInt = 0) → (I_38 3).toInt < (I_38 4).toInt) → ((¬ (I0 6).toInt = 0) → (¬ (I_38 6).toInt = 0)) → ((I0 3).toInt ≤ (I_38 3).toInt) → (TL I_38 (R_38 0)) → (WB I_38 (J_38 0)) → (KE I0 (R0 26) I_38 (R_38 26)) → va_P G.1 vwCl (Wm G g q I_38 J_38 R_38 L_38) H → va_D A (Wm G g q I_38 J_38 R_38 L_38) → va_S A s.heap H locs → lv_has ls 3 [(0, .ref (g 45))] → W p l e (rmD 5 0 0) s m [.ref (g 45), .int p1].toArray below meth c H locs 0 0 Q (F0 m 38 ls [.int b0_38, .ref (g 45)]) := by
    intro b0_38 I_38 J_38 R_38 L_38 H locs ls hvI hvR hsI hsR y0_38 z0_38 z1_38 z2_38 z3_38 z4_38 z5_38 z6_38 z7_38 z8_38 z9_38 z10_38 z11_38 z12_38 xl0_38 xl1_38 xl2_38 hP hD hS hl
    have hv_I_38 := hvI
    have w_I_38_1 := rg (hvI 1 (by decide)) (0) (1800) rfl rfl
    have v_I_38_1 : (I_38 1).toInt = (I0 1).toInt := congrArg Int32.toInt (hsI 1 rfl)
    have w_I_38_2 := rg (hvI 2 (by decide)) (0) (3) rfl rfl
    have w_I_38_3 := rg (hvI 3 (by decide)) (0) (1800) rfl rfl
    have w_I_38_4 := rg (hvI 4 (by decide)) (0) (1800) rfl rfl
    have w_I_38_5 := rg (hvI 5 (by decide)) (0) (9999) rfl rfl
    have w_I_38_6 := rg (hvI 6 (by decide)) (0) (5) rfl rfl
    have w_I_38_11 := rg (hvI 11 (by decide)) (0) (1800) rfl rfl
    have w_I_38_12 := rg (hvI 12 (by decide)) (0) (1) rfl rfl
    have v_I_38_12 : (I_38 12).toInt = (I0 12).toInt := congrArg Int32.toInt (hsI 12 rfl)
    have w_I_38_13 := rg (hvI 13 (by decide)) (0) (9) rfl rfl
    have w_I_38_14 := rg (hvI 14 (by decide)) (0) (8) rfl rfl
    have w_I_38_15 := rg (hvI 15 (by decide)) (0) (499) rfl rfl
    have w_I_38_16 := rg (hvI 16 (by decide)) (0) (1) rfl rfl
    refine wvv (As := [.int b0_38]) (rest := []) (b := (g 45)) (d := 1) F hK hP hD hS hA (s_X12_pushes l G g q I_38 J_38 R_38 L_38 hvI hvR  b0_38 (show ((0 : Int) ≤ b0_38.toInt ∧ b0_38.toInt ≤ (5 : Int)) from by omega) (by omega)) kmV_X12_pushes mlX12_326 clX12 rfl 0 (Wm_at0 G g q I_38 J_38 R_38 L_38) ⟨(Nat.le_of_ble_eq_true rfl), (Nat.le_of_ble_eq_true rfl)⟩ hl.1 rfl (Nat.le_of_ble_eq_true rfl) dX12_reads_38 (fun u19 H locs hwr18 hP hD hS => ?_)
    obtain ⟨I20, J21, R22, L23⟩ := u19
    replace hP : va_P G.1 vwCl (Wm G g q I20 J21 R22 L23) H := hP
    replace hD : va_D A (Wm G g q I20 J21 R22 L23) := hD
    obtain ⟨hvI, hvR, tIr18, tRr18, F0r18, F1r18, F2r18, F3r18, F4r18, F5r18⟩ := hwr18
    replace F0r18 : ((I20 13).toInt = (I_38 13).toInt + 1) := F0r18
    replace F1r18 : (R22 28 = upd (R_38 28) (Int32.toNatClampNeg (I_38 13)) b0_38) := F1r18
    replace F2r18 : (R22 29 = upd (R_38 29) (Int32.toNatClampNeg (I_38 13)) 0) := F2r18
    replace F3r18 : (R22 30 = upd (R_38 30) (Int32.toNatClampNeg (I_38 13)) 1) := F3r18
    replace F4r18 : (R22 32 = upd (R_38 32) (Int32.toNatClampNeg (I_38 13)) (I_38 15)) := F4r18
    replace F5r18 : (J21 0 = J_38 0) := F5r18
    replace hvI : InvI Wm_lo Wm_hi I20 := hvI
    replace hvR : InvR Wm_rl R22 := hvR
    replace tIr18 : SmF ([13] : List Nat) I_38 I20 := tIr18
    replace tRr18 : SmF ([28, 29, 30, 32] : List Nat) R_38 R22 := tRr18
    have hv_I20 := hvI
    have hsI := smF_tr hsI tIr18 (by decide)
    have hsR := smF_tr hsR tRr18 (by decide)
    have u_I20_1 : (I20 1).toInt = (I_38 1).toInt := congrArg Int32.toInt (tIr18 1 rfl)
    have u_I20_2 : (I20 2).toInt = (I_38 2).toInt := congrArg Int32.toInt (tIr18 2 rfl)
    have u_I20_3 : (I20 3).toInt = (I_38 3).toInt := congrArg Int32.toInt (tIr18 3 rfl)
    have u_I20_4 : (I20 4).toInt = (I_38 4).toInt := congrArg Int32.toInt (tIr18 4 rfl)
    have u_I20_5 : (I20 5).toInt = (I_38 5).toInt := congrArg Int32.toInt (tIr18 5 rfl)
    have u_I20_6 : (I20 6).toInt = (I_38 6).toInt := congrArg Int32.toInt (tIr18 6 rfl)
    have u_I20_11 : (I20 11).toInt = (I_38 11).toInt := congrArg Int32.toInt (tIr18 11 rfl)
    have u_I20_12 : (I20 12).toInt = (I_38 12).toInt := congrArg Int32.toInt (tIr18 12 rfl)
    have w_I20_13 := rg (hvI 13 (by decide)) (0) (9) rfl rfl
    have u_I20_14 : (I20 14).toInt = (I_38 14).toInt := congrArg Int32.toInt (tIr18 14 rfl)
    have u_I20_15 : (I20 15).toInt = (I_38 15).toInt := congrArg Int32.toInt (tIr18 15 rfl)
    have u_I20_16 : (I20 16).toInt = (I_38 16).toInt := congrArg Int32.toInt (tIr18 16 rfl)
    have ker18 := ke_sm xl2_38 (congrArg Int32.toInt (tIr18 12 rfl)) (congrArg Int32.toInt (tIr18 11 rfl)) (tRr18 26 rfl)
    have rsr18 := rs_begin (a := a) (by omega) (by omega) xl0_38 (show WB I_38 (J21 0) from by rw [F5r18]; exact xl1_38) (by omega) (by omega) (by omega) (by omega) (by omega) (by omega) tIr18 tRr18 F0r18 F1r18 F2r18 F3r18 F4r18
    refine lv_iconst (v := 1) hx hb dX12_reads_41 (by decide) ?_
    refine lv_istore_n (lv' := [(2, .int 1), (0, .ref (g 45))]) hx hb dX12_reads_42 rfl hl (by decide) rfl (fun ls hl => ?_)
    exact lab_43 1803 1 I20 J21 R22 L23 _ _ _ (show (1801 - (I20 3).toInt + 1) < ((1803 : Nat) : Int) from by omega) hvI hvR hsI hsR (by decide) (show (1 = 1 → (I20 6).toInt = 0) from by omega) (show ((I20 3).toInt ≤ (I20 4).toInt) from by omega) (show ((I20 4).toInt ≤ (I0 1).toInt) from by omega) (show ((¬ (I20 2).toInt = 0) → (I20 3).toInt < (I20 4).toInt) from by omega) (show ((¬ (I0 6).toInt = 0) → (¬ (I20 6).toInt = 0)) from by omega) (show ((I0 3).toInt ≤ (I20 3).toInt) from by omega) (show (1 = 1 → RS a (Int32.toNatClampNeg (I20 16)) I20 (J21 0) R22) from fun _ => rs_cl rsr18 (by omega)) (show (1 = 0 → EN a I20 R22) from fun h => absurd h (by decide)) (show (KE I0 (R0 26) I20 (R22 26)) from ker18) hP hD hS (lv_sub hl [1, 0] rfl)
  have w_I0_1 := rg (hvI 1 (by decide)) (0) (1800) rfl rfl
  have w_I0_2 := rg (hvI 2 (by decide)) (0) (3) rfl rfl
  have w_I0_3 := rg (hvI 3 (by decide)) (0) (1800) rfl rfl
  have w_I0_4 := rg (hvI 4 (by decide)) (0) (1800) rfl rfl
  have w_I0_5 := rg (hvI 5 (by decide)) (0) (9999) rfl rfl
  have w_I0_6 := rg (hvI 6 (by decide)) (0) (5) rfl rfl
  have w_I0_11 := rg (hvI 11 (by decide)) (0) (1800) rfl rfl
  have w_I0_12 := rg (hvI 12 (by decide)) (0) (1) rfl rfl
  have w_I0_13 := rg (hvI 13 (by decide)) (0) (9) rfl rfl
  have w_I0_14 := rg (hvI 14 (by decide)) (0) (8) rfl rfl
  have w_I0_15 := rg (hvI 15 (by decide)) (0) (499) rfl rfl
  have w_I0_16 := rg (hvI 16 (by decide)) (0) (1) rfl rfl
  refine lv_aload_n hx hb dX12_reads_0 rfl (lv_at hl 0 rfl) ?_
  refine g_get F hK hP 0 (Wm_at0 G g q I0 J0 R0 L0) clX12 8 (by decide) flX12_36 rfl dX12_reads_1 ?_
  have w_I0_6 := rg (hvI0 6 (by decide)) (0) (5) rfl rfl
  refine lv_if_le (tgt := 8) hx hb dX12_reads_4 (by decide) (fun c24 => ?_) (fun c24 => ?_)
  · have gc24 : (I0 6).toInt ≤ 0 := (tle _ _).mp c24
    refine lv_aload_n hx hb dX12_reads_8 rfl (lv_at hl 0 rfl) ?_
    refine lv_iconst (v := 0) hx hb dX12_reads_9 (by decide) ?_
    refine p_fld (W1 := fun y => Wm G g q y J0 R0 L0) (n := 13) (v := 0) F hK hP hD hS 0 (Wm_at0 G g q I0 J0 R0 L0) clX12 50 (by decide) flX12_164 rfl rfl rfl (Nat.le_of_ble_eq_true rfl) dX12_reads_10 (Wm_setI13 G g q I0 J0 R0 L0 _) (fun I25 H locs eI25 hP hD hS => ?_)
    have hvI : InvI Wm_lo Wm_hi I25 := inv_upI hvI 13 eI25 (by decide)
    have hsI := smF_up hsI eI25 (by decide)
    have hv_I25 := hvI
    have u_I25_1 : (I25 1).toInt = (I0 1).toInt := by rw [eI25]; rfl
    have u_I25_2 : (I25 2).toInt = (I0 2).toInt := by rw [eI25]; rfl
    have u_I25_3 : (I25 3).toInt = (I0 3).toInt := by rw [eI25]; rfl
    have u_I25_4 : (I25 4).toInt = (I0 4).toInt := by rw [eI25]; rfl
    have u_I25_5 : (I25 5).toInt = (I0 5).toInt := by rw [eI25]; rfl
    have u_I25_6 : (I25 6).toInt = (I0 6).toInt := by rw [eI25]; rfl
    have u_I25_11 : (I25 11).toInt = (I0 11).toInt := by rw [eI25]; rfl
    have u_I25_12 : (I25 12).toInt = (I0 12).toInt := by rw [eI25]; rfl
    have u_I25_13 : (I25 13).toInt = 0 := by rw [eI25]; rfl
    have u_I25_14 : (I25 14).toInt = (I0 14).toInt := by rw [eI25]; rfl
    have u_I25_15 : (I25 15).toInt = (I0 15).toInt := by rw [eI25]; rfl
    have u_I25_16 : (I25 16).toInt = (I0 16).toInt := by rw [eI25]; rfl
    have keI25 := ke_sm (ke_rf I0 (R0 26)) (congrArg Int32.toInt (up_ne eI25 (by decide))) (congrArg Int32.toInt (up_ne eI25 (by decide))) rfl
    refine lv_aload_n hx hb dX12_reads_13 rfl (lv_at hl 0 rfl) ?_
    refine lv_iconst (v := 0) hx hb dX12_reads_14 (by decide) ?_
    refine p_fld (W1 := fun y => Wm G g q y J0 R0 L0) (n := 14) (v := 0) F hK hP hD hS 0 (Wm_at0 G g q I25 J0 R0 L0) clX12 51 (by decide) flX12_167 rfl rfl rfl (Nat.le_of_ble_eq_true rfl) dX12_reads_15 (Wm_setI14 G g q I25 J0 R0 L0 _) (fun I26 H locs eI26 hP hD hS => ?_)
    have hvI : InvI Wm_lo Wm_hi I26 := inv_upI hvI 14 eI26 (by decide)
    have hsI := smF_up hsI eI26 (by decide)
    have hv_I26 := hvI
    have u_I26_1 : (I26 1).toInt = (I25 1).toInt := by rw [eI26]; rfl
    have u_I26_2 : (I26 2).toInt = (I25 2).toInt := by rw [eI26]; rfl
    have u_I26_3 : (I26 3).toInt = (I25 3).toInt := by rw [eI26]; rfl
    have u_I26_4 : (I26 4).toInt = (I25 4).toInt := by rw [eI26]; rfl
    have u_I26_5 : (I26 5).toInt = (I25 5).toInt := by rw [eI26]; rfl
    have u_I26_6 : (I26 6).toInt = (I25 6).toInt := by rw [eI26]; rfl
    have u_I26_11 : (I26 11).toInt = (I25 11).toInt := by rw [eI26]; rfl
    have u_I26_12 : (I26 12).toInt = (I25 12).toInt := by rw [eI26]; rfl
    have u_I26_13 : (I26 13).toInt = (I25 13).toInt := by rw [eI26]; rfl
    have u_I26_14 : (I26 14).toInt = 0 := by rw [eI26]; rfl
    have u_I26_15 : (I26 15).toInt = (I25 15).toInt := by rw [eI26]; rfl
    have u_I26_16 : (I26 16).toInt = (I25 16).toInt := by rw [eI26]; rfl
    have keI26 := ke_sm keI25 (congrArg Int32.toInt (up_ne eI26 (by decide))) (congrArg Int32.toInt (up_ne eI26 (by decide))) rfl
    refine lv_aload_n hx hb dX12_reads_18 rfl (lv_at hl 0 rfl) ?_
    refine lv_iconst (v := 0) hx hb dX12_reads_19 (by decide) ?_
    refine p_fld (W1 := fun y => Wm G g q y J0 R0 L0) (n := 15) (v := 0) F hK hP hD hS 0 (Wm_at0 G g q I26 J0 R0 L0) clX12 53 (by decide) flX12_173 rfl rfl rfl (Nat.le_of_ble_eq_true rfl) dX12_reads_20 (Wm_setI15 G g q I26 J0 R0 L0 _) (fun I27 H locs eI27 hP hD hS => ?_)
    have hvI : InvI Wm_lo Wm_hi I27 := inv_upI hvI 15 eI27 (by decide)
    have hsI := smF_up hsI eI27 (by decide)
    have hv_I27 := hvI
    have u_I27_1 : (I27 1).toInt = (I26 1).toInt := by rw [eI27]; rfl
    have u_I27_2 : (I27 2).toInt = (I26 2).toInt := by rw [eI27]; rfl
    have u_I27_3 : (I27 3).toInt = (I26 3).toInt := by rw [eI27]; rfl
    have u_I27_4 : (I27 4).toInt = (I26 4).toInt := by rw [eI27]; rfl
    have u_I27_5 : (I27 5).toInt = (I26 5).toInt := by rw [eI27]; rfl
    have u_I27_6 : (I27 6).toInt = (I26 6).toInt := by rw [eI27]; rfl
    have u_I27_11 : (I27 11).toInt = (I26 11).toInt := by rw [eI27]; rfl
    have u_I27_12 : (I27 12).toInt = (I26 12).toInt := by rw [eI27]; rfl
    have u_I27_13 : (I27 13).toInt = (I26 13).toInt := by rw [eI27]; rfl
    have u_I27_14 : (I27 14).toInt = (I26 14).toInt := by rw [eI27]; rfl
    have u_I27_15 : (I27 15).toInt = 0 := by rw [eI27]; rfl
    have u_I27_16 : (I27 16).toInt = (I26 16).toInt := by rw [eI27]; rfl
    have keI27 := ke_sm keI26 (congrArg Int32.toInt (up_ne eI27 (by decide))) (congrArg Int32.toInt (up_ne eI27 (by decide))) rfl
    refine lv_aload_n hx hb dX12_reads_23 rfl (lv_at hl 0 rfl) ?_
    refine lv_iconst (v := 0) hx hb dX12_reads_24 (by decide) ?_
    refine p_fld (W1 := fun y => Wm G g q y J0 R0 L0) (n := 16) (v := 0) F hK hP hD hS 0 (Wm_at0 G g q I27 J0 R0 L0) clX12 54 (by decide) flX12_176 rfl (nar01 (by decide)) rfl (Nat.le_of_ble_eq_true rfl) dX12_reads_25 (Wm_setI16 G g q I27 J0 R0 L0 _) (fun I28 H locs eI28 hP hD hS => ?_)
    have hvI : InvI Wm_lo Wm_hi I28 := inv_upI hvI 16 eI28 (by decide)
    have hsI := smF_up hsI eI28 (by decide)
    have hv_I28 := hvI
    have u_I28_1 : (I28 1).toInt = (I27 1).toInt := by rw [eI28]; rfl
    have u_I28_2 : (I28 2).toInt = (I27 2).toInt := by rw [eI28]; rfl
    have u_I28_3 : (I28 3).toInt = (I27 3).toInt := by rw [eI28]; rfl
    have u_I28_4 : (I28 4).toInt = (I27 4).toInt := by rw [eI28]; rfl
    have u_I28_5 : (I28 5).toInt = (I27 5).toInt := by rw [eI28]; rfl
    have u_I28_6 : (I28 6).toInt = (I27 6).toInt := by rw [eI28]; rfl
    have u_I28_11 : (I28 11).toInt = (I27 11).toInt := by rw [eI28]; rfl
    have u_I28_12 : (I28 12).toInt = (I27 12).toInt := by rw [eI28]; rfl
    have u_I28_13 : (I28 13).toInt = (I27 13).toInt := by rw [eI28]; rfl
    have u_I28_14 : (I28 14).toInt = (I27 14).toInt := by rw [eI28]; rfl
    have u_I28_15 : (I28 15).toInt = (I27 15).toInt := by rw [eI28]; rfl
    have u_I28_16 : (I28 16).toInt = 0 := by rw [eI28]; rfl
    have keI28 := ke_sm keI27 (congrArg Int32.toInt (up_ne eI28 (by decide))) (congrArg Int32.toInt (up_ne eI28 (by decide))) rfl
    refine lv_aload_n hx hb dX12_reads_28 rfl (lv_at hl 0 rfl) ?_
    refine lv_iload_n hx hb dX12_reads_29 rfl (lv_at hl 1 rfl) ?_
    refine lv_if_eq (tgt := 37) hx hb dX12_reads_30 (by decide) (fun c29 => ?_) (fun c29 => ?_)
    · have gc29 : p1.toInt = 0 := congrArg Int32.toInt c29
      refine lv_iconst (v := 0) hx hb dX12_reads_37 (by decide) ?_
      exact lab_38 0 I28 J0 R0 L0 _ _ _ hvI hvR hsI hsR (by decide) (show ((I28 13).toInt = 0) from by omega) (show ((I28 14).toInt = 0) from by omega) (show ((I28 15).toInt = 0) from by omega) (show ((I28 16).toInt = 0) from by omega) (show ((I28 11).toInt = (I0 11).toInt) from by omega) (show ((I28 3).toInt = (I0 3).toInt) from by omega) (show ((I28 6).toInt = 0) from by omega) (show ((I0 6).toInt = 0) from by omega) (show ((I28 3).toInt ≤ (I28 4).toInt) from by omega) (show ((I28 4).toInt ≤ (I0 1).toInt) from by omega) (show ((¬ (I28 2).toInt = 0) → (I28 3).toInt < (I28 4).toInt) from by omega) (show ((¬ (I0 6).toInt = 0) → (¬ (I28 6).toInt = 0)) from by omega) (show ((I0 3).toInt ≤ (I28 3).toInt) from by omega) (show (TL I28 (R0 0)) from tl_sm (hT (by omega)) (by omega) (by omega) rfl) (show (WB I28 (J0 0)) from wb_sm (hW (by omega)) (by omega) (by omega) (by omega) rfl) (show (KE I0 (R0 26) I28 (R0 26)) from keI28) hP hD hS (lv_sub hl [0] rfl)
    · have gc29 : ¬ (p1.toInt = 0) := fun q0 => c29 (Int32.toInt_inj.mp q0)
      refine lv_iconst (v := 1) hx hb dX12_reads_33 (by decide) ?_
      refine lv_goto (tgt := 38) hx hb dX12_reads_34 (by decide) ?_
      exact lab_38 1 I28 J0 R0 L0 _ _ _ hvI hvR hsI hsR (by decide) (show ((I28 13).toInt = 0) from by omega) (show ((I28 14).toInt = 0) from by omega) (show ((I28 15).toInt = 0) from by omega) (show ((I28 16).toInt = 0) from by omega) (show ((I28 11).toInt = (I0 11).toInt) from by omega) (show ((I28 3).toInt = (I0 3).toInt) from by omega) (show ((I28 6).toInt = 0) from by omega) (show ((I0 6).toInt = 0) from by omega) (show ((I28 3).toInt ≤ (I28 4).toInt) from by omega) (show ((I28 4).toInt ≤ (I0 1).toInt) from by omega) (show ((¬ (I28 2).toInt = 0) → (I28 3).toInt < (I28 4).toInt) from by omega) (show ((¬ (I0 6).toInt = 0) → (¬ (I28 6).toInt = 0)) from by omega) (show ((I0 3).toInt ≤ (I28 3).toInt) from by omega) (show (TL I28 (R0 0)) from tl_sm (hT (by omega)) (by omega) (by omega) rfl) (show (WB I28 (J0 0)) from wb_sm (hW (by omega)) (by omega) (by omega) (by omega) rfl) (show (KE I0 (R0 26) I28 (R0 26)) from keI28) hP hD hS (lv_sub hl [0] rfl)
  · have gc24 : ¬ ((I0 6).toInt ≤ 0) := fun q0 => c24 ((tle _ _).mpr q0)
    rw [hQ]
    exact q_v F hr hlk (I0, J0, R0, L0) hP hD hS ⟨hvI, hvR, hsI, hsR, (show ((I0 3).toInt ≤ (I0 4).toInt) from by omega), (show ((I0 4).toInt ≤ (I0 1).toInt) from by omega), (show ((¬ (I0 2).toInt = 0) → (I0 3).toInt < (I0 4).toInt) from by omega), (show ((¬ (I0 6).toInt = 0) → (¬ (I0 6).toInt = 0)) from by omega), (show ((I0 3).toInt ≤ (I0 3).toInt) from by omega), (show (EN a I0 R0) from fun h => absurd h (by omega)), (show (KE I0 (R0 26) I0 (R0 26)) from (ke_rf I0 (R0 26)))⟩ dX12_reads_7 (Nat.le_of_ble_eq_true rfl) (Nat.le_of_ble_eq_true rfl)
