set_option maxHeartbeats 4000000 in
set_option maxRecDepth 100000 in
theorem s_X12_rank2 (l : Launch) (G : Gx)  (p0 : Int32) (hp0 : ((0 : Int) ≤ p0.toInt ∧ p0.toInt ≤ (22 : Int))) : CtI (S := Unit) l yX12_rank cX12_rank 1 (some .int) (rmD 1 0 0) G [.int p0] [] (fun r _ => ((1 : Int) ≤ r.toInt ∧ r.toInt ≤ (6 : Int)) ∧ (r.toInt = ((rkV p0 : Nat) : Int))) (fun _ => []) := by
  refine ctI_of (own := RX12) (by decide +kernel) rfl (Nat.le_of_ble_eq_true rfl) ?_
  intro p e s m below meth c A ls F hr hlk hnm hK hP hD hA hS hl
  have hx := F.1
  have hb := F.2.1
  have hown := F.2.2.2.1
  have hl : lv_has ls 1 [(0, .int p0)] := hl
  obtain ⟨Q, hQ⟩ : ∃ Q : State → Prop, Q = MQ below (va_Qi (S := Unit) (fun r _ => ((1 : Int) ≤ r.toInt ∧ r.toInt ≤ (6 : Int)) ∧ (r.toInt = ((rkV p0 : Nat) : Int))) (BX G A (fun _ => [])) A) [.int p0].toArray s 0 0 A := ⟨_, rfl⟩
  rw [show (MQ below (va_Qi (S := Unit) (fun r _ => ((1 : Int) ≤ r.toInt ∧ r.toInt ≤ (6 : Int)) ∧ (r.toInt = ((rkV p0 : Nat) : Int))) (BX G A (fun _ => [])) A) [.int p0].toArray s (rmD 1 0 0).cells (rmD 1 0 0).slots A) = Q from hQ.symm]
  have lab_48 : ∀  (H : Heap) (locs : List Loc) (ls : Array Slot), (rkV p0 = 4) → va_P G.1 vwCl [] H → va_D A [] → va_S A s.heap H locs → lv_has ls 1 [] → W p l e (rmD 1 0 0) s m [.int p0].toArray below meth c H locs 0 0 Q (F0 m 48 ls []) := by
    intro H locs ls xl0_48 hP hD hS hl
    refine lv_iconst (v := 4) hx hb dX12_rank_48 (by decide) ?_
    refine lv_goto (tgt := 70) hx hb dX12_rank_49 (by decide) ?_
    rw [hQ]
    exact q_i F hr hlk () hP hD hS ⟨(show ((1 : Int) ≤ 4 ∧ 4 ≤ (6 : Int)) from by omega), (show (4 = ((rkV p0 : Nat) : Int)) from (by rw [xl0_48]; rfl))⟩ dX12_rank_70 (Nat.le_of_ble_eq_true rfl) (Nat.le_of_ble_eq_true rfl)
  have lab_64 : ∀  (H : Heap) (locs : List Loc) (ls : Array Slot), (rkV p0 = 5) → va_P G.1 vwCl [] H → va_D A [] → va_S A s.heap H locs → lv_has ls 1 [] → W p l e (rmD 1 0 0) s m [.int p0].toArray below meth c H locs 0 0 Q (F0 m 64 ls []) := by
    intro H locs ls xl0_64 hP hD hS hl
    refine lv_iconst (v := 5) hx hb dX12_rank_64 (by decide) ?_
    refine lv_goto (tgt := 70) hx hb dX12_rank_65 (by decide) ?_
    rw [hQ]
    exact q_i F hr hlk () hP hD hS ⟨(show ((1 : Int) ≤ 5 ∧ 5 ≤ (6 : Int)) from by omega), (show (5 = ((rkV p0 : Nat) : Int)) from (by rw [xl0_64]; rfl))⟩ dX12_rank_70 (Nat.le_of_ble_eq_true rfl) (Nat.le_of_ble_eq_true rfl)
  refine lv_iload_n hx hb dX12_rank_0 rfl (lv_at hl 0 rfl) ?_
  refine lv_bipush (v := 21) hx hb dX12_rank_1 (by decide) ?_
  refine lv_icmp_ne (tgt := 10) hx hb dX12_rank_3 (by decide) (fun c1 => ?_) (fun c1 => ?_)
  · have gc1 : ¬ (p0.toInt = 21) := fun q0 => c1 (Int32.toInt_inj.mp q0)
    refine lv_iload_n hx hb dX12_rank_10 rfl (lv_at hl 0 rfl) ?_
    refine lv_bipush (v := 20) hx hb dX12_rank_11 (by decide) ?_
    refine lv_icmp_ne (tgt := 20) hx hb dX12_rank_13 (by decide) (fun c2 => ?_) (fun c2 => ?_)
    · have gc2 : ¬ (p0.toInt = 20) := fun q0 => c2 (Int32.toInt_inj.mp q0)
      refine lv_iload_n hx hb dX12_rank_20 rfl (lv_at hl 0 rfl) ?_
      refine lv_bipush (v := 22) hx hb dX12_rank_21 (by decide) ?_
      refine lv_icmp_ne (tgt := 30) hx hb dX12_rank_23 (by decide) (fun c3 => ?_) (fun c3 => ?_)
      · have gc3 : ¬ (p0.toInt = 22) := fun q0 => c3 (Int32.toInt_inj.mp q0)
        refine lv_iload_n hx hb dX12_rank_30 rfl (lv_at hl 0 rfl) ?_
        refine lv_bipush (v := 17) hx hb dX12_rank_31 (by decide) ?_
        refine lv_icmp_eq (tgt := 48) hx hb dX12_rank_33 (by decide) (fun c4 => ?_) (fun c4 => ?_)
        · have gc4 : p0.toInt = 17 := congrArg Int32.toInt c4
          exact lab_48  _ _ _ (show (rkV p0 = 4) from rk_4 (by omega)) hP hD hS (lv_sub hl [] rfl)
        · have gc4 : ¬ (p0.toInt = 17) := fun q0 => c4 (Int32.toInt_inj.mp q0)
          refine lv_iload_n hx hb dX12_rank_36 rfl (lv_at hl 0 rfl) ?_
          refine lv_bipush (v := 18) hx hb dX12_rank_37 (by decide) ?_
          refine lv_icmp_eq (tgt := 48) hx hb dX12_rank_39 (by decide) (fun c5 => ?_) (fun c5 => ?_)
          · have gc5 : p0.toInt = 18 := congrArg Int32.toInt c5
            exact lab_48  _ _ _ (show (rkV p0 = 4) from rk_4 (by omega)) hP hD hS (lv_sub hl [] rfl)
          · have gc5 : ¬ (p0.toInt = 18) := fun q0 => c5 (Int32.toInt_inj.mp q0)
            refine lv_iload_n hx hb dX12_rank_42 rfl (lv_at hl 0 rfl) ?_
            refine lv_bipush (v := 19) hx hb dX12_rank_43 (by decide) ?_
            refine lv_icmp_ne (tgt := 52) hx hb dX12_rank_45 (by decide) (fun c6 => ?_) (fun c6 => ?_)
            · have gc6 : ¬ (p0.toInt = 19) := fun q0 => c6 (Int32.toInt_inj.mp q0)
              refine lv_iload_n hx hb dX12_rank_52 rfl (lv_at hl 0 rfl) ?_
              refine lv_bipush (v := 10) hx hb dX12_rank_53 (by decide) ?_
              refine lv_icmp_eq (tgt := 64) hx hb dX12_rank_55 (by decide) (fun c7 => ?_) (fun c7 => ?_)
              · have gc7 : p0.toInt = 10 := congrArg Int32.toInt c7
                exact lab_64  _ _ _ (show (rkV p0 = 5) from rk_5 (by omega)) hP hD hS (lv_sub hl [] rfl)
              · have gc7 : ¬ (p0.toInt = 10) := fun q0 => c7 (Int32.toInt_inj.mp q0)
                refine lv_iload_n hx hb dX12_rank_58 rfl (lv_at hl 0 rfl) ?_
                refine lv_bipush (v := 11) hx hb dX12_rank_59 (by decide) ?_
                refine lv_icmp_ne (tgt := 68) hx hb dX12_rank_61 (by decide) (fun c8 => ?_) (fun c8 => ?_)
                · have gc8 : ¬ (p0.toInt = 11) := fun q0 => c8 (Int32.toInt_inj.mp q0)
                  refine lv_bipush (v := 6) hx hb dX12_rank_68 (by decide) ?_
                  rw [hQ]
                  exact q_i F hr hlk () hP hD hS ⟨(show ((1 : Int) ≤ 6 ∧ 6 ≤ (6 : Int)) from by omega), (show (6 = ((rkV p0 : Nat) : Int)) from (by rw [rk_6 (by omega)]; rfl))⟩ dX12_rank_70 (Nat.le_of_ble_eq_true rfl) (Nat.le_of_ble_eq_true rfl)
                · have gc8 : p0.toInt = 11 := congrArg Int32.toInt c8
                  exact lab_64  _ _ _ (show (rkV p0 = 5) from rk_5 (by omega)) hP hD hS (lv_sub hl [] rfl)
            · have gc6 : p0.toInt = 19 := congrArg Int32.toInt c6
              exact lab_48  _ _ _ (show (rkV p0 = 4) from rk_4 (by omega)) hP hD hS (lv_sub hl [] rfl)
      · have gc3 : p0.toInt = 22 := congrArg Int32.toInt c3
        refine lv_iconst (v := 3) hx hb dX12_rank_26 (by decide) ?_
        refine lv_goto (tgt := 70) hx hb dX12_rank_27 (by decide) ?_
        rw [hQ]
        exact q_i F hr hlk () hP hD hS ⟨(show ((1 : Int) ≤ 3 ∧ 3 ≤ (6 : Int)) from by omega), (show (3 = ((rkV p0 : Nat) : Int)) from (by rw [rk_3 (by omega)]; rfl))⟩ dX12_rank_70 (Nat.le_of_ble_eq_true rfl) (Nat.le_of_ble_eq_true rfl)
    · have gc2 : p0.toInt = 20 := congrArg Int32.toInt c2
      refine lv_iconst (v := 2) hx hb dX12_rank_16 (by decide) ?_
      refine lv_goto (tgt := 70) hx hb dX12_rank_17 (by decide) ?_
      rw [hQ]
      exact q_i F hr hlk () hP hD hS ⟨(show ((1 : Int) ≤ 2 ∧ 2 ≤ (6 : Int)) from by omega), (show (2 = ((rkV p0 : Nat) : Int)) from (by rw [rk_2 (by omega)]; rfl))⟩ dX12_rank_70 (Nat.le_of_ble_eq_true rfl) (Nat.le_of_ble_eq_true rfl)
  · have gc1 : p0.toInt = 21 := congrArg Int32.toInt c1
    refine lv_iconst (v := 1) hx hb dX12_rank_6 (by decide) ?_
    refine lv_goto (tgt := 70) hx hb dX12_rank_7 (by decide) ?_
    rw [hQ]
    exact q_i F hr hlk () hP hD hS ⟨(show ((1 : Int) ≤ 1 ∧ 1 ≤ (6 : Int)) from by omega), (show (1 = ((rkV p0 : Nat) : Int)) from (by rw [rk_1 (by omega)]; rfl))⟩ dX12_rank_70 (Nat.le_of_ble_eq_true rfl) (Nat.le_of_ble_eq_true rfl)
set_option maxHeartbeats 4000000 in
set_option maxRecDepth 100000 in
theorem s_X12_joins (l : Launch) (G : Gx) (g q : Nat → Nat) (I0 : Nat → Int32) (J0 : Nat → Int64) (R0 : Nat → Nat → Int32) (L0 : Nat → Nat → Int64) (hvI : InvI Wm_lo Wm_hi I0) (hvR : InvR Wm_rl R0)  (p1 : Int32) (hp1 : ((1 : Int) ≤ p1.toInt ∧ p1.toInt ≤ (6 : Int))) (hpre0 : ((I0 11).toInt + (I0 15).toInt ≤ 1800)) (hpre1 : (1 ≤ (I0 13).toInt)) (a : Nat) (d : Nat) (n : Nat) (hd : (I0 13).toInt = (d : Int) + 1) (hn : 1800 * (I0 12).toInt + (I0 11).toInt = ((a : Nat) : Int) + ((n : Nat) : Int)) (hRB : RB d (Int32.toNatClampNeg (I0 15)) n a 1 (R0 28) (R0 29) (R0 30) (R0 31) (R0 32) (R0 33) (R0 26)) : CtV (S := St) l yX12_joins cX12_joins 2 none (rmD 2 0 0) G [.ref (g 45), .int p1] (Wm G g q I0 J0 R0 L0) (fun u => InvI Wm_lo Wm_hi u.1 ∧ InvR Wm_rl u.2.2.1 ∧ SmF ([11, 15] : List Nat) I0 u.1 ∧ SmF ([26, 27] : List Nat) R0 u.2.2.1 ∧ ((u.1 11).toInt + (u.1 15).toInt = (I0 11).toInt + (I0 15).toInt) ∧ ((u.1 15).toInt ≤ (I0 15).toInt) ∧ (∃ n1 : Nat, 1800 * (I0 12).toInt + (u.1 11).toInt = ((a : Nat) : Int) + (n1 : Int) ∧ RB d (Int32.toNatClampNeg (u.1 15)) n1 a 1 (R0 28) (R0 29) (R0 30) (R0 31) (R0 32) (R0 33) (u.2.2.1 26)) ∧ (∀ i : Nat, (Int32.toNatClampNeg (R0 32 d)) ≤ i → i < (Int32.toNatClampNeg (u.1 15)) → ((rkV (R0 33 i) : Nat) : Int) < p1.toInt) ∧ (nNn (R0 33) (Int32.toNatClampNeg (u.1 15)) ≤ nNn (R0 33) (Int32.toNatClampNeg (I0 15))) ∧ ((Int32.toNatClampNeg (R0 32 d)) ≤ (Int32.toNatClampNeg (u.1 15))) ∧ (KE I0 (R0 26) u.1 (u.2.2.1 26))) (fun u => Wm G g q u.1 u.2.1 u.2.2.1 u.2.2.2) := by
  refine ctV_of (own := RX12) (by decide +kernel) rfl (Nat.le_of_ble_eq_true rfl) ?_
  intro p e s m below meth c A ls F hr hlk hnm hK hP hD hA hS hl
  have hx := F.1
  have hb := F.2.1
  have hown := F.2.2.2.1
  have hl : lv_has ls 2 [(0, .ref (g 45)), (1, .int p1)] := hl
  obtain ⟨Q, hQ⟩ : ∃ Q : State → Prop, Q = MQ below (va_Qv (S := St) (fun u => InvI Wm_lo Wm_hi u.1 ∧ InvR Wm_rl u.2.2.1 ∧ SmF ([11, 15] : List Nat) I0 u.1 ∧ SmF ([26, 27] : List Nat) R0 u.2.2.1 ∧ ((u.1 11).toInt + (u.1 15).toInt = (I0 11).toInt + (I0 15).toInt) ∧ ((u.1 15).toInt ≤ (I0 15).toInt) ∧ (∃ n1 : Nat, 1800 * (I0 12).toInt + (u.1 11).toInt = ((a : Nat) : Int) + (n1 : Int) ∧ RB d (Int32.toNatClampNeg (u.1 15)) n1 a 1 (R0 28) (R0 29) (R0 30) (R0 31) (R0 32) (R0 33) (u.2.2.1 26)) ∧ (∀ i : Nat, (Int32.toNatClampNeg (R0 32 d)) ≤ i → i < (Int32.toNatClampNeg (u.1 15)) → ((rkV (R0 33 i) : Nat) : Int) < p1.toInt) ∧ (nNn (R0 33) (Int32.toNatClampNeg (u.1 15)) ≤ nNn (R0 33) (Int32.toNatClampNeg (I0 15))) ∧ ((Int32.toNatClampNeg (R0 32 d)) ≤ (Int32.toNatClampNeg (u.1 15))) ∧ (KE I0 (R0 26) u.1 (u.2.2.1 26))) (BX G A (fun u => Wm G g q u.1 u.2.1 u.2.2.1 u.2.2.2)) A) [.ref (g 45), .int p1].toArray s 0 0 A := ⟨_, rfl⟩
  rw [show (MQ below (va_Qv (S := St) (fun u => InvI Wm_lo Wm_hi u.1 ∧ InvR Wm_rl u.2.2.1 ∧ SmF ([11, 15] : List Nat) I0 u.1 ∧ SmF ([26, 27] : List Nat) R0 u.2.2.1 ∧ ((u.1 11).toInt + (u.1 15).toInt = (I0 11).toInt + (I0 15).toInt) ∧ ((u.1 15).toInt ≤ (I0 15).toInt) ∧ (∃ n1 : Nat, 1800 * (I0 12).toInt + (u.1 11).toInt = ((a : Nat) : Int) + (n1 : Int) ∧ RB d (Int32.toNatClampNeg (u.1 15)) n1 a 1 (R0 28) (R0 29) (R0 30) (R0 31) (R0 32) (R0 33) (u.2.2.1 26)) ∧ (∀ i : Nat, (Int32.toNatClampNeg (R0 32 d)) ≤ i → i < (Int32.toNatClampNeg (u.1 15)) → ((rkV (R0 33 i) : Nat) : Int) < p1.toInt) ∧ (nNn (R0 33) (Int32.toNatClampNeg (u.1 15)) ≤ nNn (R0 33) (Int32.toNatClampNeg (I0 15))) ∧ ((Int32.toNatClampNeg (R0 32 d)) ≤ (Int32.toNatClampNeg (u.1 15))) ∧ (KE I0 (R0 26) u.1 (u.2.2.1 26))) (BX G A (fun u => Wm G g q u.1 u.2.1 u.2.2.1 u.2.2.2)) A) [.ref (g 45), .int p1].toArray s (rmD 2 0 0).cells (rmD 2 0 0).slots A) = Q from hQ.symm]
  have hsI := smF_rf ([11, 15] : List Nat) I0
  have hsR := smF_rf ([26, 27] : List Nat) R0
  have hvI0 := hvI
  have lab_0 : ∀ (k_0 : Nat)  (I_0 : Nat → Int32) (J_0 : Nat → Int64) (R_0 : Nat → Nat → Int32) (L_0 : Nat → Nat → Int64) (H : Heap) (locs : List Loc) (ls : Array Slot), (((I_0 15).toInt) < (k_0 : Int)) → InvI Wm_lo Wm_hi I_0 → InvR Wm_rl R_0 → SmF ([11, 15] : List Nat) I0 I_0 → SmF ([26, 27] : List Nat) R0 R_0 → ((I_0 11).toInt + (I_0 15).toInt = (I0 11).toInt + (I0 15).toInt) → ((I_0 15).toInt ≤ (I0 15).toInt) → (∃ n1 : Nat, 1800 * (I0 12).toInt + (I_0 11).toInt = ((a : Nat) : Int) + (n1 : Int) ∧ RB d (Int32.toNatClampNeg (I_0 15)) n1 a 1 (R0 28) (R0 29) (R0 30) (R0 31) (R0 32) (R0 33) (R_0 26)) → (nNn (R0 33) (Int32.toNatClampNeg (I_0 15)) ≤ nNn (R0 33) (Int32.toNatClampNeg (I0 15))) → (KE I0 (R0 26) I_0 (R_0 26)) → va_P G.1 vwCl (Wm G g q I_0 J_0 R_0 L_0) H → va_D A (Wm G g q I_0 J_0 R_0 L_0) → va_S A s.heap H locs → lv_has ls 2 [(0, .ref (g 45)), (1, .int p1)] → W p l e (rmD 2 0 0) s m [.ref (g 45), .int p1].toArray below meth c H locs 0 0 Q (F0 m 0 ls []) := by
    intro k_0
    induction k_0 with
    | zero =>
      intro I_0 J_0 R_0 L_0 H locs ls hm hvI hvR hsI hsR z0_0 z1_0 xl0_0 xl1_0 xl2_0 hP hD hS hl
      have hv_I_0 := hvI
      have w_I_0_11 := rg (hvI 11 (by decide)) (0) (1800) rfl rfl
      have w_I_0_12 := rg (hvI 12 (by decide)) (0) (1) rfl rfl
      have v_I_0_12 : (I_0 12).toInt = (I0 12).toInt := congrArg Int32.toInt (hsI 12 rfl)
      have w_I_0_13 := rg (hvI 13 (by decide)) (0) (9) rfl rfl
      have v_I_0_13 : (I_0 13).toInt = (I0 13).toInt := congrArg Int32.toInt (hsI 13 rfl)
      have w_I_0_15 := rg (hvI 15 (by decide)) (0) (499) rfl rfl
      exact absurd hm (by omega)
    | succ k_0 ih_0 =>
      intro I_0 J_0 R_0 L_0 H locs ls hm hvI hvR hsI hsR z0_0 z1_0 xl0_0 xl1_0 xl2_0 hP hD hS hl
      have hv_I_0 := hvI
      have w_I_0_11 := rg (hvI 11 (by decide)) (0) (1800) rfl rfl
      have w_I_0_12 := rg (hvI 12 (by decide)) (0) (1) rfl rfl
      have v_I_0_12 : (I_0 12).toInt = (I0 12).toInt := congrArg Int32.toInt (hsI 12 rfl)
      have w_I_0_13 := rg (hvI 13 (by decide)) (0) (9) rfl rfl
      have v_I_0_13 : (I_0 13).toInt = (I0 13).toInt := congrArg Int32.toInt (hsI 13 rfl)
      have w_I_0_15 := rg (hvI 15 (by decide)) (0) (499) rfl rfl
      have hsRl := hsR
      refine lv_aload_n hx hb dX12_joins_0 rfl (lv_at hl 0 rfl) ?_
      refine g_get F hK hP 0 (Wm_at0 G g q I_0 J_0 R_0 L_0) clX12 53 (by decide) flX12_173 rfl dX12_joins_1 ?_
      have w_I_0_15 := rg (hv_I_0 15 (by decide)) (0) (499) rfl rfl
      refine lv_aload_n hx hb dX12_joins_4 rfl (lv_at hl 0 rfl) ?_
      refine g_get F hK hP 0 (Wm_at0 G g q I_0 J_0 R_0 L_0) clX12 49 (by decide) flX12_161 rfl dX12_joins_5 ?_
      refine lv_aload_n hx hb dX12_joins_8 rfl (lv_at hl 0 rfl) ?_
      refine g_get F hK hP 0 (Wm_at0 G g q I_0 J_0 R_0 L_0) clX12 50 (by decide) flX12_164 rfl dX12_joins_9 ?_
      refine cst_i (hsI 13 rfl) ?_
      have w_I0_13 := rg (hvI0 13 (by decide)) (0) (9) rfl rfl
      refine lv_iconst (v := 1) hx hb dX12_joins_12 (by decide) ?_
      refine lv_isub hx hb dX12_joins_13 ?_
      refine lv_topi (fun x1 ex1 => ?_)
      have fx1 : x1.toInt = (I0 13).toInt - 1 := by rw [ex1]; exact t_sub (by show (-2147483648 : Int) ≤ (I0 13).toInt - 1; omega) (by show (I0 13).toInt - 1 ≤ 2147483647; omega)
      refine g_iald F hK hP 36 (Wm_at36 G g q I_0 J_0 R_0 L_0) (in_of (by omega)) dX12_joins_14 rfl ?_
      refine lv_topi (fun x2 ex2 => ?_)
      have gx2 : x2.toInt = (R0 32 (Int32.toNatClampNeg x1)).toInt := congrArg Int32.toInt ((ex2).trans (congrFun (hsR 32 rfl) _))
      have fx2 : ((0 : Int) ≤ x2.toInt ∧ x2.toInt ≤ (499 : Int)) := by rw [ex2]; exact hvR 32 (by decide) _ (clamp_lt (n := 20) (in_of (by omega)))
      refine lv_icmp_le (tgt := 63) hx hb dX12_joins_15 (by decide) (fun c3 => ?_) (fun c3 => ?_)
      · have gc3 : (I_0 15).toInt ≤ x2.toInt := (tle _ _).mp c3
        rw [hQ]
        exact q_v F hr hlk (I_0, J_0, R_0, L_0) hP hD hS ⟨hvI, hvR, hsI, hsR, (show ((I_0 11).toInt + (I_0 15).toInt = (I0 11).toInt + (I0 15).toInt) from by omega), (show ((I_0 15).toInt ≤ (I0 15).toInt) from by omega), (show (∃ n1 : Nat, 1800 * (I0 12).toInt + (I_0 11).toInt = ((a : Nat) : Int) + (n1 : Int) ∧ RB d (Int32.toNatClampNeg (I_0 15)) n1 a 1 (R0 28) (R0 29) (R0 30) (R0 31) (R0 32) (R0 33) (R_0 26)) from xl0_0), (show (∀ i : Nat, (Int32.toNatClampNeg (R0 32 d)) ≤ i → i < (Int32.toNatClampNeg (I_0 15)) → ((rkV (R0 33 i) : Nat) : Int) < p1.toInt) from join_lt0 (by have c1 := clamp_nn (x := (I_0 15)) (by omega); have e0 : Int32.toNatClampNeg x1 = d := (by have c3 := clamp_nn (x := x1) (by omega); omega); have g0 := gx2; rw [e0] at g0; have c4 := clamp_nn (x := (R0 32 d)) (by omega); omega)), (show (nNn (R0 33) (Int32.toNatClampNeg (I_0 15)) ≤ nNn (R0 33) (Int32.toNatClampNeg (I0 15))) from xl1_0), (show ((Int32.toNatClampNeg (R0 32 d)) ≤ (Int32.toNatClampNeg (I_0 15))) from by obtain ⟨n1, _, hrb⟩ := xl0_0; exact hrb.1.1), (show (KE I0 (R0 26) I_0 (R_0 26)) from xl2_0)⟩ dX12_joins_63 (Nat.le_of_ble_eq_true rfl) (Nat.le_of_ble_eq_true rfl)
      · have gc3 : ¬ ((I_0 15).toInt ≤ x2.toInt) := fun q0 => c3 ((tle _ _).mpr q0)
        refine lv_aload_n hx hb dX12_joins_18 rfl (lv_at hl 0 rfl) ?_
        refine g_get F hK hP 0 (Wm_at0 G g q I_0 J_0 R_0 L_0) clX12 52 (by decide) flX12_170 rfl dX12_joins_19 ?_
        refine lv_aload_n hx hb dX12_joins_22 rfl (lv_at hl 0 rfl) ?_
        refine g_get F hK hP 0 (Wm_at0 G g q I_0 J_0 R_0 L_0) clX12 53 (by decide) flX12_173 rfl dX12_joins_23 ?_
        refine lv_iconst (v := 1) hx hb dX12_joins_26 (by decide) ?_
        refine lv_isub hx hb dX12_joins_27 ?_
        refine lv_topi (fun x4 ex4 => ?_)
        have fx4 : x4.toInt = (I_0 15).toInt - 1 := by rw [ex4]; exact t_sub (by show (-2147483648 : Int) ≤ (I_0 15).toInt - 1; omega) (by show (I_0 15).toInt - 1 ≤ 2147483647; omega)
        refine g_iald F hK hP 37 (Wm_at37 G g q I_0 J_0 R_0 L_0) (in_of (by omega)) dX12_joins_28 rfl ?_
        refine lv_topi (fun x5 ex5 => ?_)
        have gx5 : x5.toInt = (R0 33 (Int32.toNatClampNeg x4)).toInt := congrArg Int32.toInt ((ex5).trans (congrFun (hsR 33 rfl) _))
        have fx5 : ((0 : Int) ≤ x5.toInt ∧ x5.toInt ≤ (22 : Int)) := by rw [ex5]; exact hvR 33 (by decide) _ (clamp_lt (n := 500) (in_of (by omega)))
        refine w0i (As := [.int x5]) (rest := []) (d := 1) F hK hP hD hS hA (s_X12_rank2 l G  x5 (show ((0 : Int) ≤ x5.toInt ∧ x5.toInt ≤ (22 : Int)) from by omega)) kmS_X12_rank mlX12_320 ⟨(Nat.le_of_ble_eq_true rfl), (Nat.le_of_ble_eq_true rfl)⟩ hl.1 rfl (Nat.le_of_ble_eq_true rfl) dX12_joins_29 (fun r6 u7 H locs hwr6 hP hD hS => ?_)
        obtain ⟨F0r6, F1r6⟩ := hwr6
        replace F0r6 : ((1 : Int) ≤ r6.toInt ∧ r6.toInt ≤ (6 : Int)) := F0r6
        replace F1r6 : (r6.toInt = ((rkV x5 : Nat) : Int)) := F1r6
        refine lv_iload_n hx hb dX12_joins_32 rfl (lv_at hl 1 rfl) ?_
        refine lv_icmp_lt (tgt := 63) hx hb dX12_joins_33 (by decide) (fun c8 => ?_) (fun c8 => ?_)
        · have gc8 : r6.toInt < p1.toInt := (tlt _ _).mp c8
          rw [hQ]
          exact q_v F hr hlk (I_0, J_0, R_0, L_0) hP hD hS ⟨hvI, hvR, hsI, hsR, (show ((I_0 11).toInt + (I_0 15).toInt = (I0 11).toInt + (I0 15).toInt) from by omega), (show ((I_0 15).toInt ≤ (I0 15).toInt) from by omega), (show (∃ n1 : Nat, 1800 * (I0 12).toInt + (I_0 11).toInt = ((a : Nat) : Int) + (n1 : Int) ∧ RB d (Int32.toNatClampNeg (I_0 15)) n1 a 1 (R0 28) (R0 29) (R0 30) (R0 31) (R0 32) (R0 33) (R_0 26)) from xl0_0), (show (∀ i : Nat, (Int32.toNatClampNeg (R0 32 d)) ≤ i → i < (Int32.toNatClampNeg (I_0 15)) → ((rkV (R0 33 i) : Nat) : Int) < p1.toInt) from by obtain ⟨n1, _, hrb⟩ := xl0_0; exact join_lt1 (k := Int32.toNatClampNeg x4) hrb (by have c1 := clamp_nn (x := (I_0 15)) (by omega); have c5 := clamp_nn (x := x4) (by omega); omega) (by have e6 : R0 33 (Int32.toNatClampNeg x4) = x5 := (by rw [ex5, hsRl 33 rfl]); rw [e6]; omega)), (show (nNn (R0 33) (Int32.toNatClampNeg (I_0 15)) ≤ nNn (R0 33) (Int32.toNatClampNeg (I0 15))) from xl1_0), (show ((Int32.toNatClampNeg (R0 32 d)) ≤ (Int32.toNatClampNeg (I_0 15))) from by obtain ⟨n1, _, hrb⟩ := xl0_0; exact hrb.1.1), (show (KE I0 (R0 26) I_0 (R_0 26)) from xl2_0)⟩ dX12_joins_63 (Nat.le_of_ble_eq_true rfl) (Nat.le_of_ble_eq_true rfl)
        · have gc8 : ¬ (r6.toInt < p1.toInt) := fun q0 => c8 ((tlt _ _).mpr q0)
          refine lv_aload_n hx hb dX12_joins_36 rfl (lv_at hl 0 rfl) ?_
          refine lv_dup hx hb dX12_joins_37 rfl ?_
          refine g_get F hK hP 0 (Wm_at0 G g q I_0 J_0 R_0 L_0) clX12 53 (by decide) flX12_173 rfl dX12_joins_38 ?_
          refine lv_iconst (v := 1) hx hb dX12_joins_41 (by decide) ?_
          refine lv_isub hx hb dX12_joins_42 ?_
          refine lv_topi (fun x9 ex9 => ?_)
          have fx9 : x9.toInt = (I_0 15).toInt - 1 := by rw [ex9]; exact t_sub (by show (-2147483648 : Int) ≤ (I_0 15).toInt - 1; omega) (by show (I_0 15).toInt - 1 ≤ 2147483647; omega)
          refine p_fld (W1 := fun y => Wm G g q y J_0 R_0 L_0) (n := 15) (v := x9) F hK hP hD hS 0 (Wm_at0 G g q I_0 J_0 R_0 L_0) clX12 53 (by decide) flX12_173 rfl rfl rfl (Nat.le_of_ble_eq_true rfl) dX12_joins_43 (Wm_setI15 G g q I_0 J_0 R_0 L_0 _) (fun I10 H locs eI10 hP hD hS => ?_)
          have hvI : InvI Wm_lo Wm_hi I10 := inv_upI hvI 15 eI10 (show ((0 : Int) ≤ x9.toInt ∧ x9.toInt ≤ (499 : Int)) from by omega)
          have hsI := smF_up hsI eI10 (by decide)
          have hv_I10 := hvI
          have u_I10_11 : (I10 11).toInt = (I_0 11).toInt := by rw [eI10]; rfl
          have u_I10_12 : (I10 12).toInt = (I_0 12).toInt := by rw [eI10]; rfl
          have u_I10_13 : (I10 13).toInt = (I_0 13).toInt := by rw [eI10]; rfl
          have u_I10_15 : (I10 15).toInt = x9.toInt := by rw [eI10]; rfl
          have keI10 := ke_sm xl2_0 (congrArg Int32.toInt (up_ne eI10 (by decide))) (congrArg Int32.toInt (up_ne eI10 (by decide))) rfl
          refine lv_aload_n hx hb dX12_joins_46 rfl (lv_at hl 0 rfl) ?_
          refine lv_aload_n hx hb dX12_joins_47 rfl (lv_at hl 0 rfl) ?_
          refine g_get F hK hP 0 (Wm_at0 G g q I10 J_0 R_0 L_0) clX12 52 (by decide) flX12_170 rfl dX12_joins_48 ?_
          refine lv_aload_n hx hb dX12_joins_51 rfl (lv_at hl 0 rfl) ?_
          refine g_get F hK hP 0 (Wm_at0 G g q I10 J_0 R_0 L_0) clX12 53 (by decide) flX12_173 rfl dX12_joins_52 ?_
          have w_I10_15 := rg (hv_I10 15 (by decide)) (0) (499) rfl rfl
          refine g_iald F hK hP 37 (Wm_at37 G g q I10 J_0 R_0 L_0) (in_of (by omega)) dX12_joins_55 rfl ?_
          refine lv_topi (fun x11 ex11 => ?_)
          have gx11 : x11.toInt = (R0 33 (Int32.toNatClampNeg (I10 15))).toInt := congrArg Int32.toInt ((ex11).trans (congrFun (hsR 33 rfl) _))
          have fx11 : ((0 : Int) ≤ x11.toInt ∧ x11.toInt ≤ (22 : Int)) := by rw [ex11]; exact hvR 33 (by decide) _ (clamp_lt (n := 500) (in_of (by omega)))
          refine lv_iconst (v := 0) hx hb dX12_joins_56 (by decide) ?_
          refine wvv (As := [.int x11, .int 0]) (rest := []) (b := (g 45)) (d := 1) F hK hP hD hS hA (s_X12_add l G g q I10 J_0 R_0 L_0 hvI hvR  x11 0 (show ((0 : Int) ≤ x11.toInt ∧ x11.toInt ≤ (22 : Int)) from by omega) (by decide) (by omega)) kmV_X12_add mlX12_323 clX12 rfl 0 (Wm_at0 G g q I10 J_0 R_0 L_0) ⟨(Nat.le_of_ble_eq_true rfl), (Nat.le_of_ble_eq_true rfl)⟩ hl.1 rfl (Nat.le_of_ble_eq_true rfl) dX12_joins_57 (fun u13 H locs hwr12 hP hD hS => ?_)
          obtain ⟨I14, J15, R16, L17⟩ := u13
          replace hP : va_P G.1 vwCl (Wm G g q I14 J15 R16 L17) H := hP
          replace hD : va_D A (Wm G g q I14 J15 R16 L17) := hD
          obtain ⟨hvI, hvR, tIr12, tRr12, F0r12, F1r12⟩ := hwr12
          replace F0r12 : ((I14 11).toInt = (I10 11).toInt + 1) := F0r12
          replace F1r12 : (R16 26 = upd (R_0 26) ((1800 * (I10 12).toInt + (I10 11).toInt).toNat) x11) := F1r12
          replace hvI : InvI Wm_lo Wm_hi I14 := hvI
          replace hvR : InvR Wm_rl R16 := hvR
          replace tIr12 : SmF ([11] : List Nat) I10 I14 := tIr12
          replace tRr12 : SmF ([26, 27] : List Nat) R_0 R16 := tRr12
          have hv_I14 := hvI
          have hsI := smF_tr hsI tIr12 (by decide)
          have hsR := smF_tr hsR tRr12 (by decide)
          have w_I14_11 := rg (hvI 11 (by decide)) (0) (1800) rfl rfl
          have u_I14_12 : (I14 12).toInt = (I10 12).toInt := congrArg Int32.toInt (tIr12 12 rfl)
          have u_I14_13 : (I14 13).toInt = (I10 13).toInt := congrArg Int32.toInt (tIr12 13 rfl)
          have u_I14_15 : (I14 15).toInt = (I10 15).toInt := congrArg Int32.toInt (tIr12 15 rfl)
          have ker12 := ke_add keI10 (congrArg Int32.toInt (tIr12 12 rfl)) F0r12 F1r12 (by omega)
          refine lv_goto (tgt := 0) hx hb dX12_joins_60 (by decide) ?_
          exact ih_0  I14 J15 R16 L17 _ _ _ (show ((I14 15).toInt) < (k_0 : Int) from by omega) hvI hvR hsI hsR (show ((I14 11).toInt + (I14 15).toInt = (I0 11).toInt + (I0 15).toInt) from by omega) (show ((I14 15).toInt ≤ (I0 15).toInt) from by omega) (show (∃ n1 : Nat, 1800 * (I0 12).toInt + (I14 11).toInt = ((a : Nat) : Int) + (n1 : Int) ∧ RB d (Int32.toNatClampNeg (I14 15)) n1 a 1 (R0 28) (R0 29) (R0 30) (R0 31) (R0 32) (R0 33) (R16 26)) from by obtain ⟨n1, h1, hrb⟩ := xl0_0; exact ⟨n1 + 1, by omega, join_step hrb (show Int32.toNatClampNeg (I_0 15) = Int32.toNatClampNeg (I14 15) + 1 from by have c1 := clamp_nn (x := (I_0 15)) (by omega); have c2 := clamp_nn (x := (I14 15)) (by omega); omega) (by have c1 := clamp_nn (x := (I_0 15)) (by omega); have e0 : Int32.toNatClampNeg x1 = d := (by have c3 := clamp_nn (x := x1) (by omega); omega); have g0 := gx2; rw [e0] at g0; have c4 := clamp_nn (x := (R0 32 d)) (by omega); have c2 := clamp_nn (x := (I14 15)) (by omega); omega) (by rw [ex11, hsRl 33 rfl]; exact congrArg (R0 33) (congrArg Int32.toNatClampNeg (tIr12 15 rfl).symm)) F1r12 (by omega)⟩) (show (nNn (R0 33) (Int32.toNatClampNeg (I14 15)) ≤ nNn (R0 33) (Int32.toNatClampNeg (I0 15))) from nN_step (show Int32.toNatClampNeg (I_0 15) = Int32.toNatClampNeg (I14 15) + 1 from by have c1 := clamp_nn (x := (I_0 15)) (by omega); have c2 := clamp_nn (x := (I14 15)) (by omega); omega) xl1_0) (show (KE I0 (R0 26) I14 (R16 26)) from ker12) hP hD hS (lv_sub hl [0, 1] rfl)
  have w_I0_11 := rg (hvI 11 (by decide)) (0) (1800) rfl rfl
  have w_I0_12 := rg (hvI 12 (by decide)) (0) (1) rfl rfl
  have w_I0_13 := rg (hvI 13 (by decide)) (0) (9) rfl rfl
  have w_I0_15 := rg (hvI 15 (by decide)) (0) (499) rfl rfl
  exact lab_0 500  I0 J0 R0 L0 _ _ _ (show ((I0 15).toInt) < ((500 : Nat) : Int) from by omega) hvI hvR hsI hsR (show ((I0 11).toInt + (I0 15).toInt = (I0 11).toInt + (I0 15).toInt) from by omega) (show ((I0 15).toInt ≤ (I0 15).toInt) from by omega) (show (∃ n1 : Nat, 1800 * (I0 12).toInt + (I0 11).toInt = ((a : Nat) : Int) + (n1 : Int) ∧ RB d (Int32.toNatClampNeg (I0 15)) n1 a 1 (R0 28) (R0 29) (R0 30) (R0 31) (R0 32) (R0 33) (R0 26)) from ⟨n, by omega, hRB⟩) (show (nNn (R0 33) (Int32.toNatClampNeg (I0 15)) ≤ nNn (R0 33) (Int32.toNatClampNeg (I0 15))) from Nat.le_refl _) (show (KE I0 (R0 26) I0 (R0 26)) from (ke_rf I0 (R0 26))) hP hD hS (lv_sub hl [0, 1] rfl)
