set_option maxHeartbeats 4000000 in
set_option maxRecDepth 100000 in
theorem s_X12_isSign2 (l : Launch) (G : Gx) (g q : Nat → Nat) (I0 : Nat → Int32) (J0 : Nat → Int64) (R0 : Nat → Nat → Int32) (L0 : Nat → Nat → Int64) (hvI : InvI Wm_lo Wm_hi I0) (hvR : InvR Wm_rl R0)  (p1 : Int32) (hp1 : ((37 : Int) ≤ p1.toInt ∧ p1.toInt ≤ (93 : Int))) : CtI (S := Unit) l yX12_isSign cX12_isSign 2 (some .boolean) (rmD 1 0 0) G [.ref (g 45), .int p1] (Wm G g q I0 J0 R0 L0) (fun r _ => ((0 : Int) ≤ r.toInt ∧ r.toInt ≤ (1 : Int)) ∧ ((r.toInt = 1 ∧ (I0 2).toInt = 3 ∧ (I0 5).toInt = p1.toInt) ∨ (r.toInt = 0 ∧ (¬ (I0 2).toInt = 3 ∨ ¬ (I0 5).toInt = p1.toInt)))) (fun _ => (Wm G g q I0 J0 R0 L0)) := by
  refine ctI_of (own := RX12) (by decide +kernel) rfl (Nat.le_of_ble_eq_true rfl) ?_
  intro p e s m below meth c A ls F hr hlk hnm hK hP hD hA hS hl
  have hx := F.1
  have hb := F.2.1
  have hown := F.2.2.2.1
  have hl : lv_has ls 2 [(0, .ref (g 45)), (1, .int p1)] := hl
  obtain ⟨Q, hQ⟩ : ∃ Q : State → Prop, Q = MQ below (va_Qi (S := Unit) (fun r _ => ((0 : Int) ≤ r.toInt ∧ r.toInt ≤ (1 : Int)) ∧ ((r.toInt = 1 ∧ (I0 2).toInt = 3 ∧ (I0 5).toInt = p1.toInt) ∨ (r.toInt = 0 ∧ (¬ (I0 2).toInt = 3 ∨ ¬ (I0 5).toInt = p1.toInt)))) (BX G A (fun _ => (Wm G g q I0 J0 R0 L0))) A) [.ref (g 45), .int p1].toArray s 0 0 A := ⟨_, rfl⟩
  rw [show (MQ below (va_Qi (S := Unit) (fun r _ => ((0 : Int) ≤ r.toInt ∧ r.toInt ≤ (1 : Int)) ∧ ((r.toInt = 1 ∧ (I0 2).toInt = 3 ∧ (I0 5).toInt = p1.toInt) ∨ (r.toInt = 0 ∧ (¬ (I0 2).toInt = 3 ∨ ¬ (I0 5).toInt = p1.toInt)))) (BX G A (fun _ => (Wm G g q I0 J0 R0 L0))) A) [.ref (g 45), .int p1].toArray s (rmD 1 0 0).cells (rmD 1 0 0).slots A) = Q from hQ.symm]
  have hvI0 := hvI
  refine lv_aload_n hx hb dX12_isSign_0 rfl (lv_at hl 0 rfl) ?_
  refine g_get F hK hP 0 (Wm_at0 G g q I0 J0 R0 L0) clX12 3 (by decide) flX12_20 rfl dX12_isSign_1 ?_
  have w_I0_2 := rg (hvI0 2 (by decide)) (0) (3) rfl rfl
  refine lv_iconst (v := 3) hx hb dX12_isSign_4 (by decide) ?_
  refine lv_icmp_ne (tgt := 20) hx hb dX12_isSign_5 (by decide) (fun c1 => ?_) (fun c1 => ?_)
  · have gc1 : ¬ ((I0 2).toInt = 3) := fun q0 => c1 (Int32.toInt_inj.mp q0)
    refine lv_iconst (v := 0) hx hb dX12_isSign_20 (by decide) ?_
    rw [hQ]
    exact q_z F hr hlk () hP hD hS ⟨(show ((0 : Int) ≤ 0 ∧ 0 ≤ (1 : Int)) from by omega), (show ((0 = 1 ∧ (I0 2).toInt = 3 ∧ (I0 5).toInt = p1.toInt) ∨ (0 = 0 ∧ (¬ (I0 2).toInt = 3 ∨ ¬ (I0 5).toInt = p1.toInt))) from by omega)⟩ dX12_isSign_21 (Nat.le_of_ble_eq_true rfl) (Nat.le_of_ble_eq_true rfl) (nar01 (by decide))
  · have gc1 : (I0 2).toInt = 3 := congrArg Int32.toInt c1
    refine lv_aload_n hx hb dX12_isSign_8 rfl (lv_at hl 0 rfl) ?_
    refine g_get F hK hP 0 (Wm_at0 G g q I0 J0 R0 L0) clX12 6 (by decide) flX12_29 rfl dX12_isSign_9 ?_
    have w_I0_5 := rg (hvI0 5 (by decide)) (0) (9999) rfl rfl
    refine lv_iload_n hx hb dX12_isSign_12 rfl (lv_at hl 1 rfl) ?_
    refine lv_icmp_ne (tgt := 20) hx hb dX12_isSign_13 (by decide) (fun c2 => ?_) (fun c2 => ?_)
    · have gc2 : ¬ ((I0 5).toInt = p1.toInt) := fun q0 => c2 (Int32.toInt_inj.mp q0)
      refine lv_iconst (v := 0) hx hb dX12_isSign_20 (by decide) ?_
      rw [hQ]
      exact q_z F hr hlk () hP hD hS ⟨(show ((0 : Int) ≤ 0 ∧ 0 ≤ (1 : Int)) from by omega), (show ((0 = 1 ∧ (I0 2).toInt = 3 ∧ (I0 5).toInt = p1.toInt) ∨ (0 = 0 ∧ (¬ (I0 2).toInt = 3 ∨ ¬ (I0 5).toInt = p1.toInt))) from by omega)⟩ dX12_isSign_21 (Nat.le_of_ble_eq_true rfl) (Nat.le_of_ble_eq_true rfl) (nar01 (by decide))
    · have gc2 : (I0 5).toInt = p1.toInt := congrArg Int32.toInt c2
      refine lv_iconst (v := 1) hx hb dX12_isSign_16 (by decide) ?_
      refine lv_goto (tgt := 21) hx hb dX12_isSign_17 (by decide) ?_
      rw [hQ]
      exact q_z F hr hlk () hP hD hS ⟨(show ((0 : Int) ≤ 1 ∧ 1 ≤ (1 : Int)) from by omega), (show ((1 = 1 ∧ (I0 2).toInt = 3 ∧ (I0 5).toInt = p1.toInt) ∨ (1 = 0 ∧ (¬ (I0 2).toInt = 3 ∨ ¬ (I0 5).toInt = p1.toInt))) from by omega)⟩ dX12_isSign_21 (Nat.le_of_ble_eq_true rfl) (Nat.le_of_ble_eq_true rfl) (nar01 (by decide))
set_option maxHeartbeats 4000000 in
set_option maxRecDepth 100000 in
theorem s_X12_isWord2 (l : Launch) (G : Gx) (g q : Nat → Nat) (I0 : Nat → Int32) (J0 : Nat → Int64) (R0 : Nat → Nat → Int32) (L0 : Nat → Nat → Int64) (hvI : InvI Wm_lo Wm_hi I0) (hvR : InvR Wm_rl R0)  (p1 : Int64)  : CtI (S := Unit) l yX12_isWord cX12_isWord 3 (some .boolean) (rmD 1 0 0) G [.ref (g 45), .long p1] (Wm G g q I0 J0 R0 L0) (fun r _ => ((0 : Int) ≤ r.toInt ∧ r.toInt ≤ (1 : Int)) ∧ (r.toInt = 1 → (I0 2).toInt = 1) ∧ (r.toInt = 1 → J0 0 = p1)) (fun _ => (Wm G g q I0 J0 R0 L0)) := by
  refine ctI_of (own := RX12) (by decide +kernel) rfl (Nat.le_of_ble_eq_true rfl) ?_
  intro p e s m below meth c A ls F hr hlk hnm hK hP hD hA hS hl
  have hx := F.1
  have hb := F.2.1
  have hown := F.2.2.2.1
  have hl : lv_has ls 3 [(0, .ref (g 45)), (1, .long p1)] := hl
  obtain ⟨Q, hQ⟩ : ∃ Q : State → Prop, Q = MQ below (va_Qi (S := Unit) (fun r _ => ((0 : Int) ≤ r.toInt ∧ r.toInt ≤ (1 : Int)) ∧ (r.toInt = 1 → (I0 2).toInt = 1) ∧ (r.toInt = 1 → J0 0 = p1)) (BX G A (fun _ => (Wm G g q I0 J0 R0 L0))) A) [.ref (g 45), .long p1].toArray s 0 0 A := ⟨_, rfl⟩
  rw [show (MQ below (va_Qi (S := Unit) (fun r _ => ((0 : Int) ≤ r.toInt ∧ r.toInt ≤ (1 : Int)) ∧ (r.toInt = 1 → (I0 2).toInt = 1) ∧ (r.toInt = 1 → J0 0 = p1)) (BX G A (fun _ => (Wm G g q I0 J0 R0 L0))) A) [.ref (g 45), .long p1].toArray s (rmD 1 0 0).cells (rmD 1 0 0).slots A) = Q from hQ.symm]
  have hvI0 := hvI
  refine lv_aload_n hx hb dX12_isWord_0 rfl (lv_at hl 0 rfl) ?_
  refine g_get F hK hP 0 (Wm_at0 G g q I0 J0 R0 L0) clX12 3 (by decide) flX12_20 rfl dX12_isWord_1 ?_
  have w_I0_2 := rg (hvI0 2 (by decide)) (0) (3) rfl rfl
  refine lv_iconst (v := 1) hx hb dX12_isWord_4 (by decide) ?_
  refine lv_icmp_ne (tgt := 21) hx hb dX12_isWord_5 (by decide) (fun c1 => ?_) (fun c1 => ?_)
  · have gc1 : ¬ ((I0 2).toInt = 1) := fun q0 => c1 (Int32.toInt_inj.mp q0)
    refine lv_iconst (v := 0) hx hb dX12_isWord_21 (by decide) ?_
    rw [hQ]
    exact q_z F hr hlk () hP hD hS ⟨(show ((0 : Int) ≤ 0 ∧ 0 ≤ (1 : Int)) from by omega), (show (0 = 1 → (I0 2).toInt = 1) from by omega), (show (0 = 1 → J0 0 = p1) from fun h => absurd h (by decide))⟩ dX12_isWord_22 (Nat.le_of_ble_eq_true rfl) (Nat.le_of_ble_eq_true rfl) (nar01 (by decide))
  · have gc1 : (I0 2).toInt = 1 := congrArg Int32.toInt c1
    refine lv_aload_n hx hb dX12_isWord_8 rfl (lv_at hl 0 rfl) ?_
    refine g_get F hK hP 0 (Wm_at0 G g q I0 J0 R0 L0) clX12 7 (by decide) flX12_32 rfl dX12_isWord_9 ?_
    refine lv_lload_n hx hb dX12_isWord_12 rfl (lv_at hl 1 rfl) ?_
    refine W.lcmp hx hb dX12_isWord_13 ?_
    refine lv_topi (fun x2 ex2 => ?_)
    refine lv_if_ne (tgt := 21) hx hb dX12_isWord_14 (by decide) (fun c3 => ?_) (fun c3 => ?_)
    · have gc3 : ¬ (x2.toInt = 0) := fun q0 => c3 (Int32.toInt_inj.mp q0)
      have nc3 : ¬ (J0 0) = p1 := fun q0 => c3 (by rw [ex2, q0]; exact lcmp_s _)
      refine lv_iconst (v := 0) hx hb dX12_isWord_21 (by decide) ?_
      rw [hQ]
      exact q_z F hr hlk () hP hD hS ⟨(show ((0 : Int) ≤ 0 ∧ 0 ≤ (1 : Int)) from by omega), (show (0 = 1 → (I0 2).toInt = 1) from by omega), (show (0 = 1 → J0 0 = p1) from fun h => absurd h (by decide))⟩ dX12_isWord_22 (Nat.le_of_ble_eq_true rfl) (Nat.le_of_ble_eq_true rfl) (nar01 (by decide))
    · have gc3 : x2.toInt = 0 := congrArg Int32.toInt c3
      refine lv_iconst (v := 1) hx hb dX12_isWord_17 (by decide) ?_
      refine lv_goto (tgt := 22) hx hb dX12_isWord_18 (by decide) ?_
      rw [hQ]
      exact q_z F hr hlk () hP hD hS ⟨(show ((0 : Int) ≤ 1 ∧ 1 ≤ (1 : Int)) from by omega), (show (1 = 1 → (I0 2).toInt = 1) from by omega), (show (1 = 1 → J0 0 = p1) from fun _ => lcmp_e (by rw [← ex2]; exact c3))⟩ dX12_isWord_22 (Nat.le_of_ble_eq_true rfl) (Nat.le_of_ble_eq_true rfl) (nar01 (by decide))
set_option maxHeartbeats 4000000 in
set_option maxRecDepth 100000 in
theorem s_X12_counts2 (l : Launch) (G : Gx) (g q : Nat → Nat) (I0 : Nat → Int32) (J0 : Nat → Int64) (R0 : Nat → Nat → Int32) (L0 : Nat → Nat → Int64) (hvI : InvI Wm_lo Wm_hi I0) (hvR : InvR Wm_rl R0)  (p1 : Int32) (hp1 : ((0 : Int) ≤ p1.toInt ∧ p1.toInt ≤ (1 : Int))) (hpre0 : ((I0 3).toInt ≤ (I0 4).toInt)) (hpre1 : ((I0 4).toInt ≤ (I0 1).toInt)) (hpre2 : ((¬ (I0 2).toInt = 0) → (I0 3).toInt < (I0 4).toInt)) : CtI (S := St) l yX12_counts cX12_counts 2 (some .boolean) (rmD 3 0 0) G [.ref (g 45), .int p1] (Wm G g q I0 J0 R0 L0) (fun r u => InvI Wm_lo Wm_hi u.1 ∧ InvR Wm_rl u.2.2.1 ∧ SmF ([2, 3, 4, 5, 6, 7] : List Nat) I0 u.1 ∧ SmF ([] : List Nat) R0 u.2.2.1 ∧ ((0 : Int) ≤ r.toInt ∧ r.toInt ≤ (1 : Int)) ∧ ((r.toInt = 1 ∧ p1.toInt = 0 ∧ (u.1 6).toInt = 0 ∧ (I0 4).toInt ≤ (u.1 3).toInt) ∨ (r.toInt = 0 ∧ ¬ (u.1 6).toInt = 0)) ∧ ((u.1 3).toInt ≤ (u.1 4).toInt) ∧ ((u.1 4).toInt ≤ (I0 1).toInt) ∧ ((¬ (u.1 2).toInt = 0) → (u.1 3).toInt < (u.1 4).toInt) ∧ ((¬ (I0 6).toInt = 0) → (¬ (u.1 6).toInt = 0)) ∧ ((I0 3).toInt ≤ (u.1 3).toInt) ∧ ((u.1 6).toInt = 0 → TL u.1 (u.2.2.1 0)) ∧ ((u.1 6).toInt = 0 → WB u.1 (u.2.1 0))) (fun u => Wm G g q u.1 u.2.1 u.2.2.1 u.2.2.2) := by
  refine ctI_of (own := RX12) (by decide +kernel) rfl (Nat.le_of_ble_eq_true rfl) ?_
  intro p e s m below meth c A ls F hr hlk hnm hK hP hD hA hS hl
  have hx := F.1
  have hb := F.2.1
  have hown := F.2.2.2.1
  have hl : lv_has ls 2 [(0, .ref (g 45)), (1, .int p1)] := hl
  obtain ⟨Q, hQ⟩ : ∃ Q : State → Prop, Q = MQ below (va_Qi (S := St) (fun r u => InvI Wm_lo Wm_hi u.1 ∧ InvR Wm_rl u.2.2.1 ∧ SmF ([2, 3, 4, 5, 6, 7] : List Nat) I0 u.1 ∧ SmF ([] : List Nat) R0 u.2.2.1 ∧ ((0 : Int) ≤ r.toInt ∧ r.toInt ≤ (1 : Int)) ∧ ((r.toInt = 1 ∧ p1.toInt = 0 ∧ (u.1 6).toInt = 0 ∧ (I0 4).toInt ≤ (u.1 3).toInt) ∨ (r.toInt = 0 ∧ ¬ (u.1 6).toInt = 0)) ∧ ((u.1 3).toInt ≤ (u.1 4).toInt) ∧ ((u.1 4).toInt ≤ (I0 1).toInt) ∧ ((¬ (u.1 2).toInt = 0) → (u.1 3).toInt < (u.1 4).toInt) ∧ ((¬ (I0 6).toInt = 0) → (¬ (u.1 6).toInt = 0)) ∧ ((I0 3).toInt ≤ (u.1 3).toInt) ∧ ((u.1 6).toInt = 0 → TL u.1 (u.2.2.1 0)) ∧ ((u.1 6).toInt = 0 → WB u.1 (u.2.1 0))) (BX G A (fun u => Wm G g q u.1 u.2.1 u.2.2.1 u.2.2.2)) A) [.ref (g 45), .int p1].toArray s 0 0 A := ⟨_, rfl⟩
  rw [show (MQ below (va_Qi (S := St) (fun r u => InvI Wm_lo Wm_hi u.1 ∧ InvR Wm_rl u.2.2.1 ∧ SmF ([2, 3, 4, 5, 6, 7] : List Nat) I0 u.1 ∧ SmF ([] : List Nat) R0 u.2.2.1 ∧ ((0 : Int) ≤ r.toInt ∧ r.toInt ≤ (1 : Int)) ∧ ((r.toInt = 1 ∧ p1.toInt = 0 ∧ (u.1 6).toInt = 0 ∧ (I0 4).toInt ≤ (u.1 3).toInt) ∨ (r.toInt = 0 ∧ ¬ (u.1 6).toInt = 0)) ∧ ((u.1 3).toInt ≤ (u.1 4).toInt) ∧ ((u.1 4).toInt ≤ (I0 1).toInt) ∧ ((¬ (u.1 2).toInt = 0) → (u.1 3).toInt < (u.1 4).toInt) ∧ ((¬ (I0 6).toInt = 0) → (¬ (u.1 6).toInt = 0)) ∧ ((I0 3).toInt ≤ (u.1 3).toInt) ∧ ((u.1 6).toInt = 0 → TL u.1 (u.2.2.1 0)) ∧ ((u.1 6).toInt = 0 → WB u.1 (u.2.1 0))) (BX G A (fun u => Wm G g q u.1 u.2.1 u.2.2.1 u.2.2.2)) A) [.ref (g 45), .int p1].toArray s (rmD 3 0 0).cells (rmD 3 0 0).slots A) = Q from hQ.symm]
  have hsI := smF_rf ([2, 3, 4, 5, 6, 7] : List Nat) I0
  have hsR := smF_rf ([] : List Nat) R0
  have hvI0 := hvI
  have lab_31 : ∀  (I_31 : Nat → Int32) (J_31 : Nat → Int64) (R_31 : Nat → Nat → Int32) (L_31 : Nat → Nat → Int64) (H : Heap) (locs : List Loc) (ls : Array Slot), InvI Wm_lo Wm_hi I_31 → InvR Wm_rl R_31 → SmF ([2, 3, 4, 5, 6, 7] : List Nat) I0 I_31 → SmF ([] : List Nat) R0 R_31 → ((I_31 6).toInt = 0 → (p1.toInt = 0 ∧ (I0 4).toInt ≤ (I_31 3).toInt)) → ((I_31 3).toInt ≤ (I_31 4).toInt) → ((I_31 4).toInt ≤ (I0 1).toInt) → ((¬ (I_31 2).toInt = 0) → (I_31 3).toInt < (I_31 4).toInt) → ((¬ (I0 6).toInt = 0) → (¬ (I_31 6).toInt = 0)) → ((I0 3).toInt ≤ (I_31 3).toInt) → ((I_31 6).toInt = 0 → TL I_31 (R_31 0)) → ((I_31 6).toInt = 0 → WB I_31 (J_31 0)) → va_P G.1 vwCl (Wm G g q I_31 J_31 R_31 L_31) H → va_D A (Wm G g q I_31 J_31 R_31 L_31) → va_S A s.heap H locs → lv_has ls 2 [(0, .ref (g 45))] → W p l e (rmD 3 0 0) s m [.ref (g 45), .int p1].toArray below meth c H locs 0 0 Q (F0 m 31 ls []) := by
    intro I_31 J_31 R_31 L_31 H locs ls hvI hvR hsI hsR z0_31 z1_31 z2_31 z3_31 z4_31 z5_31 xl0_31 xl1_31 hP hD hS hl
    have hv_I_31 := hvI
    have w_I_31_1 := rg (hvI 1 (by decide)) (0) (1800) rfl rfl
    have v_I_31_1 : (I_31 1).toInt = (I0 1).toInt := congrArg Int32.toInt (hsI 1 rfl)
    have w_I_31_2 := rg (hvI 2 (by decide)) (0) (3) rfl rfl
    have w_I_31_3 := rg (hvI 3 (by decide)) (0) (1800) rfl rfl
    have w_I_31_4 := rg (hvI 4 (by decide)) (0) (1800) rfl rfl
    have w_I_31_6 := rg (hvI 6 (by decide)) (0) (5) rfl rfl
    refine lv_aload_n hx hb dX12_counts_31 rfl (lv_at hl 0 rfl) ?_
    refine g_get F hK hP 0 (Wm_at0 G g q I_31 J_31 R_31 L_31) clX12 8 (by decide) flX12_36 rfl dX12_counts_32 ?_
    have w_I_31_6 := rg (hv_I_31 6 (by decide)) (0) (5) rfl rfl
    refine lv_if_ne (tgt := 42) hx hb dX12_counts_35 (by decide) (fun c1 => ?_) (fun c1 => ?_)
    · have gc1 : ¬ ((I_31 6).toInt = 0) := fun q0 => c1 (Int32.toInt_inj.mp q0)
      refine lv_iconst (v := 0) hx hb dX12_counts_42 (by decide) ?_
      rw [hQ]
      exact q_z F hr hlk (I_31, J_31, R_31, L_31) hP hD hS ⟨hvI, hvR, hsI, hsR, (show ((0 : Int) ≤ 0 ∧ 0 ≤ (1 : Int)) from by omega), (show ((0 = 1 ∧ p1.toInt = 0 ∧ (I_31 6).toInt = 0 ∧ (I0 4).toInt ≤ (I_31 3).toInt) ∨ (0 = 0 ∧ ¬ (I_31 6).toInt = 0)) from by omega), (show ((I_31 3).toInt ≤ (I_31 4).toInt) from by omega), (show ((I_31 4).toInt ≤ (I0 1).toInt) from by omega), (show ((¬ (I_31 2).toInt = 0) → (I_31 3).toInt < (I_31 4).toInt) from by omega), (show ((¬ (I0 6).toInt = 0) → (¬ (I_31 6).toInt = 0)) from by omega), (show ((I0 3).toInt ≤ (I_31 3).toInt) from by omega), (show ((I_31 6).toInt = 0 → TL I_31 (R_31 0)) from xl0_31), (show ((I_31 6).toInt = 0 → WB I_31 (J_31 0)) from xl1_31)⟩ dX12_counts_43 (Nat.le_of_ble_eq_true rfl) (Nat.le_of_ble_eq_true rfl) (nar01 (by decide))
    · have gc1 : (I_31 6).toInt = 0 := congrArg Int32.toInt c1
      refine lv_iconst (v := 1) hx hb dX12_counts_38 (by decide) ?_
      refine lv_goto (tgt := 43) hx hb dX12_counts_39 (by decide) ?_
      rw [hQ]
      exact q_z F hr hlk (I_31, J_31, R_31, L_31) hP hD hS ⟨hvI, hvR, hsI, hsR, (show ((0 : Int) ≤ 1 ∧ 1 ≤ (1 : Int)) from by omega), (show ((1 = 1 ∧ p1.toInt = 0 ∧ (I_31 6).toInt = 0 ∧ (I0 4).toInt ≤ (I_31 3).toInt) ∨ (1 = 0 ∧ ¬ (I_31 6).toInt = 0)) from by omega), (show ((I_31 3).toInt ≤ (I_31 4).toInt) from by omega), (show ((I_31 4).toInt ≤ (I0 1).toInt) from by omega), (show ((¬ (I_31 2).toInt = 0) → (I_31 3).toInt < (I_31 4).toInt) from by omega), (show ((¬ (I0 6).toInt = 0) → (¬ (I_31 6).toInt = 0)) from by omega), (show ((I0 3).toInt ≤ (I_31 3).toInt) from by omega), (show ((I_31 6).toInt = 0 → TL I_31 (R_31 0)) from xl0_31), (show ((I_31 6).toInt = 0 → WB I_31 (J_31 0)) from xl1_31)⟩ dX12_counts_43 (Nat.le_of_ble_eq_true rfl) (Nat.le_of_ble_eq_true rfl) (nar01 (by decide))
  have lab_20 : ∀  (I_20 : Nat → Int32) (J_20 : Nat → Int64) (R_20 : Nat → Nat → Int32) (L_20 : Nat → Nat → Int64) (H : Heap) (locs : List Loc) (ls : Array Slot), InvI Wm_lo Wm_hi I_20 → InvR Wm_rl R_20 → SmF ([2, 3, 4, 5, 6, 7] : List Nat) I0 I_20 → SmF ([] : List Nat) R0 R_20 → ((I_20 6).toInt = 0 → p1.toInt = 0) → ((I_20 4).toInt = (I0 4).toInt) → ((I_20 3).toInt ≤ (I_20 4).toInt) → ((I_20 4).toInt ≤ (I0 1).toInt) → ((¬ (I_20 2).toInt = 0) → (I_20 3).toInt < (I_20 4).toInt) → ((¬ (I0 6).toInt = 0) → (¬ (I_20 6).toInt = 0)) → ((I0 3).toInt ≤ (I_20 3).toInt) → va_P G.1 vwCl (Wm G g q I_20 J_20 R_20 L_20) H → va_D A (Wm G g q I_20 J_20 R_20 L_20) → va_S A s.heap H locs → lv_has ls 2 [(0, .ref (g 45))] → W p l e (rmD 3 0 0) s m [.ref (g 45), .int p1].toArray below meth c H locs 0 0 Q (F0 m 20 ls []) := by
    intro I_20 J_20 R_20 L_20 H locs ls hvI hvR hsI hsR z0_20 z1_20 z2_20 z3_20 z4_20 z5_20 z6_20 hP hD hS hl
    have hv_I_20 := hvI
    have w_I_20_1 := rg (hvI 1 (by decide)) (0) (1800) rfl rfl
    have v_I_20_1 : (I_20 1).toInt = (I0 1).toInt := congrArg Int32.toInt (hsI 1 rfl)
    have w_I_20_2 := rg (hvI 2 (by decide)) (0) (3) rfl rfl
    have w_I_20_3 := rg (hvI 3 (by decide)) (0) (1800) rfl rfl
    have w_I_20_4 := rg (hvI 4 (by decide)) (0) (1800) rfl rfl
    have w_I_20_6 := rg (hvI 6 (by decide)) (0) (5) rfl rfl
    refine lv_aload_n hx hb dX12_counts_20 rfl (lv_at hl 0 rfl) ?_
    refine g_get F hK hP 0 (Wm_at0 G g q I_20 J_20 R_20 L_20) clX12 8 (by decide) flX12_36 rfl dX12_counts_21 ?_
    have w_I_20_6 := rg (hv_I_20 6 (by decide)) (0) (5) rfl rfl
    refine lv_if_ne (tgt := 31) hx hb dX12_counts_24 (by decide) (fun c2 => ?_) (fun c2 => ?_)
    · have gc2 : ¬ ((I_20 6).toInt = 0) := fun q0 => c2 (Int32.toInt_inj.mp q0)
      exact lab_31  I_20 J_20 R_20 L_20 _ _ _ hvI hvR hsI hsR (show ((I_20 6).toInt = 0 → (p1.toInt = 0 ∧ (I0 4).toInt ≤ (I_20 3).toInt)) from by omega) (show ((I_20 3).toInt ≤ (I_20 4).toInt) from by omega) (show ((I_20 4).toInt ≤ (I0 1).toInt) from by omega) (show ((¬ (I_20 2).toInt = 0) → (I_20 3).toInt < (I_20 4).toInt) from by omega) (show ((¬ (I0 6).toInt = 0) → (¬ (I_20 6).toInt = 0)) from by omega) (show ((I0 3).toInt ≤ (I_20 3).toInt) from by omega) (show ((I_20 6).toInt = 0 → TL I_20 (R_20 0)) from fun h => absurd h (by omega)) (show ((I_20 6).toInt = 0 → WB I_20 (J_20 0)) from fun h => absurd h (by omega)) hP hD hS (lv_sub hl [0] rfl)
    · have gc2 : (I_20 6).toInt = 0 := congrArg Int32.toInt c2
      refine lv_aload_n hx hb dX12_counts_27 rfl (lv_at hl 0 rfl) ?_
      refine wvv (As := []) (rest := []) (b := (g 45)) (d := 2) F hK hP hD hS hA (s_X12_ahead2 l G g q I_20 J_20 R_20 L_20 hvI hvR   (by omega) (by omega) (by omega)) kmV_X12_ahead mlX12_247 clX12 rfl 0 (Wm_at0 G g q I_20 J_20 R_20 L_20) ⟨(Nat.le_of_ble_eq_true rfl), (Nat.le_of_ble_eq_true rfl)⟩ hl.1 rfl (Nat.le_of_ble_eq_true rfl) dX12_counts_28 (fun u4 H locs hwr3 hP hD hS => ?_)
      obtain ⟨I5, J6, R7, L8⟩ := u4
      replace hP : va_P G.1 vwCl (Wm G g q I5 J6 R7 L8) H := hP
      replace hD : va_D A (Wm G g q I5 J6 R7 L8) := hD
      obtain ⟨hvI, hvR, tIr3, tRr3, F0r3, F1r3, F2r3, F3r3, F4r3, F5r3, F6r3, F7r3, F8r3⟩ := hwr3
      replace F0r3 : ((I_20 4).toInt ≤ (I5 3).toInt) := F0r3
      replace F1r3 : ((I5 3).toInt ≤ (I5 4).toInt) := F1r3
      replace F2r3 : ((I5 4).toInt ≤ (I_20 1).toInt) := F2r3
      replace F3r3 : ((¬ (I5 2).toInt = 0) → (I5 3).toInt < (I5 4).toInt) := F3r3
      replace F4r3 : ((¬ (I_20 6).toInt = 0) → (¬ (I5 6).toInt = 0)) := F4r3
      replace F5r3 : ((I_20 3).toInt ≤ (I5 3).toInt) := F5r3
      replace F6r3 : (TL I5 (R_20 0)) := F6r3
      replace F7r3 : (WB I5 (J6 0)) := F7r3
      replace F8r3 : (TL I_20 (R_20 0) → (I_20 2).toInt = 1 → (I5 6).toInt = 0 → ((I5 2).toInt = 1 ∨ (I5 2).toInt = 2) → (I_20 4).toInt + 1 ≤ (I5 3).toInt) := F8r3
      replace hvI : InvI Wm_lo Wm_hi I5 := hvI
      replace hvR : InvR Wm_rl R7 := hvR
      replace tIr3 : SmF ([2, 3, 4, 5, 6, 7] : List Nat) I_20 I5 := tIr3
      replace tRr3 : SmF ([] : List Nat) R_20 R7 := tRr3
      have hv_I5 := hvI
      have hsI := smF_tr hsI tIr3 (by decide)
      have hsR := smF_tr hsR tRr3 (by decide)
      have u_I5_1 : (I5 1).toInt = (I_20 1).toInt := congrArg Int32.toInt (tIr3 1 rfl)
      have w_I5_2 := rg (hvI 2 (by decide)) (0) (3) rfl rfl
      have w_I5_3 := rg (hvI 3 (by decide)) (0) (1800) rfl rfl
      have w_I5_4 := rg (hvI 4 (by decide)) (0) (1800) rfl rfl
      have w_I5_6 := rg (hvI 6 (by decide)) (0) (5) rfl rfl
      have nr3_0 : ((I5 3).toInt ≤ (I5 4).toInt) := by omega
      have nr3_1 : ((I5 4).toInt ≤ (I0 1).toInt) := by omega
      have nr3_2 : ((¬ (I5 2).toInt = 0) → (I5 3).toInt < (I5 4).toInt) := by omega
      have nr3_3 : ((¬ (I0 6).toInt = 0) → (¬ (I5 6).toInt = 0)) := by omega
      have nr3_4 : ((I0 3).toInt ≤ (I5 3).toInt) := by omega
      clear z2_20 z3_20 z4_20 z5_20 z6_20 F1r3 F2r3 F3r3 F4r3 F5r3
      exact lab_31  I5 J6 R7 L8 _ _ _ hvI hvR hsI hsR (show ((I5 6).toInt = 0 → (p1.toInt = 0 ∧ (I0 4).toInt ≤ (I5 3).toInt)) from by omega) (show ((I5 3).toInt ≤ (I5 4).toInt) from by omega) (show ((I5 4).toInt ≤ (I0 1).toInt) from by omega) (show ((¬ (I5 2).toInt = 0) → (I5 3).toInt < (I5 4).toInt) from by omega) (show ((¬ (I0 6).toInt = 0) → (¬ (I5 6).toInt = 0)) from by omega) (show ((I0 3).toInt ≤ (I5 3).toInt) from by omega) (show ((I5 6).toInt = 0 → TL I5 (R7 0)) from fun _ => (by rw [tRr3 0 rfl]; exact F6r3)) (show ((I5 6).toInt = 0 → WB I5 (J6 0)) from fun _ => F7r3) hP hD hS (lv_sub hl [0] rfl)
  have w_I0_1 := rg (hvI 1 (by decide)) (0) (1800) rfl rfl
  have w_I0_2 := rg (hvI 2 (by decide)) (0) (3) rfl rfl
  have w_I0_3 := rg (hvI 3 (by decide)) (0) (1800) rfl rfl
  have w_I0_4 := rg (hvI 4 (by decide)) (0) (1800) rfl rfl
  have w_I0_6 := rg (hvI 6 (by decide)) (0) (5) rfl rfl
  refine lv_aload_n hx hb dX12_counts_0 rfl (lv_at hl 0 rfl) ?_
  refine g_get F hK hP 0 (Wm_at0 G g q I0 J0 R0 L0) clX12 8 (by decide) flX12_36 rfl dX12_counts_1 ?_
  have w_I0_6 := rg (hvI0 6 (by decide)) (0) (5) rfl rfl
  refine lv_if_ne (tgt := 20) hx hb dX12_counts_4 (by decide) (fun c9 => ?_) (fun c9 => ?_)
  · have gc9 : ¬ ((I0 6).toInt = 0) := fun q0 => c9 (Int32.toInt_inj.mp q0)
    exact lab_20  I0 J0 R0 L0 _ _ _ hvI hvR hsI hsR (show ((I0 6).toInt = 0 → p1.toInt = 0) from by omega) (show ((I0 4).toInt = (I0 4).toInt) from by omega) (show ((I0 3).toInt ≤ (I0 4).toInt) from by omega) (show ((I0 4).toInt ≤ (I0 1).toInt) from by omega) (show ((¬ (I0 2).toInt = 0) → (I0 3).toInt < (I0 4).toInt) from by omega) (show ((¬ (I0 6).toInt = 0) → (¬ (I0 6).toInt = 0)) from by omega) (show ((I0 3).toInt ≤ (I0 3).toInt) from by omega) hP hD hS (lv_sub hl [0] rfl)
  · have gc9 : (I0 6).toInt = 0 := congrArg Int32.toInt c9
    refine lv_iload_n hx hb dX12_counts_7 rfl (lv_at hl 1 rfl) ?_
    refine lv_if_eq (tgt := 20) hx hb dX12_counts_8 (by decide) (fun c10 => ?_) (fun c10 => ?_)
    · have gc10 : p1.toInt = 0 := congrArg Int32.toInt c10
      exact lab_20  I0 J0 R0 L0 _ _ _ hvI hvR hsI hsR (show ((I0 6).toInt = 0 → p1.toInt = 0) from by omega) (show ((I0 4).toInt = (I0 4).toInt) from by omega) (show ((I0 3).toInt ≤ (I0 4).toInt) from by omega) (show ((I0 4).toInt ≤ (I0 1).toInt) from by omega) (show ((¬ (I0 2).toInt = 0) → (I0 3).toInt < (I0 4).toInt) from by omega) (show ((¬ (I0 6).toInt = 0) → (¬ (I0 6).toInt = 0)) from by omega) (show ((I0 3).toInt ≤ (I0 3).toInt) from by omega) hP hD hS (lv_sub hl [0] rfl)
    · have gc10 : ¬ (p1.toInt = 0) := fun q0 => c10 (Int32.toInt_inj.mp q0)
      refine lv_aload_n hx hb dX12_counts_11 rfl (lv_at hl 0 rfl) ?_
      refine lv_iconst (v := 5) hx hb dX12_counts_12 (by decide) ?_
      refine lv_aload_n hx hb dX12_counts_13 rfl (lv_at hl 0 rfl) ?_
      refine g_get F hK hP 0 (Wm_at0 G g q I0 J0 R0 L0) clX12 4 (by decide) flX12_23 rfl dX12_counts_14 ?_
      have w_I0_3 := rg (hvI0 3 (by decide)) (0) (1800) rfl rfl
      refine wvv (As := [.int 5, .int (I0 3)]) (rest := []) (b := (g 45)) (d := 1) F hK hP hD hS hA (s_X12_blame l G g q I0 J0 R0 L0 hvI hvR  5 ((I0 3)) (by decide) (show ((0 : Int) ≤ (I0 3).toInt ∧ (I0 3).toInt ≤ (1800 : Int)) from by omega)) kmV_X12_blame mlX12_240 clX12 rfl 0 (Wm_at0 G g q I0 J0 R0 L0) ⟨(Nat.le_of_ble_eq_true rfl), (Nat.le_of_ble_eq_true rfl)⟩ hl.1 rfl (Nat.le_of_ble_eq_true rfl) dX12_counts_17 (fun u12 H locs hwr11 hP hD hS => ?_)
      obtain ⟨I13, J14, R15, L16⟩ := u12
      replace hP : va_P G.1 vwCl (Wm G g q I13 J14 R15 L16) H := hP
      replace hD : va_D A (Wm G g q I13 J14 R15 L16) := hD
      obtain ⟨hvI, hvR, tIr11, tRr11, F0r11⟩ := hwr11
      replace F0r11 : (¬ (I13 6).toInt = 0) := F0r11
      replace hvI : InvI Wm_lo Wm_hi I13 := hvI
      replace hvR : InvR Wm_rl R15 := hvR
      replace tIr11 : SmF ([6, 7] : List Nat) I0 I13 := tIr11
      replace tRr11 : SmF ([] : List Nat) R0 R15 := tRr11
      have hv_I13 := hvI
      have hsI := smF_tr hsI tIr11 (by decide)
      have hsR := smF_tr hsR tRr11 (by decide)
      have u_I13_1 : (I13 1).toInt = (I0 1).toInt := congrArg Int32.toInt (tIr11 1 rfl)
      have u_I13_2 : (I13 2).toInt = (I0 2).toInt := congrArg Int32.toInt (tIr11 2 rfl)
      have u_I13_3 : (I13 3).toInt = (I0 3).toInt := congrArg Int32.toInt (tIr11 3 rfl)
      have u_I13_4 : (I13 4).toInt = (I0 4).toInt := congrArg Int32.toInt (tIr11 4 rfl)
      have w_I13_6 := rg (hvI 6 (by decide)) (0) (5) rfl rfl
      have nr11_0 : ((I13 3).toInt ≤ (I13 4).toInt) := by omega
      have nr11_1 : ((I13 4).toInt ≤ (I0 1).toInt) := by omega
      have nr11_2 : ((¬ (I13 2).toInt = 0) → (I13 3).toInt < (I13 4).toInt) := by omega
      have nr11_3 : ((¬ (I0 6).toInt = 0) → (¬ (I13 6).toInt = 0)) := by omega
      have nr11_4 : ((I0 3).toInt ≤ (I13 3).toInt) := by omega
      exact lab_20  I13 J14 R15 L16 _ _ _ hvI hvR hsI hsR (show ((I13 6).toInt = 0 → p1.toInt = 0) from by omega) (show ((I13 4).toInt = (I0 4).toInt) from by omega) (show ((I13 3).toInt ≤ (I13 4).toInt) from by omega) (show ((I13 4).toInt ≤ (I0 1).toInt) from by omega) (show ((¬ (I13 2).toInt = 0) → (I13 3).toInt < (I13 4).toInt) from by omega) (show ((¬ (I0 6).toInt = 0) → (¬ (I13 6).toInt = 0)) from by omega) (show ((I0 3).toInt ≤ (I13 3).toInt) from by omega) hP hD hS (lv_sub hl [0] rfl)
set_option maxHeartbeats 4000000 in
set_option maxRecDepth 100000 in
theorem s_X12_must_2 (l : Launch) (G : Gx) (g q : Nat → Nat) (I0 : Nat → Int32) (J0 : Nat → Int64) (R0 : Nat → Nat → Int32) (L0 : Nat → Nat → Int64) (hvI : InvI Wm_lo Wm_hi I0) (hvR : InvR Wm_rl R0)  (p1 : Int64) (hpre0 : ((I0 3).toInt ≤ (I0 4).toInt)) (hpre1 : ((I0 4).toInt ≤ (I0 1).toInt)) (hpre2 : ((¬ (I0 2).toInt = 0) → (I0 3).toInt < (I0 4).toInt)) : CtV (S := St) l yX12_must_ cX12_must_ 3 none (rmD 3 0 0) G [.ref (g 45), .long p1] (Wm G g q I0 J0 R0 L0) (fun u => InvI Wm_lo Wm_hi u.1 ∧ InvR Wm_rl u.2.2.1 ∧ SmF ([2, 3, 4, 5, 6, 7] : List Nat) I0 u.1 ∧ SmF ([] : List Nat) R0 u.2.2.1 ∧ ((u.1 6).toInt = 0 → (I0 3).toInt < (u.1 3).toInt) ∧ ((u.1 6).toInt = 0 → (I0 6).toInt = 0) ∧ ((u.1 3).toInt ≤ (u.1 4).toInt) ∧ ((u.1 4).toInt ≤ (I0 1).toInt) ∧ ((¬ (u.1 2).toInt = 0) → (u.1 3).toInt < (u.1 4).toInt) ∧ ((¬ (I0 6).toInt = 0) → (¬ (u.1 6).toInt = 0)) ∧ ((I0 3).toInt ≤ (u.1 3).toInt) ∧ ((u.1 6).toInt = 0 → TL u.1 (u.2.2.1 0)) ∧ ((u.1 6).toInt = 0 → WB u.1 (u.2.1 0))) (fun u => Wm G g q u.1 u.2.1 u.2.2.1 u.2.2.2) := by
  refine ctV_of (own := RX12) (by decide +kernel) rfl (Nat.le_of_ble_eq_true rfl) ?_
  intro p e s m below meth c A ls F hr hlk hnm hK hP hD hA hS hl
  have hx := F.1
  have hb := F.2.1
  have hown := F.2.2.2.1
  have hl : lv_has ls 3 [(0, .ref (g 45)), (1, .long p1)] := hl
  obtain ⟨Q, hQ⟩ : ∃ Q : State → Prop, Q = MQ below (va_Qv (S := St) (fun u => InvI Wm_lo Wm_hi u.1 ∧ InvR Wm_rl u.2.2.1 ∧ SmF ([2, 3, 4, 5, 6, 7] : List Nat) I0 u.1 ∧ SmF ([] : List Nat) R0 u.2.2.1 ∧ ((u.1 6).toInt = 0 → (I0 3).toInt < (u.1 3).toInt) ∧ ((u.1 6).toInt = 0 → (I0 6).toInt = 0) ∧ ((u.1 3).toInt ≤ (u.1 4).toInt) ∧ ((u.1 4).toInt ≤ (I0 1).toInt) ∧ ((¬ (u.1 2).toInt = 0) → (u.1 3).toInt < (u.1 4).toInt) ∧ ((¬ (I0 6).toInt = 0) → (¬ (u.1 6).toInt = 0)) ∧ ((I0 3).toInt ≤ (u.1 3).toInt) ∧ ((u.1 6).toInt = 0 → TL u.1 (u.2.2.1 0)) ∧ ((u.1 6).toInt = 0 → WB u.1 (u.2.1 0))) (BX G A (fun u => Wm G g q u.1 u.2.1 u.2.2.1 u.2.2.2)) A) [.ref (g 45), .long p1].toArray s 0 0 A := ⟨_, rfl⟩
  rw [show (MQ below (va_Qv (S := St) (fun u => InvI Wm_lo Wm_hi u.1 ∧ InvR Wm_rl u.2.2.1 ∧ SmF ([2, 3, 4, 5, 6, 7] : List Nat) I0 u.1 ∧ SmF ([] : List Nat) R0 u.2.2.1 ∧ ((u.1 6).toInt = 0 → (I0 3).toInt < (u.1 3).toInt) ∧ ((u.1 6).toInt = 0 → (I0 6).toInt = 0) ∧ ((u.1 3).toInt ≤ (u.1 4).toInt) ∧ ((u.1 4).toInt ≤ (I0 1).toInt) ∧ ((¬ (u.1 2).toInt = 0) → (u.1 3).toInt < (u.1 4).toInt) ∧ ((¬ (I0 6).toInt = 0) → (¬ (u.1 6).toInt = 0)) ∧ ((I0 3).toInt ≤ (u.1 3).toInt) ∧ ((u.1 6).toInt = 0 → TL u.1 (u.2.2.1 0)) ∧ ((u.1 6).toInt = 0 → WB u.1 (u.2.1 0))) (BX G A (fun u => Wm G g q u.1 u.2.1 u.2.2.1 u.2.2.2)) A) [.ref (g 45), .long p1].toArray s (rmD 3 0 0).cells (rmD 3 0 0).slots A) = Q from hQ.symm]
  have hsI := smF_rf ([2, 3, 4, 5, 6, 7] : List Nat) I0
  have hsR := smF_rf ([] : List Nat) R0
  have hvI0 := hvI
  have lab_25 : ∀  (I_25 : Nat → Int32) (J_25 : Nat → Int64) (R_25 : Nat → Nat → Int32) (L_25 : Nat → Nat → Int64) (H : Heap) (locs : List Loc) (ls : Array Slot), InvI Wm_lo Wm_hi I_25 → InvR Wm_rl R_25 → SmF ([2, 3, 4, 5, 6, 7] : List Nat) I0 I_25 → SmF ([] : List Nat) R0 R_25 → ((I_25 6).toInt = 0 → (I_25 3).toInt < (I_25 4).toInt) → ((I_25 3).toInt = (I0 3).toInt) → ((I_25 3).toInt ≤ (I_25 4).toInt) → ((I_25 4).toInt ≤ (I0 1).toInt) → ((¬ (I_25 2).toInt = 0) → (I_25 3).toInt < (I_25 4).toInt) → ((¬ (I0 6).toInt = 0) → (¬ (I_25 6).toInt = 0)) → ((I0 3).toInt ≤ (I_25 3).toInt) → va_P G.1 vwCl (Wm G g q I_25 J_25 R_25 L_25) H → va_D A (Wm G g q I_25 J_25 R_25 L_25) → va_S A s.heap H locs → lv_has ls 3 [(0, .ref (g 45))] → W p l e (rmD 3 0 0) s m [.ref (g 45), .long p1].toArray below meth c H locs 0 0 Q (F0 m 25 ls []) := by
    intro I_25 J_25 R_25 L_25 H locs ls hvI hvR hsI hsR z0_25 z1_25 z2_25 z3_25 z4_25 z5_25 z6_25 hP hD hS hl
    have hv_I_25 := hvI
    have w_I_25_1 := rg (hvI 1 (by decide)) (0) (1800) rfl rfl
    have v_I_25_1 : (I_25 1).toInt = (I0 1).toInt := congrArg Int32.toInt (hsI 1 rfl)
    have w_I_25_2 := rg (hvI 2 (by decide)) (0) (3) rfl rfl
    have w_I_25_3 := rg (hvI 3 (by decide)) (0) (1800) rfl rfl
    have w_I_25_4 := rg (hvI 4 (by decide)) (0) (1800) rfl rfl
    have w_I_25_6 := rg (hvI 6 (by decide)) (0) (5) rfl rfl
    refine lv_aload_n hx hb dX12_must__25 rfl (lv_at hl 0 rfl) ?_
    refine g_get F hK hP 0 (Wm_at0 G g q I_25 J_25 R_25 L_25) clX12 8 (by decide) flX12_36 rfl dX12_must__26 ?_
    have w_I_25_6 := rg (hv_I_25 6 (by decide)) (0) (5) rfl rfl
    refine lv_if_ne (tgt := 36) hx hb dX12_must__29 (by decide) (fun c1 => ?_) (fun c1 => ?_)
    · have gc1 : ¬ ((I_25 6).toInt = 0) := fun q0 => c1 (Int32.toInt_inj.mp q0)
      rw [hQ]
      exact q_v F hr hlk (I_25, J_25, R_25, L_25) hP hD hS ⟨hvI, hvR, hsI, hsR, (show ((I_25 6).toInt = 0 → (I0 3).toInt < (I_25 3).toInt) from by omega), (show ((I_25 6).toInt = 0 → (I0 6).toInt = 0) from by omega), (show ((I_25 3).toInt ≤ (I_25 4).toInt) from by omega), (show ((I_25 4).toInt ≤ (I0 1).toInt) from by omega), (show ((¬ (I_25 2).toInt = 0) → (I_25 3).toInt < (I_25 4).toInt) from by omega), (show ((¬ (I0 6).toInt = 0) → (¬ (I_25 6).toInt = 0)) from by omega), (show ((I0 3).toInt ≤ (I_25 3).toInt) from by omega), (show ((I_25 6).toInt = 0 → TL I_25 (R_25 0)) from fun h => absurd h (by omega)), (show ((I_25 6).toInt = 0 → WB I_25 (J_25 0)) from fun h => absurd h (by omega))⟩ dX12_must__36 (Nat.le_of_ble_eq_true rfl) (Nat.le_of_ble_eq_true rfl)
    · have gc1 : (I_25 6).toInt = 0 := congrArg Int32.toInt c1
      refine lv_aload_n hx hb dX12_must__32 rfl (lv_at hl 0 rfl) ?_
      refine wvv (As := []) (rest := []) (b := (g 45)) (d := 2) F hK hP hD hS hA (s_X12_ahead2 l G g q I_25 J_25 R_25 L_25 hvI hvR   (by omega) (by omega) (by omega)) kmV_X12_ahead mlX12_247 clX12 rfl 0 (Wm_at0 G g q I_25 J_25 R_25 L_25) ⟨(Nat.le_of_ble_eq_true rfl), (Nat.le_of_ble_eq_true rfl)⟩ hl.1 rfl (Nat.le_of_ble_eq_true rfl) dX12_must__33 (fun u3 H locs hwr2 hP hD hS => ?_)
      obtain ⟨I4, J5, R6, L7⟩ := u3
      replace hP : va_P G.1 vwCl (Wm G g q I4 J5 R6 L7) H := hP
      replace hD : va_D A (Wm G g q I4 J5 R6 L7) := hD
      obtain ⟨hvI, hvR, tIr2, tRr2, F0r2, F1r2, F2r2, F3r2, F4r2, F5r2, F6r2, F7r2, F8r2⟩ := hwr2
      replace F0r2 : ((I_25 4).toInt ≤ (I4 3).toInt) := F0r2
      replace F1r2 : ((I4 3).toInt ≤ (I4 4).toInt) := F1r2
      replace F2r2 : ((I4 4).toInt ≤ (I_25 1).toInt) := F2r2
      replace F3r2 : ((¬ (I4 2).toInt = 0) → (I4 3).toInt < (I4 4).toInt) := F3r2
      replace F4r2 : ((¬ (I_25 6).toInt = 0) → (¬ (I4 6).toInt = 0)) := F4r2
      replace F5r2 : ((I_25 3).toInt ≤ (I4 3).toInt) := F5r2
      replace F6r2 : (TL I4 (R_25 0)) := F6r2
      replace F7r2 : (WB I4 (J5 0)) := F7r2
      replace F8r2 : (TL I_25 (R_25 0) → (I_25 2).toInt = 1 → (I4 6).toInt = 0 → ((I4 2).toInt = 1 ∨ (I4 2).toInt = 2) → (I_25 4).toInt + 1 ≤ (I4 3).toInt) := F8r2
      replace hvI : InvI Wm_lo Wm_hi I4 := hvI
      replace hvR : InvR Wm_rl R6 := hvR
      replace tIr2 : SmF ([2, 3, 4, 5, 6, 7] : List Nat) I_25 I4 := tIr2
      replace tRr2 : SmF ([] : List Nat) R_25 R6 := tRr2
      have hv_I4 := hvI
      have hsI := smF_tr hsI tIr2 (by decide)
      have hsR := smF_tr hsR tRr2 (by decide)
      have u_I4_1 : (I4 1).toInt = (I_25 1).toInt := congrArg Int32.toInt (tIr2 1 rfl)
      have w_I4_2 := rg (hvI 2 (by decide)) (0) (3) rfl rfl
      have w_I4_3 := rg (hvI 3 (by decide)) (0) (1800) rfl rfl
      have w_I4_4 := rg (hvI 4 (by decide)) (0) (1800) rfl rfl
      have w_I4_6 := rg (hvI 6 (by decide)) (0) (5) rfl rfl
      have nr2_0 : ((I4 3).toInt ≤ (I4 4).toInt) := by omega
      have nr2_1 : ((I4 4).toInt ≤ (I0 1).toInt) := by omega
      have nr2_2 : ((¬ (I4 2).toInt = 0) → (I4 3).toInt < (I4 4).toInt) := by omega
      have nr2_3 : ((¬ (I0 6).toInt = 0) → (¬ (I4 6).toInt = 0)) := by omega
      have nr2_4 : ((I0 3).toInt ≤ (I4 3).toInt) := by omega
      clear z2_25 z3_25 z4_25 z5_25 z6_25 F1r2 F2r2 F3r2 F4r2 F5r2
      rw [hQ]
      exact q_v F hr hlk (I4, J5, R6, L7) hP hD hS ⟨hvI, hvR, hsI, hsR, (show ((I4 6).toInt = 0 → (I0 3).toInt < (I4 3).toInt) from by omega), (show ((I4 6).toInt = 0 → (I0 6).toInt = 0) from by omega), (show ((I4 3).toInt ≤ (I4 4).toInt) from by omega), (show ((I4 4).toInt ≤ (I0 1).toInt) from by omega), (show ((¬ (I4 2).toInt = 0) → (I4 3).toInt < (I4 4).toInt) from by omega), (show ((¬ (I0 6).toInt = 0) → (¬ (I4 6).toInt = 0)) from by omega), (show ((I0 3).toInt ≤ (I4 3).toInt) from by omega), (show ((I4 6).toInt = 0 → TL I4 (R6 0)) from fun _ => (by rw [tRr2 0 rfl]; exact F6r2)), (show ((I4 6).toInt = 0 → WB I4 (J5 0)) from fun _ => F7r2)⟩ dX12_must__36 (Nat.le_of_ble_eq_true rfl) (Nat.le_of_ble_eq_true rfl)
  have w_I0_1 := rg (hvI 1 (by decide)) (0) (1800) rfl rfl
  have w_I0_2 := rg (hvI 2 (by decide)) (0) (3) rfl rfl
  have w_I0_3 := rg (hvI 3 (by decide)) (0) (1800) rfl rfl
  have w_I0_4 := rg (hvI 4 (by decide)) (0) (1800) rfl rfl
  have w_I0_6 := rg (hvI 6 (by decide)) (0) (5) rfl rfl
  refine lv_aload_n hx hb dX12_must__0 rfl (lv_at hl 0 rfl) ?_
  refine g_get F hK hP 0 (Wm_at0 G g q I0 J0 R0 L0) clX12 8 (by decide) flX12_36 rfl dX12_must__1 ?_
  have w_I0_6 := rg (hvI0 6 (by decide)) (0) (5) rfl rfl
  refine lv_if_le (tgt := 8) hx hb dX12_must__4 (by decide) (fun c8 => ?_) (fun c8 => ?_)
  · have gc8 : (I0 6).toInt ≤ 0 := (tle _ _).mp c8
    refine lv_aload_n hx hb dX12_must__8 rfl (lv_at hl 0 rfl) ?_
    refine lv_lload_n hx hb dX12_must__9 rfl (lv_at hl 1 rfl) ?_
    refine wvi (As := [.long p1]) (rest := []) (b := (g 45)) (d := 1) F hK hP hD hS hA (s_X12_isWord2 l G g q I0 J0 R0 L0 hvI hvR  p1 ) kmV_X12_isWord mlX12_332 clX12 rfl 0 (Wm_at0 G g q I0 J0 R0 L0) ⟨(Nat.le_of_ble_eq_true rfl), (Nat.le_of_ble_eq_true rfl)⟩ hl.1 rfl (Nat.le_of_ble_eq_true rfl) dX12_must__10 (fun r9 u10 H locs hwr9 hP hD hS => ?_)
    obtain ⟨F0r9, F1r9, F2r9⟩ := hwr9
    replace F0r9 : ((0 : Int) ≤ r9.toInt ∧ r9.toInt ≤ (1 : Int)) := F0r9
    replace F1r9 : (r9.toInt = 1 → (I0 2).toInt = 1) := F1r9
    replace F2r9 : (r9.toInt = 1 → J0 0 = p1) := F2r9
    refine lv_if_ne (tgt := 25) hx hb dX12_must__13 (by decide) (fun c11 => ?_) (fun c11 => ?_)
    · have gc11 : ¬ (r9.toInt = 0) := fun q0 => c11 (Int32.toInt_inj.mp q0)
      exact lab_25  I0 J0 R0 L0 _ _ _ hvI hvR hsI hsR (show ((I0 6).toInt = 0 → (I0 3).toInt < (I0 4).toInt) from by omega) (show ((I0 3).toInt = (I0 3).toInt) from by omega) (show ((I0 3).toInt ≤ (I0 4).toInt) from by omega) (show ((I0 4).toInt ≤ (I0 1).toInt) from by omega) (show ((¬ (I0 2).toInt = 0) → (I0 3).toInt < (I0 4).toInt) from by omega) (show ((¬ (I0 6).toInt = 0) → (¬ (I0 6).toInt = 0)) from by omega) (show ((I0 3).toInt ≤ (I0 3).toInt) from by omega) hP hD hS (lv_sub hl [0] rfl)
    · have gc11 : r9.toInt = 0 := congrArg Int32.toInt c11
      refine lv_aload_n hx hb dX12_must__16 rfl (lv_at hl 0 rfl) ?_
      refine lv_iconst (v := 1) hx hb dX12_must__17 (by decide) ?_
      refine lv_aload_n hx hb dX12_must__18 rfl (lv_at hl 0 rfl) ?_
      refine g_get F hK hP 0 (Wm_at0 G g q I0 J0 R0 L0) clX12 4 (by decide) flX12_23 rfl dX12_must__19 ?_
      have w_I0_3 := rg (hvI0 3 (by decide)) (0) (1800) rfl rfl
      refine wvv (As := [.int 1, .int (I0 3)]) (rest := []) (b := (g 45)) (d := 1) F hK hP hD hS hA (s_X12_blame l G g q I0 J0 R0 L0 hvI hvR  1 ((I0 3)) (by decide) (show ((0 : Int) ≤ (I0 3).toInt ∧ (I0 3).toInt ≤ (1800 : Int)) from by omega)) kmV_X12_blame mlX12_240 clX12 rfl 0 (Wm_at0 G g q I0 J0 R0 L0) ⟨(Nat.le_of_ble_eq_true rfl), (Nat.le_of_ble_eq_true rfl)⟩ hl.1 rfl (Nat.le_of_ble_eq_true rfl) dX12_must__22 (fun u13 H locs hwr12 hP hD hS => ?_)
      obtain ⟨I14, J15, R16, L17⟩ := u13
      replace hP : va_P G.1 vwCl (Wm G g q I14 J15 R16 L17) H := hP
      replace hD : va_D A (Wm G g q I14 J15 R16 L17) := hD
      obtain ⟨hvI, hvR, tIr12, tRr12, F0r12⟩ := hwr12
      replace F0r12 : (¬ (I14 6).toInt = 0) := F0r12
      replace hvI : InvI Wm_lo Wm_hi I14 := hvI
      replace hvR : InvR Wm_rl R16 := hvR
      replace tIr12 : SmF ([6, 7] : List Nat) I0 I14 := tIr12
      replace tRr12 : SmF ([] : List Nat) R0 R16 := tRr12
      have hv_I14 := hvI
      have hsI := smF_tr hsI tIr12 (by decide)
      have hsR := smF_tr hsR tRr12 (by decide)
      have u_I14_1 : (I14 1).toInt = (I0 1).toInt := congrArg Int32.toInt (tIr12 1 rfl)
      have u_I14_2 : (I14 2).toInt = (I0 2).toInt := congrArg Int32.toInt (tIr12 2 rfl)
      have u_I14_3 : (I14 3).toInt = (I0 3).toInt := congrArg Int32.toInt (tIr12 3 rfl)
      have u_I14_4 : (I14 4).toInt = (I0 4).toInt := congrArg Int32.toInt (tIr12 4 rfl)
      have w_I14_6 := rg (hvI 6 (by decide)) (0) (5) rfl rfl
      have nr12_0 : ((I14 3).toInt ≤ (I14 4).toInt) := by omega
      have nr12_1 : ((I14 4).toInt ≤ (I0 1).toInt) := by omega
      have nr12_2 : ((¬ (I14 2).toInt = 0) → (I14 3).toInt < (I14 4).toInt) := by omega
      have nr12_3 : ((¬ (I0 6).toInt = 0) → (¬ (I14 6).toInt = 0)) := by omega
      have nr12_4 : ((I0 3).toInt ≤ (I14 3).toInt) := by omega
      exact lab_25  I14 J15 R16 L17 _ _ _ hvI hvR hsI hsR (show ((I14 6).toInt = 0 → (I14 3).toInt < (I14 4).toInt) from by omega) (show ((I14 3).toInt = (I0 3).toInt) from by omega) (show ((I14 3).toInt ≤ (I14 4).toInt) from by omega) (show ((I14 4).toInt ≤ (I0 1).toInt) from by omega) (show ((¬ (I14 2).toInt = 0) → (I14 3).toInt < (I14 4).toInt) from by omega) (show ((¬ (I0 6).toInt = 0) → (¬ (I14 6).toInt = 0)) from by omega) (show ((I0 3).toInt ≤ (I14 3).toInt) from by omega) hP hD hS (lv_sub hl [0] rfl)
  · have gc8 : ¬ ((I0 6).toInt ≤ 0) := fun q0 => c8 ((tle _ _).mpr q0)
    rw [hQ]
    exact q_v F hr hlk (I0, J0, R0, L0) hP hD hS ⟨hvI, hvR, hsI, hsR, (show ((I0 6).toInt = 0 → (I0 3).toInt < (I0 3).toInt) from by omega), (show ((I0 6).toInt = 0 → (I0 6).toInt = 0) from by omega), (show ((I0 3).toInt ≤ (I0 4).toInt) from by omega), (show ((I0 4).toInt ≤ (I0 1).toInt) from by omega), (show ((¬ (I0 2).toInt = 0) → (I0 3).toInt < (I0 4).toInt) from by omega), (show ((¬ (I0 6).toInt = 0) → (¬ (I0 6).toInt = 0)) from by omega), (show ((I0 3).toInt ≤ (I0 3).toInt) from by omega), (show ((I0 6).toInt = 0 → TL I0 (R0 0)) from fun h => absurd h (by omega)), (show ((I0 6).toInt = 0 → WB I0 (J0 0)) from fun h => absurd h (by omega))⟩ dX12_must__7 (Nat.le_of_ble_eq_true rfl) (Nat.le_of_ble_eq_true rfl)
