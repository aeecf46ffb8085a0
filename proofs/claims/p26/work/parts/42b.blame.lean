set_option maxHeartbeats 4000000 in
set_option maxRecDepth 100000 in
theorem s_X12_blame (l : Launch) (G : Gx) (g q : Nat → Nat) (I0 : Nat → Int32) (J0 : Nat → Int64) (R0 : Nat → Nat → Int32) (L0 : Nat → Nat → Int64) (hvI : InvI Wm_lo Wm_hi I0) (hvR : InvR Wm_rl R0)  (p1 : Int32) (p2 : Int32) (hp1 : ((1 : Int) ≤ p1.toInt ∧ p1.toInt ≤ (5 : Int))) (hp2 : ((0 : Int) ≤ p2.toInt ∧ p2.toInt ≤ (1800 : Int))) : CtV (S := St) l yX12_blame cX12_blame 3 none (rmD 1 0 0) G [.ref (g 45), .int p1, .int p2] (Wm G g q I0 J0 R0 L0) (fun u => InvI Wm_lo Wm_hi u.1 ∧ InvR Wm_rl u.2.2.1 ∧ SmF ([6, 7] : List Nat) I0 u.1 ∧ SmF ([] : List Nat) R0 u.2.2.1 ∧ (¬ (u.1 6).toInt = 0)) (fun u => Wm G g q u.1 u.2.1 u.2.2.1 u.2.2.2) := by
  refine ctV_of (own := RX12) (by decide +kernel) rfl (Nat.le_of_ble_eq_true rfl) ?_
  intro p e s m below meth c A ls F hr hlk hnm hK hP hD hA hS hl
  have hx := F.1
  have hb := F.2.1
  have hown := F.2.2.2.1
  have hl : lv_has ls 3 [(0, .ref (g 45)), (1, .int p1), (2, .int p2)] := hl
  obtain ⟨Q, hQ⟩ : ∃ Q : State → Prop, Q = MQ below (va_Qv (S := St) (fun u => InvI Wm_lo Wm_hi u.1 ∧ InvR Wm_rl u.2.2.1 ∧ SmF ([6, 7] : List Nat) I0 u.1 ∧ SmF ([] : List Nat) R0 u.2.2.1 ∧ (¬ (u.1 6).toInt = 0)) (BX G A (fun u => Wm G g q u.1 u.2.1 u.2.2.1 u.2.2.2)) A) [.ref (g 45), .int p1, .int p2].toArray s 0 0 A := ⟨_, rfl⟩
  rw [show (MQ below (va_Qv (S := St) (fun u => InvI Wm_lo Wm_hi u.1 ∧ InvR Wm_rl u.2.2.1 ∧ SmF ([6, 7] : List Nat) I0 u.1 ∧ SmF ([] : List Nat) R0 u.2.2.1 ∧ (¬ (u.1 6).toInt = 0)) (BX G A (fun u => Wm G g q u.1 u.2.1 u.2.2.1 u.2.2.2)) A) [.ref (g 45), .int p1, .int p2].toArray s (rmD 1 0 0).cells (rmD 1 0 0).slots A) = Q from hQ.symm]
  have hsI := smF_rf ([6, 7] : List Nat) I0
  have hsR := smF_rf ([] : List Nat) R0
  have hvI0 := hvI
  have w_I0_6 := rg (hvI 6 (by decide)) (0) (5) rfl rfl
  refine lv_aload_n hx hb dX12_blame_0 rfl (lv_at hl 0 rfl) ?_
  refine g_get F hK hP 0 (Wm_at0 G g q I0 J0 R0 L0) clX12 8 (by decide) flX12_36 rfl dX12_blame_1 ?_
  have w_I0_6 := rg (hvI0 6 (by decide)) (0) (5) rfl rfl
  refine lv_if_le (tgt := 8) hx hb dX12_blame_4 (by decide) (fun c1 => ?_) (fun c1 => ?_)
  · have gc1 : (I0 6).toInt ≤ 0 := (tle _ _).mp c1
    refine lv_aload_n hx hb dX12_blame_8 rfl (lv_at hl 0 rfl) ?_
    refine lv_iload_n hx hb dX12_blame_9 rfl (lv_at hl 1 rfl) ?_
    refine p_fld (W1 := fun y => Wm G g q y J0 R0 L0) (n := 6) (v := p1) F hK hP hD hS 0 (Wm_at0 G g q I0 J0 R0 L0) clX12 8 (by decide) flX12_36 rfl rfl rfl (Nat.le_of_ble_eq_true rfl) dX12_blame_10 (Wm_setI6 G g q I0 J0 R0 L0 _) (fun I2 H locs eI2 hP hD hS => ?_)
    have hvI : InvI Wm_lo Wm_hi I2 := inv_upI hvI 6 eI2 (show ((0 : Int) ≤ p1.toInt ∧ p1.toInt ≤ (5 : Int)) from by omega)
    have hsI := smF_up hsI eI2 (by decide)
    have hv_I2 := hvI
    have u_I2_6 : (I2 6).toInt = p1.toInt := by rw [eI2]; rfl
    refine lv_aload_n hx hb dX12_blame_13 rfl (lv_at hl 0 rfl) ?_
    refine lv_iload_n hx hb dX12_blame_14 rfl (lv_at hl 2 rfl) ?_
    refine p_fld (W1 := fun y => Wm G g q y J0 R0 L0) (n := 7) (v := p2) F hK hP hD hS 0 (Wm_at0 G g q I2 J0 R0 L0) clX12 9 (by decide) flX12_39 rfl rfl rfl (Nat.le_of_ble_eq_true rfl) dX12_blame_15 (Wm_setI7 G g q I2 J0 R0 L0 _) (fun I3 H locs eI3 hP hD hS => ?_)
    have hvI : InvI Wm_lo Wm_hi I3 := inv_upI hvI 7 eI3 (full _)
    have hsI := smF_up hsI eI3 (by decide)
    have hv_I3 := hvI
    have u_I3_6 : (I3 6).toInt = (I2 6).toInt := by rw [eI3]; rfl
    rw [hQ]
    exact q_v F hr hlk (I3, J0, R0, L0) hP hD hS ⟨hvI, hvR, hsI, hsR, (show (¬ (I3 6).toInt = 0) from by omega)⟩ dX12_blame_18 (Nat.le_of_ble_eq_true rfl) (Nat.le_of_ble_eq_true rfl)
  · have gc1 : ¬ ((I0 6).toInt ≤ 0) := fun q0 => c1 ((tle _ _).mpr q0)
    rw [hQ]
    exact q_v F hr hlk (I0, J0, R0, L0) hP hD hS ⟨hvI, hvR, hsI, hsR, (show (¬ (I0 6).toInt = 0) from by omega)⟩ dX12_blame_7 (Nat.le_of_ble_eq_true rfl) (Nat.le_of_ble_eq_true rfl)
