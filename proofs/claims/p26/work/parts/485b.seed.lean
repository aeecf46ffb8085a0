set_option maxHeartbeats 4000000 in
set_option maxRecDepth 100000 in
theorem s_X11_seed2 (l : Launch) (G : Gx) (g q : Nat → Nat) (I0 : Nat → Int32) (J0 : Nat → Int64) (R0 : Nat → Nat → Int32) (L0 : Nat → Nat → Int64) (hvI : InvI Wd_lo Wd_hi I0) (hvR : InvR Wd_rl R0) (hq3 : q 3 = (g 11)) (p1 : Int32)  : CtI (S := St) l yX11_seed cX11_seed 2 (some .boolean) (rmD 2 0 0) G [.ref (g 74), .int p1] (Wd G g q I0 J0 R0 L0) (fun r u => InvI Wd_lo Wd_hi u.1 ∧ InvR Wd_rl u.2.2.1 ∧ SmF ([] : List Nat) I0 u.1 ∧ SmF ([60] : List Nat) R0 u.2.2.1 ∧ ((0 : Int) ≤ r.toInt ∧ r.toInt ≤ (1 : Int)) ∧ ((r.toInt = 1 ∧ 0 ≤ p1.toInt) ∨ (r.toInt = 0 ∧ p1.toInt < 0))) (fun u => Wd G g q u.1 u.2.1 u.2.2.1 u.2.2.2) := by
  refine ctI_of (own := RX11) (by decide +kernel) rfl (Nat.le_of_ble_eq_true rfl) ?_
  intro p e s m below meth c A ls F hr hlk hnm hK hP hD hA hS hl
  have hx := F.1
  have hb := F.2.1
  have hown := F.2.2.2.1
  have hl : lv_has ls 2 [(0, .ref (g 74)), (1, .int p1)] := hl
  obtain ⟨Q, hQ⟩ : ∃ Q : State → Prop, Q = MQ below (va_Qi (S := St) (fun r u => InvI Wd_lo Wd_hi u.1 ∧ InvR Wd_rl u.2.2.1 ∧ SmF ([] : List Nat) I0 u.1 ∧ SmF ([60] : List Nat) R0 u.2.2.1 ∧ ((0 : Int) ≤ r.toInt ∧ r.toInt ≤ (1 : Int)) ∧ ((r.toInt = 1 ∧ 0 ≤ p1.toInt) ∨ (r.toInt = 0 ∧ p1.toInt < 0))) (BX G A (fun u => Wd G g q u.1 u.2.1 u.2.2.1 u.2.2.2)) A) [.ref (g 74), .int p1].toArray s 0 0 A := ⟨_, rfl⟩
  rw [show (MQ below (va_Qi (S := St) (fun r u => InvI Wd_lo Wd_hi u.1 ∧ InvR Wd_rl u.2.2.1 ∧ SmF ([] : List Nat) I0 u.1 ∧ SmF ([60] : List Nat) R0 u.2.2.1 ∧ ((0 : Int) ≤ r.toInt ∧ r.toInt ≤ (1 : Int)) ∧ ((r.toInt = 1 ∧ 0 ≤ p1.toInt) ∨ (r.toInt = 0 ∧ p1.toInt < 0))) (BX G A (fun u => Wd G g q u.1 u.2.1 u.2.2.1 u.2.2.2)) A) [.ref (g 74), .int p1].toArray s (rmD 2 0 0).cells (rmD 2 0 0).slots A) = Q from hQ.symm]
  have hsI := smF_rf ([] : List Nat) I0
  have hsR := smF_rf ([60] : List Nat) R0
  refine lv_iload_n hx hb dX11_seed_0 rfl (lv_at hl 1 rfl) ?_
  refine lv_if_ge (tgt := 12) hx hb dX11_seed_1 (by decide) (fun c1 => ?_) (fun c1 => ?_)
  · have gc1 : 0 ≤ p1.toInt := (tle _ _).mp c1
    refine lv_aload_n hx hb dX11_seed_12 rfl (lv_at hl 0 rfl) ?_
    refine lv_iload_n hx hb dX11_seed_13 rfl (lv_at hl 1 rfl) ?_
    obtain ⟨x2, ex2⟩ : ∃ y : Int64, (p1 : Int32).toInt64 = y := ⟨_, rfl⟩
    refine lv_i2l (v := x2) hx hb dX11_seed_14 ex2 ?_
    refine p_fld (W1 := fun y => Wd G g q I0 y R0 L0) (n := 0) (v := x2) F hK hP hD hS 66 (Wd_at66 G g q I0 J0 R0 L0) clX11 10 (by decide) flX11_76 rfl rfl rfl (Nat.le_of_ble_eq_true rfl) dX11_seed_15 (Wd_setJ0 G g q I0 J0 R0 L0 _) (fun J3 H locs eJ3 hP hD hS => ?_)
    refine lv_iconst (v := 1) hx hb dX11_seed_18 (by decide) ?_
    rw [hQ]
    exact q_z F hr hlk (I0, J3, R0, L0) hP hD hS ⟨hvI, hvR, hsI, hsR, (show ((0 : Int) ≤ 1 ∧ 1 ≤ (1 : Int)) from by omega), (show ((1 = 1 ∧ 0 ≤ p1.toInt) ∨ (1 = 0 ∧ p1.toInt < 0)) from by omega)⟩ dX11_seed_19 (Nat.le_of_ble_eq_true rfl) (Nat.le_of_ble_eq_true rfl) (nar01 (by decide))
  · have gc1 : ¬ (0 ≤ p1.toInt) := fun q0 => c1 ((tle _ _).mpr q0)
    refine lv_aload_n hx hb dX11_seed_4 rfl (lv_at hl 0 rfl) ?_
    refine lv_iconst (v := 4) hx hb dX11_seed_5 (by decide) ?_
    refine wvi (As := [.int 4]) (rest := []) (b := (g 74)) (d := 1) F hK hP hD hS hA (s_X11_refuse l G g q I0 J0 R0 L0 hvI hvR hq3 4 (by decide)) kmV_X11_refuse mlX11_89 clX11 rfl 66 (Wd_at66 G g q I0 J0 R0 L0) ⟨(Nat.le_of_ble_eq_true rfl), (Nat.le_of_ble_eq_true rfl)⟩ hl.1 rfl (Nat.le_of_ble_eq_true rfl) dX11_seed_6 (fun r4 u5 H locs hwr4 hP hD hS => ?_)
    obtain ⟨I6, J7, R8, L9⟩ := u5
    replace hP : va_P G.1 vwCl (Wd G g q I6 J7 R8 L9) H := hP
    replace hD : va_D A (Wd G g q I6 J7 R8 L9) := hD
    obtain ⟨hvI, hvR, tIr4, tRr4, F0r4⟩ := hwr4
    replace F0r4 : ((-1 : Int) ≤ r4.toInt ∧ r4.toInt ≤ (-1 : Int)) := F0r4
    replace hvI : InvI Wd_lo Wd_hi I6 := hvI
    replace hvR : InvR Wd_rl R8 := hvR
    replace tIr4 : SmF ([] : List Nat) I0 I6 := tIr4
    replace tRr4 : SmF ([60] : List Nat) R0 R8 := tRr4
    have hsI := smF_tr hsI tIr4 (by decide)
    have hsR := smF_tr hsR tRr4 (by decide)
    refine lv_pop hx hb dX11_seed_9 rfl ?_
    refine lv_iconst (v := 0) hx hb dX11_seed_10 (by decide) ?_
    rw [hQ]
    exact q_z F hr hlk (I6, J7, R8, L9) hP hD hS ⟨hvI, hvR, hsI, hsR, (show ((0 : Int) ≤ 0 ∧ 0 ≤ (1 : Int)) from by omega), (show ((0 = 1 ∧ 0 ≤ p1.toInt) ∨ (0 = 0 ∧ p1.toInt < 0)) from by omega)⟩ dX11_seed_11 (Nat.le_of_ble_eq_true rfl) (Nat.le_of_ble_eq_true rfl) (nar01 (by decide))
set_option maxHeartbeats 4000000 in
set_option maxRecDepth 100000 in
theorem s_X12_seed2 (l : Launch) (G : Gx) (g q : Nat → Nat) (I0 : Nat → Int32) (J0 : Nat → Int64) (R0 : Nat → Nat → Int32) (L0 : Nat → Nat → Int64) (hvI : InvI Wm_lo Wm_hi I0) (hvR : InvR Wm_rl R0)  (p1 : Int32)  : CtI (S := St) l yX12_seed cX12_seed 2 (some .boolean) (rmD 2 0 0) G [.ref (g 45), .int p1] (Wm G g q I0 J0 R0 L0) (fun r u => InvI Wm_lo Wm_hi u.1 ∧ InvR Wm_rl u.2.2.1 ∧ SmF ([] : List Nat) I0 u.1 ∧ SmF ([34] : List Nat) R0 u.2.2.1 ∧ ((0 : Int) ≤ r.toInt ∧ r.toInt ≤ (1 : Int)) ∧ ((r.toInt = 1 ∧ 0 ≤ p1.toInt) ∨ (r.toInt = 0 ∧ p1.toInt < 0))) (fun u => Wm G g q u.1 u.2.1 u.2.2.1 u.2.2.2) := by
  refine ctI_of (own := RX12) (by decide +kernel) rfl (Nat.le_of_ble_eq_true rfl) ?_
  intro p e s m below meth c A ls F hr hlk hnm hK hP hD hA hS hl
  have hx := F.1
  have hb := F.2.1
  have hown := F.2.2.2.1
  have hl : lv_has ls 2 [(0, .ref (g 45)), (1, .int p1)] := hl
  obtain ⟨Q, hQ⟩ : ∃ Q : State → Prop, Q = MQ below (va_Qi (S := St) (fun r u => InvI Wm_lo Wm_hi u.1 ∧ InvR Wm_rl u.2.2.1 ∧ SmF ([] : List Nat) I0 u.1 ∧ SmF ([34] : List Nat) R0 u.2.2.1 ∧ ((0 : Int) ≤ r.toInt ∧ r.toInt ≤ (1 : Int)) ∧ ((r.toInt = 1 ∧ 0 ≤ p1.toInt) ∨ (r.toInt = 0 ∧ p1.toInt < 0))) (BX G A (fun u => Wm G g q u.1 u.2.1 u.2.2.1 u.2.2.2)) A) [.ref (g 45), .int p1].toArray s 0 0 A := ⟨_, rfl⟩
  rw [show (MQ below (va_Qi (S := St) (fun r u => InvI Wm_lo Wm_hi u.1 ∧ InvR Wm_rl u.2.2.1 ∧ SmF ([] : List Nat) I0 u.1 ∧ SmF ([34] : List Nat) R0 u.2.2.1 ∧ ((0 : Int) ≤ r.toInt ∧ r.toInt ≤ (1 : Int)) ∧ ((r.toInt = 1 ∧ 0 ≤ p1.toInt) ∨ (r.toInt = 0 ∧ p1.toInt < 0))) (BX G A (fun u => Wm G g q u.1 u.2.1 u.2.2.1 u.2.2.2)) A) [.ref (g 45), .int p1].toArray s (rmD 2 0 0).cells (rmD 2 0 0).slots A) = Q from hQ.symm]
  have hsI := smF_rf ([] : List Nat) I0
  have hsR := smF_rf ([34] : List Nat) R0
  have hvI0 := hvI
  refine lv_iload_n hx hb dX12_seed_0 rfl (lv_at hl 1 rfl) ?_
  refine lv_if_ge (tgt := 18) hx hb dX12_seed_1 (by decide) (fun c1 => ?_) (fun c1 => ?_)
  · have gc1 : 0 ≤ p1.toInt := (tle _ _).mp c1
    refine lv_aload_n hx hb dX12_seed_18 rfl (lv_at hl 0 rfl) ?_
    refine lv_iload_n hx hb dX12_seed_19 rfl (lv_at hl 1 rfl) ?_
    obtain ⟨x2, ex2⟩ : ∃ y : Int64, (p1 : Int32).toInt64 = y := ⟨_, rfl⟩
    refine lv_i2l (v := x2) hx hb dX12_seed_20 ex2 ?_
    refine p_fld (W1 := fun y => Wm G g q I0 y R0 L0) (n := 1) (v := x2) F hK hP hD hS 0 (Wm_at0 G g q I0 J0 R0 L0) clX12 66 (by decide) flX12_213 rfl rfl rfl (Nat.le_of_ble_eq_true rfl) dX12_seed_21 (Wm_setJ1 G g q I0 J0 R0 L0 _) (fun J3 H locs eJ3 hP hD hS => ?_)
    refine lv_iconst (v := 1) hx hb dX12_seed_24 (by decide) ?_
    rw [hQ]
    exact q_z F hr hlk (I0, J3, R0, L0) hP hD hS ⟨hvI, hvR, hsI, hsR, (show ((0 : Int) ≤ 1 ∧ 1 ≤ (1 : Int)) from by omega), (show ((1 = 1 ∧ 0 ≤ p1.toInt) ∨ (1 = 0 ∧ p1.toInt < 0)) from by omega)⟩ dX12_seed_25 (Nat.le_of_ble_eq_true rfl) (Nat.le_of_ble_eq_true rfl) (nar01 (by decide))
  · have gc1 : ¬ (0 ≤ p1.toInt) := fun q0 => c1 ((tle _ _).mpr q0)
    refine lv_aload_n hx hb dX12_seed_4 rfl (lv_at hl 0 rfl) ?_
    refine lv_iconst (v := 4) hx hb dX12_seed_5 (by decide) ?_
    refine wvi (As := [.int 4]) (rest := []) (b := (g 45)) (d := 1) F hK hP hD hS hA (s_X12_refuses l G g q I0 J0 R0 L0 hvI hvR  4 (by decide)) kmV_X12_refuses mlX12_225 clX12 rfl 0 (Wm_at0 G g q I0 J0 R0 L0) ⟨(Nat.le_of_ble_eq_true rfl), (Nat.le_of_ble_eq_true rfl)⟩ hl.1 rfl (Nat.le_of_ble_eq_true rfl) dX12_seed_6 (fun r4 u5 H locs hwr4 hP hD hS => ?_)
    obtain ⟨I6, J7, R8, L9⟩ := u5
    replace hP : va_P G.1 vwCl (Wm G g q I6 J7 R8 L9) H := hP
    replace hD : va_D A (Wm G g q I6 J7 R8 L9) := hD
    obtain ⟨hvI, hvR, tIr4, tRr4, F0r4⟩ := hwr4
    replace F0r4 : ((-1 : Int) ≤ r4.toInt ∧ r4.toInt ≤ (-1 : Int)) := F0r4
    replace hvI : InvI Wm_lo Wm_hi I6 := hvI
    replace hvR : InvR Wm_rl R8 := hvR
    replace tIr4 : SmF ([] : List Nat) I0 I6 := tIr4
    replace tRr4 : SmF ([34] : List Nat) R0 R8 := tRr4
    have hv_I6 := hvI
    have hsI := smF_tr hsI tIr4 (by decide)
    have hsR := smF_tr hsR tRr4 (by decide)
    refine lv_if_lt (tgt := 16) hx hb dX12_seed_9 (by decide) (fun c10 => ?_) (fun c10 => ?_)
    · have gc10 : r4.toInt < 0 := (tlt _ _).mp c10
      refine lv_iconst (v := 0) hx hb dX12_seed_16 (by decide) ?_
      rw [hQ]
      exact q_z F hr hlk (I6, J7, R8, L9) hP hD hS ⟨hvI, hvR, hsI, hsR, (show ((0 : Int) ≤ 0 ∧ 0 ≤ (1 : Int)) from by omega), (show ((0 = 1 ∧ 0 ≤ p1.toInt) ∨ (0 = 0 ∧ p1.toInt < 0)) from by omega)⟩ dX12_seed_17 (Nat.le_of_ble_eq_true rfl) (Nat.le_of_ble_eq_true rfl) (nar01 (by decide))
    · have gc10 : ¬ (r4.toInt < 0) := fun q0 => c10 ((tlt _ _).mpr q0)
      refine lv_iconst (v := 1) hx hb dX12_seed_12 (by decide) ?_
      refine lv_goto (tgt := 17) hx hb dX12_seed_13 (by decide) ?_
      rw [hQ]
      exact q_z F hr hlk (I6, J7, R8, L9) hP hD hS ⟨hvI, hvR, hsI, hsR, (show ((0 : Int) ≤ 1 ∧ 1 ≤ (1 : Int)) from by omega), (show ((1 = 1 ∧ 0 ≤ p1.toInt) ∨ (1 = 0 ∧ p1.toInt < 0)) from by omega)⟩ dX12_seed_17 (Nat.le_of_ble_eq_true rfl) (Nat.le_of_ble_eq_true rfl) (nar01 (by decide))
