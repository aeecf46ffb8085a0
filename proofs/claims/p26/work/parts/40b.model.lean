set_option maxHeartbeats 4000000 in
set_option maxRecDepth 100000 in
theorem s_X12_above (l : Launch) (G : Gx) (g q : Nat → Nat) (I0 : Nat → Int32) (J0 : Nat → Int64) (R0 : Nat → Nat → Int32) (L0 : Nat → Nat → Int64) (hvI : InvI Wm_lo Wm_hi I0) (hvR : InvR Wm_rl R0)  (p1 : Int32) (hp1 : ((0 : Int) ≤ p1.toInt ∧ p1.toInt ≤ (40 : Int))) : CtL (S := Unit) l yX12_above cX12_above 5 (some .long) (rmD 1 0 0) G [.ref (g 45), .int p1] (Wm G g q I0 J0 R0 L0) (fun r _ => True) (fun _ => (Wm G g q I0 J0 R0 L0)) := by
  refine ctL_of (own := RX12) (by decide +kernel) rfl (Nat.le_of_ble_eq_true rfl) ?_
  intro p e s m below meth c A ls F hr hlk hnm hK hP hD hA hS hl
  have hx := F.1
  have hb := F.2.1
  have hown := F.2.2.2.1
  have hl : lv_has ls 5 [(0, .ref (g 45)), (1, .int p1)] := hl
  obtain ⟨Q, hQ⟩ : ∃ Q : State → Prop, Q = MQ below (va_Ql (S := Unit) (fun r _ => True) (BX G A (fun _ => (Wm G g q I0 J0 R0 L0))) A) [.ref (g 45), .int p1].toArray s 0 0 A := ⟨_, rfl⟩
  rw [show (MQ below (va_Ql (S := Unit) (fun r _ => True) (BX G A (fun _ => (Wm G g q I0 J0 R0 L0))) A) [.ref (g 45), .int p1].toArray s (rmD 1 0 0).cells (rmD 1 0 0).slots A) = Q from hQ.symm]
  have hvI0 := hvI
  have lab_7 : ∀ (k_7 : Nat) (a2_7 : Int64) (a4_7 : Int32) (H : Heap) (locs : List Loc) (ls : Array Slot), ((64 - a4_7.toInt) < (k_7 : Int)) → ((1 : Int) ≤ a4_7.toInt ∧ a4_7.toInt ≤ (64 : Int)) → va_P G.1 vwCl (Wm G g q I0 J0 R0 L0) H → va_D A (Wm G g q I0 J0 R0 L0) → va_S A s.heap H locs → lv_has ls 5 [(0, .ref (g 45)), (2, .long a2_7), (4, .int a4_7)] → W p l e (rmD 1 0 0) s m [.ref (g 45), .int p1].toArray below meth c H locs 0 0 Q (F0 m 7 ls []) := by
    intro k_7
    induction k_7 with
    | zero =>
      intro a2_7 a4_7 H locs ls hm y0_7 hP hD hS hl
      exact absurd hm (by omega)
    | succ k_7 ih_7 =>
      intro a2_7 a4_7 H locs ls hm y0_7 hP hD hS hl
      refine lv_iload hx hb dX12_above_7 (lv_at hl 2 rfl) ?_
      refine lv_bipush (v := 64) hx hb dX12_above_9 (by decide) ?_
      refine lv_icmp_ge (tgt := 30) hx hb dX12_above_11 (by decide) (fun c1 => ?_) (fun c1 => ?_)
      · have gc1 : 64 ≤ a4_7.toInt := (tle _ _).mp c1
        refine lv_lload_n hx hb dX12_above_30 rfl (lv_at hl 1 rfl) ?_
        rw [hQ]
        exact q_l F hr hlk () hP hD hS trivial dX12_above_31 (Nat.le_of_ble_eq_true rfl) (Nat.le_of_ble_eq_true rfl)
      · have gc1 : ¬ (64 ≤ a4_7.toInt) := fun q0 => c1 ((tle _ _).mpr q0)
        refine lv_lload_n hx hb dX12_above_14 rfl (lv_at hl 1 rfl) ?_
        refine lv_aload_n hx hb dX12_above_15 rfl (lv_at hl 0 rfl) ?_
        refine g_get F hK hP 0 (Wm_at0 G g q I0 J0 R0 L0) clX12 65 (by decide) flX12_210 rfl dX12_above_16 ?_
        refine lv_iload hx hb dX12_above_19 (lv_at hl 2 rfl) ?_
        refine g_lald F hK hP 43 (Wm_at43 G g q I0 J0 R0 L0) (in_of (by omega)) dX12_above_21 rfl ?_
        refine lv_topl (fun x2 ex2 => ?_)
        refine lv_ladd hx hb dX12_above_22 ?_
        refine lv_topl (fun x3 ex3 => ?_)
        refine lv_lstore_n (lv' := [(2, .long x3), (0, .ref (g 45)), (4, .int a4_7)]) hx hb dX12_above_23 rfl hl (by decide) rfl (fun ls hl => ?_)
        obtain ⟨x4, ex4⟩ : ∃ y : Int32, y = a4_7 + 1 := ⟨_, rfl⟩
        have fx4 : x4.toInt = a4_7.toInt + (1 : Int) := by rw [ex4]; exact t_add (by show (-2147483648 : Int) ≤ a4_7.toInt + (1 : Int); omega) (by show a4_7.toInt + (1 : Int) ≤ 2147483647; omega)
        refine lv_iinc (v := x4) (lv' := [(4, .int x4), (2, .long x3), (0, .ref (g 45))]) hx hb dX12_above_24 hl (k := 2) rfl (by rw [ex4]; rfl) (by decide) rfl (fun ls hl => ?_)
        refine lv_goto (tgt := 7) hx hb dX12_above_27 (by decide) ?_
        exact ih_7 x3 x4 _ _ _ (show (64 - x4.toInt) < (k_7 : Int) from by omega) (show ((1 : Int) ≤ x4.toInt ∧ x4.toInt ≤ (64 : Int)) from by omega) hP hD hS (lv_sub hl [2, 1, 0] rfl)
  refine lv_lconst (v := 0) hx hb dX12_above_0 (by decide) ?_
  refine lv_lstore_n (lv' := [(2, .long 0), (0, .ref (g 45)), (1, .int p1)]) hx hb dX12_above_1 rfl hl (by decide) rfl (fun ls hl => ?_)
  refine lv_iload_n hx hb dX12_above_2 rfl (lv_at hl 2 rfl) ?_
  refine lv_iconst (v := 1) hx hb dX12_above_3 (by decide) ?_
  refine lv_iadd hx hb dX12_above_4 ?_
  refine lv_topi (fun x5 ex5 => ?_)
  have fx5 : x5.toInt = p1.toInt + 1 := by rw [ex5]; exact t_add (by show (-2147483648 : Int) ≤ p1.toInt + 1; omega) (by show p1.toInt + 1 ≤ 2147483647; omega)
  refine lv_istore (lv' := [(4, .int x5), (2, .long 0), (0, .ref (g 45)), (1, .int p1)]) hx hb dX12_above_5 hl (by decide) rfl (fun ls hl => ?_)
  exact lab_7 64 0 x5 _ _ _ (show (64 - x5.toInt) < ((64 : Nat) : Int) from by omega) (show ((1 : Int) ≤ x5.toInt ∧ x5.toInt ≤ (64 : Int)) from by omega) hP hD hS (lv_sub hl [2, 1, 0] rfl)
set_option maxHeartbeats 4000000 in
set_option maxRecDepth 100000 in
theorem s_X12_isDigit (l : Launch) (G : Gx)  (p0 : Int32) (hp0 : ((0 : Int) ≤ p0.toInt ∧ p0.toInt ≤ (255 : Int))) : CtI (S := Unit) l yX12_isDigit cX12_isDigit 1 (some .boolean) (rmD 1 0 0) G [.int p0] [] (fun r _ => ((0 : Int) ≤ r.toInt ∧ r.toInt ≤ (1 : Int)) ∧ ((r.toInt = 1 ∧ 48 ≤ p0.toInt ∧ p0.toInt ≤ 57) ∨ (r.toInt = 0 ∧ (p0.toInt < 48 ∨ 57 < p0.toInt)))) (fun _ => []) := by
  refine ctI_of (own := RX12) (by decide +kernel) rfl (Nat.le_of_ble_eq_true rfl) ?_
  intro p e s m below meth c A ls F hr hlk hnm hK hP hD hA hS hl
  have hx := F.1
  have hb := F.2.1
  have hown := F.2.2.2.1
  have hl : lv_has ls 1 [(0, .int p0)] := hl
  obtain ⟨Q, hQ⟩ : ∃ Q : State → Prop, Q = MQ below (va_Qi (S := Unit) (fun r _ => ((0 : Int) ≤ r.toInt ∧ r.toInt ≤ (1 : Int)) ∧ ((r.toInt = 1 ∧ 48 ≤ p0.toInt ∧ p0.toInt ≤ 57) ∨ (r.toInt = 0 ∧ (p0.toInt < 48 ∨ 57 < p0.toInt)))) (BX G A (fun _ => [])) A) [.int p0].toArray s 0 0 A := ⟨_, rfl⟩
  rw [show (MQ below (va_Qi (S := Unit) (fun r _ => ((0 : Int) ≤ r.toInt ∧ r.toInt ≤ (1 : Int)) ∧ ((r.toInt = 1 ∧ 48 ≤ p0.toInt ∧ p0.toInt ≤ 57) ∨ (r.toInt = 0 ∧ (p0.toInt < 48 ∨ 57 < p0.toInt)))) (BX G A (fun _ => [])) A) [.int p0].toArray s (rmD 1 0 0).cells (rmD 1 0 0).slots A) = Q from hQ.symm]
  refine lv_iload_n hx hb dX12_isDigit_0 rfl (lv_at hl 0 rfl) ?_
  refine lv_bipush (v := 48) hx hb dX12_isDigit_1 (by decide) ?_
  refine lv_icmp_lt (tgt := 16) hx hb dX12_isDigit_3 (by decide) (fun c1 => ?_) (fun c1 => ?_)
  · have gc1 : p0.toInt < 48 := (tlt _ _).mp c1
    refine lv_iconst (v := 0) hx hb dX12_isDigit_16 (by decide) ?_
    rw [hQ]
    exact q_z F hr hlk () hP hD hS ⟨(show ((0 : Int) ≤ 0 ∧ 0 ≤ (1 : Int)) from by omega), (show ((0 = 1 ∧ 48 ≤ p0.toInt ∧ p0.toInt ≤ 57) ∨ (0 = 0 ∧ (p0.toInt < 48 ∨ 57 < p0.toInt))) from by omega)⟩ dX12_isDigit_17 (Nat.le_of_ble_eq_true rfl) (Nat.le_of_ble_eq_true rfl) (nar01 (by decide))
  · have gc1 : ¬ (p0.toInt < 48) := fun q0 => c1 ((tlt _ _).mpr q0)
    refine lv_iload_n hx hb dX12_isDigit_6 rfl (lv_at hl 0 rfl) ?_
    refine lv_bipush (v := 57) hx hb dX12_isDigit_7 (by decide) ?_
    refine lv_icmp_gt (tgt := 16) hx hb dX12_isDigit_9 (by decide) (fun c2 => ?_) (fun c2 => ?_)
    · have gc2 : 57 < p0.toInt := (tlt _ _).mp c2
      refine lv_iconst (v := 0) hx hb dX12_isDigit_16 (by decide) ?_
      rw [hQ]
      exact q_z F hr hlk () hP hD hS ⟨(show ((0 : Int) ≤ 0 ∧ 0 ≤ (1 : Int)) from by omega), (show ((0 = 1 ∧ 48 ≤ p0.toInt ∧ p0.toInt ≤ 57) ∨ (0 = 0 ∧ (p0.toInt < 48 ∨ 57 < p0.toInt))) from by omega)⟩ dX12_isDigit_17 (Nat.le_of_ble_eq_true rfl) (Nat.le_of_ble_eq_true rfl) (nar01 (by decide))
    · have gc2 : ¬ (57 < p0.toInt) := fun q0 => c2 ((tlt _ _).mpr q0)
      refine lv_iconst (v := 1) hx hb dX12_isDigit_12 (by decide) ?_
      refine lv_goto (tgt := 17) hx hb dX12_isDigit_13 (by decide) ?_
      rw [hQ]
      exact q_z F hr hlk () hP hD hS ⟨(show ((0 : Int) ≤ 1 ∧ 1 ≤ (1 : Int)) from by omega), (show ((1 = 1 ∧ 48 ≤ p0.toInt ∧ p0.toInt ≤ 57) ∨ (1 = 0 ∧ (p0.toInt < 48 ∨ 57 < p0.toInt))) from by omega)⟩ dX12_isDigit_17 (Nat.le_of_ble_eq_true rfl) (Nat.le_of_ble_eq_true rfl) (nar01 (by decide))
set_option maxHeartbeats 4000000 in
set_option maxRecDepth 100000 in
theorem s_X12_isLetter (l : Launch) (G : Gx)  (p0 : Int32) (hp0 : ((0 : Int) ≤ p0.toInt ∧ p0.toInt ≤ (255 : Int))) : CtI (S := Unit) l yX12_isLetter cX12_isLetter 1 (some .boolean) (rmD 1 0 0) G [.int p0] [] (fun r _ => ((0 : Int) ≤ r.toInt ∧ r.toInt ≤ (1 : Int)) ∧ ((r.toInt = 1 ∧ 97 ≤ p0.toInt ∧ p0.toInt ≤ 122) ∨ (r.toInt = 0 ∧ (p0.toInt < 97 ∨ 122 < p0.toInt)))) (fun _ => []) := by
  refine ctI_of (own := RX12) (by decide +kernel) rfl (Nat.le_of_ble_eq_true rfl) ?_
  intro p e s m below meth c A ls F hr hlk hnm hK hP hD hA hS hl
  have hx := F.1
  have hb := F.2.1
  have hown := F.2.2.2.1
  have hl : lv_has ls 1 [(0, .int p0)] := hl
  obtain ⟨Q, hQ⟩ : ∃ Q : State → Prop, Q = MQ below (va_Qi (S := Unit) (fun r _ => ((0 : Int) ≤ r.toInt ∧ r.toInt ≤ (1 : Int)) ∧ ((r.toInt = 1 ∧ 97 ≤ p0.toInt ∧ p0.toInt ≤ 122) ∨ (r.toInt = 0 ∧ (p0.toInt < 97 ∨ 122 < p0.toInt)))) (BX G A (fun _ => [])) A) [.int p0].toArray s 0 0 A := ⟨_, rfl⟩
  rw [show (MQ below (va_Qi (S := Unit) (fun r _ => ((0 : Int) ≤ r.toInt ∧ r.toInt ≤ (1 : Int)) ∧ ((r.toInt = 1 ∧ 97 ≤ p0.toInt ∧ p0.toInt ≤ 122) ∨ (r.toInt = 0 ∧ (p0.toInt < 97 ∨ 122 < p0.toInt)))) (BX G A (fun _ => [])) A) [.int p0].toArray s (rmD 1 0 0).cells (rmD 1 0 0).slots A) = Q from hQ.symm]
  refine lv_iload_n hx hb dX12_isLetter_0 rfl (lv_at hl 0 rfl) ?_
  refine lv_bipush (v := 97) hx hb dX12_isLetter_1 (by decide) ?_
  refine lv_icmp_lt (tgt := 16) hx hb dX12_isLetter_3 (by decide) (fun c1 => ?_) (fun c1 => ?_)
  · have gc1 : p0.toInt < 97 := (tlt _ _).mp c1
    refine lv_iconst (v := 0) hx hb dX12_isLetter_16 (by decide) ?_
    rw [hQ]
    exact q_z F hr hlk () hP hD hS ⟨(show ((0 : Int) ≤ 0 ∧ 0 ≤ (1 : Int)) from by omega), (show ((0 = 1 ∧ 97 ≤ p0.toInt ∧ p0.toInt ≤ 122) ∨ (0 = 0 ∧ (p0.toInt < 97 ∨ 122 < p0.toInt))) from by omega)⟩ dX12_isLetter_17 (Nat.le_of_ble_eq_true rfl) (Nat.le_of_ble_eq_true rfl) (nar01 (by decide))
  · have gc1 : ¬ (p0.toInt < 97) := fun q0 => c1 ((tlt _ _).mpr q0)
    refine lv_iload_n hx hb dX12_isLetter_6 rfl (lv_at hl 0 rfl) ?_
    refine lv_bipush (v := 122) hx hb dX12_isLetter_7 (by decide) ?_
    refine lv_icmp_gt (tgt := 16) hx hb dX12_isLetter_9 (by decide) (fun c2 => ?_) (fun c2 => ?_)
    · have gc2 : 122 < p0.toInt := (tlt _ _).mp c2
      refine lv_iconst (v := 0) hx hb dX12_isLetter_16 (by decide) ?_
      rw [hQ]
      exact q_z F hr hlk () hP hD hS ⟨(show ((0 : Int) ≤ 0 ∧ 0 ≤ (1 : Int)) from by omega), (show ((0 = 1 ∧ 97 ≤ p0.toInt ∧ p0.toInt ≤ 122) ∨ (0 = 0 ∧ (p0.toInt < 97 ∨ 122 < p0.toInt))) from by omega)⟩ dX12_isLetter_17 (Nat.le_of_ble_eq_true rfl) (Nat.le_of_ble_eq_true rfl) (nar01 (by decide))
    · have gc2 : ¬ (122 < p0.toInt) := fun q0 => c2 ((tlt _ _).mpr q0)
      refine lv_iconst (v := 1) hx hb dX12_isLetter_12 (by decide) ?_
      refine lv_goto (tgt := 17) hx hb dX12_isLetter_13 (by decide) ?_
      rw [hQ]
      exact q_z F hr hlk () hP hD hS ⟨(show ((0 : Int) ≤ 1 ∧ 1 ≤ (1 : Int)) from by omega), (show ((1 = 1 ∧ 97 ≤ p0.toInt ∧ p0.toInt ≤ 122) ∨ (1 = 0 ∧ (p0.toInt < 97 ∨ 122 < p0.toInt))) from by omega)⟩ dX12_isLetter_17 (Nat.le_of_ble_eq_true rfl) (Nat.le_of_ble_eq_true rfl) (nar01 (by decide))
set_option maxHeartbeats 4000000 in
set_option maxRecDepth 100000 in
theorem s_X12_isIn (l : Launch) (G : Gx) (g q : Nat → Nat) (I0 : Nat → Int32) (J0 : Nat → Int64) (R0 : Nat → Nat → Int32) (L0 : Nat → Nat → Int64) (hvI : InvI Wm_lo Wm_hi I0) (hvR : InvR Wm_rl R0)  (p1 : Int32) (p2 : Int32) (hp1 : ((0 : Int) ≤ p1.toInt ∧ p1.toInt ≤ (11 : Int))) (hp2 : ((0 : Int) ≤ p2.toInt ∧ p2.toInt ≤ (4 : Int))) : CtI (S := Unit) l yX12_isIn cX12_isIn 3 (some .boolean) (rmD 1 0 0) G [.ref (g 45), .int p1, .int p2] (Wm G g q I0 J0 R0 L0) (fun r _ => ((0 : Int) ≤ r.toInt ∧ r.toInt ≤ (1 : Int))) (fun _ => (Wm G g q I0 J0 R0 L0)) := by
  refine ctI_of (own := RX12) (by decide +kernel) rfl (Nat.le_of_ble_eq_true rfl) ?_
  intro p e s m below meth c A ls F hr hlk hnm hK hP hD hA hS hl
  have hx := F.1
  have hb := F.2.1
  have hown := F.2.2.2.1
  have hl : lv_has ls 3 [(0, .ref (g 45)), (1, .int p1), (2, .int p2)] := hl
  obtain ⟨Q, hQ⟩ : ∃ Q : State → Prop, Q = MQ below (va_Qi (S := Unit) (fun r _ => ((0 : Int) ≤ r.toInt ∧ r.toInt ≤ (1 : Int))) (BX G A (fun _ => (Wm G g q I0 J0 R0 L0))) A) [.ref (g 45), .int p1, .int p2].toArray s 0 0 A := ⟨_, rfl⟩
  rw [show (MQ below (va_Qi (S := Unit) (fun r _ => ((0 : Int) ≤ r.toInt ∧ r.toInt ≤ (1 : Int))) (BX G A (fun _ => (Wm G g q I0 J0 R0 L0))) A) [.ref (g 45), .int p1, .int p2].toArray s (rmD 1 0 0).cells (rmD 1 0 0).slots A) = Q from hQ.symm]
  have hvI0 := hvI
  refine lv_aload_n hx hb dX12_isIn_0 rfl (lv_at hl 0 rfl) ?_
  refine g_get F hK hP 0 (Wm_at0 G g q I0 J0 R0 L0) clX12 58 (by decide) flX12_189 rfl dX12_isIn_1 ?_
  refine lv_iload_n hx hb dX12_isIn_4 rfl (lv_at hl 1 rfl) ?_
  refine g_iald F hK hP 41 (Wm_at41 G g q I0 J0 R0 L0) (in_of (by omega)) dX12_isIn_5 rfl ?_
  refine lv_topi (fun x1 ex1 => ?_)
  have gx1 : x1.toInt = (R0 36 (Int32.toNatClampNeg p1)).toInt := congrArg Int32.toInt (ex1)
  refine lv_iload_n hx hb dX12_isIn_6 rfl (lv_at hl 2 rfl) ?_
  refine lv_ishr hx hb dX12_isIn_7 ?_
  refine lv_topi (fun x2 ex2 => ?_)
  refine lv_iconst (v := 1) hx hb dX12_isIn_8 (by decide) ?_
  refine lv_iand hx hb dX12_isIn_9 ?_
  refine lv_topi (fun x3 ex3 => ?_)
  have fx3 : (0 : Int) ≤ x3.toInt ∧ x3.toInt ≤ (1 : Int) := by rw [ex3]; exact t_and (b := 1) (by decide)
  refine lv_iconst (v := 1) hx hb dX12_isIn_10 (by decide) ?_
  refine lv_icmp_ne (tgt := 18) hx hb dX12_isIn_11 (by decide) (fun c4 => ?_) (fun c4 => ?_)
  · have gc4 : ¬ (x3.toInt = 1) := fun q0 => c4 (Int32.toInt_inj.mp q0)
    refine lv_iconst (v := 0) hx hb dX12_isIn_18 (by decide) ?_
    rw [hQ]
    exact q_z F hr hlk () hP hD hS (show ((0 : Int) ≤ 0 ∧ 0 ≤ (1 : Int)) from by omega) dX12_isIn_19 (Nat.le_of_ble_eq_true rfl) (Nat.le_of_ble_eq_true rfl) (nar01 (by decide))
  · have gc4 : x3.toInt = 1 := congrArg Int32.toInt c4
    refine lv_iconst (v := 1) hx hb dX12_isIn_14 (by decide) ?_
    refine lv_goto (tgt := 19) hx hb dX12_isIn_15 (by decide) ?_
    rw [hQ]
    exact q_z F hr hlk () hP hD hS (show ((0 : Int) ≤ 1 ∧ 1 ≤ (1 : Int)) from by omega) dX12_isIn_19 (Nat.le_of_ble_eq_true rfl) (Nat.le_of_ble_eq_true rfl) (nar01 (by decide))
set_option maxHeartbeats 4000000 in
set_option maxRecDepth 100000 in
theorem s_X12_floorOf (l : Launch) (G : Gx) (g q : Nat → Nat) (I0 : Nat → Int32) (J0 : Nat → Int64) (R0 : Nat → Nat → Int32) (L0 : Nat → Nat → Int64) (hvI : InvI Wm_lo Wm_hi I0) (hvR : InvR Wm_rl R0)  (p1 : Int32) (hp1 : ((0 : Int) ≤ p1.toInt ∧ p1.toInt ≤ (11 : Int))) : CtI (S := Unit) l yX12_floorOf cX12_floorOf 2 (some .int) (rmD 1 0 0) G [.ref (g 45), .int p1] (Wm G g q I0 J0 R0 L0) (fun r _ => ((-1 : Int) ≤ r.toInt ∧ r.toInt ≤ (4 : Int))) (fun _ => (Wm G g q I0 J0 R0 L0)) := by
  refine ctI_of (own := RX12) (by decide +kernel) rfl (Nat.le_of_ble_eq_true rfl) ?_
  intro p e s m below meth c A ls F hr hlk hnm hK hP hD hA hS hl
  have hx := F.1
  have hb := F.2.1
  have hown := F.2.2.2.1
  have hl : lv_has ls 2 [(0, .ref (g 45)), (1, .int p1)] := hl
  obtain ⟨Q, hQ⟩ : ∃ Q : State → Prop, Q = MQ below (va_Qi (S := Unit) (fun r _ => ((-1 : Int) ≤ r.toInt ∧ r.toInt ≤ (4 : Int))) (BX G A (fun _ => (Wm G g q I0 J0 R0 L0))) A) [.ref (g 45), .int p1].toArray s 0 0 A := ⟨_, rfl⟩
  rw [show (MQ below (va_Qi (S := Unit) (fun r _ => ((-1 : Int) ≤ r.toInt ∧ r.toInt ≤ (4 : Int))) (BX G A (fun _ => (Wm G g q I0 J0 R0 L0))) A) [.ref (g 45), .int p1].toArray s (rmD 1 0 0).cells (rmD 1 0 0).slots A) = Q from hQ.symm]
  have hvI0 := hvI
  refine lv_aload_n hx hb dX12_floorOf_0 rfl (lv_at hl 0 rfl) ?_
  refine g_get F hK hP 0 (Wm_at0 G g q I0 J0 R0 L0) clX12 28 (by decide) flX12_98 rfl dX12_floorOf_1 ?_
  refine lv_bipush (v := 12) hx hb dX12_floorOf_4 (by decide) ?_
  refine lv_aload_n hx hb dX12_floorOf_6 rfl (lv_at hl 0 rfl) ?_
  refine g_get F hK hP 0 (Wm_at0 G g q I0 J0 R0 L0) clX12 12 (by decide) flX12_48 rfl dX12_floorOf_7 ?_
  have w_I0_10 := rg (hvI0 10 (by decide)) (0) (1) rfl rfl
  refine lv_imul hx hb dX12_floorOf_10 ?_
  refine lv_topi (fun x1 ex1 => ?_)
  have fx1 : x1.toInt = 12 * (I0 10).toInt := by rw [ex1]; exact t_mul (by show (-2147483648 : Int) ≤ 12 * (I0 10).toInt; omega) (by show 12 * (I0 10).toInt ≤ 2147483647; omega)
  refine lv_iload_n hx hb dX12_floorOf_11 rfl (lv_at hl 1 rfl) ?_
  refine lv_iadd hx hb dX12_floorOf_12 ?_
  refine lv_topi (fun x2 ex2 => ?_)
  have fx2 : x2.toInt = x1.toInt + p1.toInt := by rw [ex2]; exact t_add (by show (-2147483648 : Int) ≤ x1.toInt + p1.toInt; omega) (by show x1.toInt + p1.toInt ≤ 2147483647; omega)
  refine g_iald F hK hP 17 (Wm_at17 G g q I0 J0 R0 L0) (in_of (by omega)) dX12_floorOf_13 rfl ?_
  refine lv_topi (fun x3 ex3 => ?_)
  have gx3 : x3.toInt = (R0 13 (Int32.toNatClampNeg x2)).toInt := congrArg Int32.toInt (ex3)
  have fx3 : ((-1 : Int) ≤ x3.toInt ∧ x3.toInt ≤ (4 : Int)) := by rw [ex3]; exact hvR 13 (by decide) _ (clamp_lt (n := 24) (in_of (by omega)))
  rw [hQ]
  exact q_i F hr hlk () hP hD hS (show ((-1 : Int) ≤ x3.toInt ∧ x3.toInt ≤ (4 : Int)) from by omega) dX12_floorOf_14 (Nat.le_of_ble_eq_true rfl) (Nat.le_of_ble_eq_true rfl)
set_option maxHeartbeats 4000000 in
set_option maxRecDepth 100000 in
theorem s_X12_othersOn (l : Launch) (G : Gx) (g q : Nat → Nat) (I0 : Nat → Int32) (J0 : Nat → Int64) (R0 : Nat → Nat → Int32) (L0 : Nat → Nat → Int64) (hvI : InvI Wm_lo Wm_hi I0) (hvR : InvR Wm_rl R0)  (p1 : Int32) (hp1 : ((0 : Int) ≤ p1.toInt ∧ p1.toInt ≤ (4 : Int))) : CtI (S := Unit) l yX12_othersOn cX12_othersOn 4 (some .int) (rmD 2 0 0) G [.ref (g 45), .int p1] (Wm G g q I0 J0 R0 L0) (fun r _ => True) (fun _ => (Wm G g q I0 J0 R0 L0)) := by
  refine ctI_of (own := RX12) (by decide +kernel) rfl (Nat.le_of_ble_eq_true rfl) ?_
  intro p e s m below meth c A ls F hr hlk hnm hK hP hD hA hS hl
  have hx := F.1
  have hb := F.2.1
  have hown := F.2.2.2.1
  have hl : lv_has ls 4 [(0, .ref (g 45)), (1, .int p1)] := hl
  obtain ⟨Q, hQ⟩ : ∃ Q : State → Prop, Q = MQ below (va_Qi (S := Unit) (fun r _ => True) (BX G A (fun _ => (Wm G g q I0 J0 R0 L0))) A) [.ref (g 45), .int p1].toArray s 0 0 A := ⟨_, rfl⟩
  rw [show (MQ below (va_Qi (S := Unit) (fun r _ => True) (BX G A (fun _ => (Wm G g q I0 J0 R0 L0))) A) [.ref (g 45), .int p1].toArray s (rmD 2 0 0).cells (rmD 2 0 0).slots A) = Q from hQ.symm]
  have hvI0 := hvI
  have lab_4 : ∀ (k_4 : Nat) (a2_4 : Int32) (a3_4 : Int32) (H : Heap) (locs : List Loc) (ls : Array Slot), ((12 - a3_4.toInt) < (k_4 : Int)) → ((0 : Int) ≤ a3_4.toInt ∧ a3_4.toInt ≤ (12 : Int)) → va_P G.1 vwCl (Wm G g q I0 J0 R0 L0) H → va_D A (Wm G g q I0 J0 R0 L0) → va_S A s.heap H locs → lv_has ls 4 [(0, .ref (g 45)), (1, .int p1), (2, .int a2_4), (3, .int a3_4)] → W p l e (rmD 2 0 0) s m [.ref (g 45), .int p1].toArray below meth c H locs 0 0 Q (F0 m 4 ls []) := by
    intro k_4
    induction k_4 with
    | zero =>
      intro a2_4 a3_4 H locs ls hm y0_4 hP hD hS hl
      exact absurd hm (by omega)
    | succ k_4 ih_4 =>
      intro a2_4 a3_4 H locs ls hm y0_4 hP hD hS hl
      have lab_41 : ∀ (b0_41 : Int32) (b1_41 : Int32) (H : Heap) (locs : List Loc) (ls : Array Slot), ((0 : Int) ≤ a3_4.toInt ∧ a3_4.toInt ≤ (11 : Int)) → ((0 : Int) ≤ b0_41.toInt ∧ b0_41.toInt ≤ (1 : Int)) → va_P G.1 vwCl (Wm G g q I0 J0 R0 L0) H → va_D A (Wm G g q I0 J0 R0 L0) → va_S A s.heap H locs → lv_has ls 4 [(0, .ref (g 45)), (1, .int p1), (3, .int a3_4)] → W p l e (rmD 2 0 0) s m [.ref (g 45), .int p1].toArray below meth c H locs 0 0 Q (F0 m 41 ls [.int b0_41, .int b1_41]) := by
        intro b0_41 b1_41 H locs ls y0_41 y1_41 hP hD hS hl
        refine lv_iadd hx hb dX12_othersOn_41 ?_
        refine lv_topi (fun x1 ex1 => ?_)
        refine lv_istore_n (lv' := [(2, .int x1), (0, .ref (g 45)), (1, .int p1), (3, .int a3_4)]) hx hb dX12_othersOn_42 rfl hl (by decide) rfl (fun ls hl => ?_)
        obtain ⟨x2, ex2⟩ : ∃ y : Int32, y = a3_4 + 1 := ⟨_, rfl⟩
        have fx2 : x2.toInt = a3_4.toInt + (1 : Int) := by rw [ex2]; exact t_add (by show (-2147483648 : Int) ≤ a3_4.toInt + (1 : Int); omega) (by show a3_4.toInt + (1 : Int) ≤ 2147483647; omega)
        refine lv_iinc (v := x2) (lv' := [(3, .int x2), (2, .int x1), (0, .ref (g 45)), (1, .int p1)]) hx hb dX12_othersOn_43 hl (k := 3) rfl (by rw [ex2]; rfl) (by decide) rfl (fun ls hl => ?_)
        refine lv_goto (tgt := 4) hx hb dX12_othersOn_46 (by decide) ?_
        exact ih_4 x1 x2 _ _ _ (show (12 - x2.toInt) < (k_4 : Int) from by omega) (show ((0 : Int) ≤ x2.toInt ∧ x2.toInt ≤ (12 : Int)) from by omega) hP hD hS (lv_sub hl [2, 3, 1, 0] rfl)
      have lab_40 : ∀ (b0_40 : Int32) (H : Heap) (locs : List Loc) (ls : Array Slot), ((0 : Int) ≤ a3_4.toInt ∧ a3_4.toInt ≤ (11 : Int)) → va_P G.1 vwCl (Wm G g q I0 J0 R0 L0) H → va_D A (Wm G g q I0 J0 R0 L0) → va_S A s.heap H locs → lv_has ls 4 [(0, .ref (g 45)), (1, .int p1), (3, .int a3_4)] → W p l e (rmD 2 0 0) s m [.ref (g 45), .int p1].toArray below meth c H locs 0 0 Q (F0 m 40 ls [.int b0_40]) := by
        intro b0_40 H locs ls y0_40 hP hD hS hl
        refine lv_iconst (v := 0) hx hb dX12_othersOn_40 (by decide) ?_
        exact lab_41 0 b0_40 _ _ _ (show ((0 : Int) ≤ a3_4.toInt ∧ a3_4.toInt ≤ (11 : Int)) from by omega) (by decide) hP hD hS (lv_sub hl [0, 1, 2] rfl)
      refine lv_iload_n hx hb dX12_othersOn_4 rfl (lv_at hl 3 rfl) ?_
      refine lv_aload_n hx hb dX12_othersOn_5 rfl (lv_at hl 0 rfl) ?_
      refine g_get F hK hP 0 (Wm_at0 G g q I0 J0 R0 L0) clX12 21 (by decide) flX12_77 rfl dX12_othersOn_6 ?_
      refine lv_aload_n hx hb dX12_othersOn_9 rfl (lv_at hl 0 rfl) ?_
      refine g_get F hK hP 0 (Wm_at0 G g q I0 J0 R0 L0) clX12 12 (by decide) flX12_48 rfl dX12_othersOn_10 ?_
      have w_I0_10 := rg (hvI0 10 (by decide)) (0) (1) rfl rfl
      refine g_iald F hK hP 10 (Wm_at10 G g q I0 J0 R0 L0) (in_of (by omega)) dX12_othersOn_13 rfl ?_
      refine lv_topi (fun x3 ex3 => ?_)
      have gx3 : x3.toInt = (R0 7 (Int32.toNatClampNeg (I0 10))).toInt := congrArg Int32.toInt (ex3)
      have fx3 : ((0 : Int) ≤ x3.toInt ∧ x3.toInt ≤ (12 : Int)) := by rw [ex3]; exact hvR 7 (by decide) _ (clamp_lt (n := 2) (in_of (by omega)))
      refine lv_icmp_ge (tgt := 49) hx hb dX12_othersOn_14 (by decide) (fun c4 => ?_) (fun c4 => ?_)
      · have gc4 : x3.toInt ≤ a3_4.toInt := (tle _ _).mp c4
        refine lv_iload_n hx hb dX12_othersOn_49 rfl (lv_at hl 2 rfl) ?_
        rw [hQ]
        exact q_i F hr hlk () hP hD hS trivial dX12_othersOn_50 (Nat.le_of_ble_eq_true rfl) (Nat.le_of_ble_eq_true rfl)
      · have gc4 : ¬ (x3.toInt ≤ a3_4.toInt) := fun q0 => c4 ((tle _ _).mpr q0)
        refine lv_iload_n hx hb dX12_othersOn_17 rfl (lv_at hl 2 rfl) ?_
        refine lv_aload_n hx hb dX12_othersOn_18 rfl (lv_at hl 0 rfl) ?_
        refine lv_iload_n hx hb dX12_othersOn_19 rfl (lv_at hl 3 rfl) ?_
        refine lv_iload_n hx hb dX12_othersOn_20 rfl (lv_at hl 1 rfl) ?_
        refine wvi (As := [.int a3_4, .int p1]) (rest := [.int a2_4]) (b := (g 45)) (d := 1) F hK hP hD hS hA (s_X12_isIn l G g q I0 J0 R0 L0 hvI hvR  a3_4 p1 (show ((0 : Int) ≤ a3_4.toInt ∧ a3_4.toInt ≤ (11 : Int)) from by omega) (show ((0 : Int) ≤ p1.toInt ∧ p1.toInt ≤ (4 : Int)) from by omega)) kmV_X12_isIn mlX12_479 clX12 rfl 0 (Wm_at0 G g q I0 J0 R0 L0) ⟨(Nat.le_of_ble_eq_true rfl), (Nat.le_of_ble_eq_true rfl)⟩ hl.1 rfl (Nat.le_of_ble_eq_true rfl) dX12_othersOn_21 (fun r5 u6 H locs hwr5 hP hD hS => ?_)
        have F0r5 := hwr5
        replace F0r5 : ((0 : Int) ≤ r5.toInt ∧ r5.toInt ≤ (1 : Int)) := F0r5
        refine lv_if_eq (tgt := 40) hx hb dX12_othersOn_24 (by decide) (fun c7 => ?_) (fun c7 => ?_)
        · have gc7 : r5.toInt = 0 := congrArg Int32.toInt c7
          exact lab_40 a2_4 _ _ _ (show ((0 : Int) ≤ a3_4.toInt ∧ a3_4.toInt ≤ (11 : Int)) from by omega) hP hD hS (lv_sub hl [0, 1, 3] rfl)
        · have gc7 : ¬ (r5.toInt = 0) := fun q0 => c7 (Int32.toInt_inj.mp q0)
          refine lv_aload_n hx hb dX12_othersOn_27 rfl (lv_at hl 0 rfl) ?_
          refine lv_iload_n hx hb dX12_othersOn_28 rfl (lv_at hl 3 rfl) ?_
          refine wvi (As := [.int a3_4]) (rest := [.int a2_4]) (b := (g 45)) (d := 1) F hK hP hD hS hA (s_X12_floorOf l G g q I0 J0 R0 L0 hvI hvR  a3_4 (show ((0 : Int) ≤ a3_4.toInt ∧ a3_4.toInt ≤ (11 : Int)) from by omega)) kmV_X12_floorOf mlX12_451 clX12 rfl 0 (Wm_at0 G g q I0 J0 R0 L0) ⟨(Nat.le_of_ble_eq_true rfl), (Nat.le_of_ble_eq_true rfl)⟩ hl.1 rfl (Nat.le_of_ble_eq_true rfl) dX12_othersOn_29 (fun r8 u9 H locs hwr8 hP hD hS => ?_)
          have F0r8 := hwr8
          replace F0r8 : ((-1 : Int) ≤ r8.toInt ∧ r8.toInt ≤ (4 : Int)) := F0r8
          refine lv_iconst (v := (-1)) hx hb dX12_othersOn_32 (by decide) ?_
          refine lv_icmp_ne (tgt := 40) hx hb dX12_othersOn_33 (by decide) (fun c10 => ?_) (fun c10 => ?_)
          · have gc10 : ¬ (r8.toInt = (-1)) := fun q0 => c10 (Int32.toInt_inj.mp q0)
            exact lab_40 a2_4 _ _ _ (show ((0 : Int) ≤ a3_4.toInt ∧ a3_4.toInt ≤ (11 : Int)) from by omega) hP hD hS (lv_sub hl [0, 1, 3] rfl)
          · have gc10 : r8.toInt = (-1) := congrArg Int32.toInt c10
            refine lv_iconst (v := 1) hx hb dX12_othersOn_36 (by decide) ?_
            refine lv_goto (tgt := 41) hx hb dX12_othersOn_37 (by decide) ?_
            exact lab_41 1 a2_4 _ _ _ (show ((0 : Int) ≤ a3_4.toInt ∧ a3_4.toInt ≤ (11 : Int)) from by omega) (by decide) hP hD hS (lv_sub hl [0, 1, 3] rfl)
  refine lv_iconst (v := 0) hx hb dX12_othersOn_0 (by decide) ?_
  refine lv_istore_n (lv' := [(2, .int 0), (0, .ref (g 45)), (1, .int p1)]) hx hb dX12_othersOn_1 rfl hl (by decide) rfl (fun ls hl => ?_)
  refine lv_iconst (v := 0) hx hb dX12_othersOn_2 (by decide) ?_
  refine lv_istore_n (lv' := [(3, .int 0), (2, .int 0), (0, .ref (g 45)), (1, .int p1)]) hx hb dX12_othersOn_3 rfl hl (by decide) rfl (fun ls hl => ?_)
  exact lab_4 13 0 0 _ _ _ (show (12 - 0) < ((13 : Nat) : Int) from by omega) (by decide) hP hD hS (lv_sub hl [2, 3, 1, 0] rfl)
set_option maxHeartbeats 4000000 in
set_option maxRecDepth 100000 in
theorem s_X12_desksAll (l : Launch) (G : Gx) (g q : Nat → Nat) (I0 : Nat → Int32) (J0 : Nat → Int64) (R0 : Nat → Nat → Int32) (L0 : Nat → Nat → Int64) (hvI : InvI Wm_lo Wm_hi I0) (hvR : InvR Wm_rl R0)    : CtI (S := Unit) l yX12_desksAll cX12_desksAll 3 (some .int) (rmD 1 0 0) G [.ref (g 45)] (Wm G g q I0 J0 R0 L0) (fun r _ => ((0 : Int) ≤ r.toInt ∧ r.toInt ≤ (49995 : Int))) (fun _ => (Wm G g q I0 J0 R0 L0)) := by
  refine ctI_of (own := RX12) (by decide +kernel) rfl (Nat.le_of_ble_eq_true rfl) ?_
  intro p e s m below meth c A ls F hr hlk hnm hK hP hD hA hS hl
  have hx := F.1
  have hb := F.2.1
  have hown := F.2.2.2.1
  have hl : lv_has ls 3 [(0, .ref (g 45))] := hl
  obtain ⟨Q, hQ⟩ : ∃ Q : State → Prop, Q = MQ below (va_Qi (S := Unit) (fun r _ => ((0 : Int) ≤ r.toInt ∧ r.toInt ≤ (49995 : Int))) (BX G A (fun _ => (Wm G g q I0 J0 R0 L0))) A) [.ref (g 45)].toArray s 0 0 A := ⟨_, rfl⟩
  rw [show (MQ below (va_Qi (S := Unit) (fun r _ => ((0 : Int) ≤ r.toInt ∧ r.toInt ≤ (49995 : Int))) (BX G A (fun _ => (Wm G g q I0 J0 R0 L0))) A) [.ref (g 45)].toArray s (rmD 1 0 0).cells (rmD 1 0 0).slots A) = Q from hQ.symm]
  have hvI0 := hvI
  have lab_4 : ∀ (k_4 : Nat) (a1_4 : Int32) (a2_4 : Int32) (H : Heap) (locs : List Loc) (ls : Array Slot), ((5 - a2_4.toInt) < (k_4 : Int)) → ((0 : Int) ≤ a2_4.toInt ∧ a2_4.toInt ≤ (5 : Int)) → (0 ≤ a1_4.toInt) → (a1_4.toInt ≤ 9999 * a2_4.toInt) → va_P G.1 vwCl (Wm G g q I0 J0 R0 L0) H → va_D A (Wm G g q I0 J0 R0 L0) → va_S A s.heap H locs → lv_has ls 3 [(0, .ref (g 45)), (1, .int a1_4), (2, .int a2_4)] → W p l e (rmD 1 0 0) s m [.ref (g 45)].toArray below meth c H locs 0 0 Q (F0 m 4 ls []) := by
    intro k_4
    induction k_4 with
    | zero =>
      intro a1_4 a2_4 H locs ls hm y0_4 z0_4 z1_4 hP hD hS hl
      exact absurd hm (by omega)
    | succ k_4 ih_4 =>
      intro a1_4 a2_4 H locs ls hm y0_4 z0_4 z1_4 hP hD hS hl
      refine lv_iload_n hx hb dX12_desksAll_4 rfl (lv_at hl 2 rfl) ?_
      refine lv_aload_n hx hb dX12_desksAll_5 rfl (lv_at hl 0 rfl) ?_
      refine g_get F hK hP 0 (Wm_at0 G g q I0 J0 R0 L0) clX12 13 (by decide) flX12_51 rfl dX12_desksAll_6 ?_
      refine lv_aload_n hx hb dX12_desksAll_9 rfl (lv_at hl 0 rfl) ?_
      refine g_get F hK hP 0 (Wm_at0 G g q I0 J0 R0 L0) clX12 12 (by decide) flX12_48 rfl dX12_desksAll_10 ?_
      have w_I0_10 := rg (hvI0 10 (by decide)) (0) (1) rfl rfl
      refine g_iald F hK hP 2 (Wm_at2 G g q I0 J0 R0 L0) (in_of (by omega)) dX12_desksAll_13 rfl ?_
      refine lv_topi (fun x1 ex1 => ?_)
      have gx1 : x1.toInt = (R0 1 (Int32.toNatClampNeg (I0 10))).toInt := congrArg Int32.toInt (ex1)
      have fx1 : ((0 : Int) ≤ x1.toInt ∧ x1.toInt ≤ (5 : Int)) := by rw [ex1]; exact hvR 1 (by decide) _ (clamp_lt (n := 2) (in_of (by omega)))
      refine lv_icmp_ge (tgt := 39) hx hb dX12_desksAll_14 (by decide) (fun c2 => ?_) (fun c2 => ?_)
      · have gc2 : x1.toInt ≤ a2_4.toInt := (tle _ _).mp c2
        refine lv_iload_n hx hb dX12_desksAll_39 rfl (lv_at hl 1 rfl) ?_
        rw [hQ]
        exact q_i F hr hlk () hP hD hS (show ((0 : Int) ≤ a1_4.toInt ∧ a1_4.toInt ≤ (49995 : Int)) from by omega) dX12_desksAll_40 (Nat.le_of_ble_eq_true rfl) (Nat.le_of_ble_eq_true rfl)
      · have gc2 : ¬ (x1.toInt ≤ a2_4.toInt) := fun q0 => c2 ((tle _ _).mpr q0)
        refine lv_iload_n hx hb dX12_desksAll_17 rfl (lv_at hl 1 rfl) ?_
        refine lv_aload_n hx hb dX12_desksAll_18 rfl (lv_at hl 0 rfl) ?_
        refine g_get F hK hP 0 (Wm_at0 G g q I0 J0 R0 L0) clX12 15 (by decide) flX12_58 rfl dX12_desksAll_19 ?_
        refine lv_iconst (v := 5) hx hb dX12_desksAll_22 (by decide) ?_
        refine lv_aload_n hx hb dX12_desksAll_23 rfl (lv_at hl 0 rfl) ?_
        refine g_get F hK hP 0 (Wm_at0 G g q I0 J0 R0 L0) clX12 12 (by decide) flX12_48 rfl dX12_desksAll_24 ?_
        refine lv_imul hx hb dX12_desksAll_27 ?_
        refine lv_topi (fun x3 ex3 => ?_)
        have fx3 : x3.toInt = 5 * (I0 10).toInt := by rw [ex3]; exact t_mul (by show (-2147483648 : Int) ≤ 5 * (I0 10).toInt; omega) (by show 5 * (I0 10).toInt ≤ 2147483647; omega)
        refine lv_iload_n hx hb dX12_desksAll_28 rfl (lv_at hl 2 rfl) ?_
        refine lv_iadd hx hb dX12_desksAll_29 ?_
        refine lv_topi (fun x4 ex4 => ?_)
        have fx4 : x4.toInt = x3.toInt + a2_4.toInt := by rw [ex4]; exact t_add (by show (-2147483648 : Int) ≤ x3.toInt + a2_4.toInt; omega) (by show x3.toInt + a2_4.toInt ≤ 2147483647; omega)
        refine g_iald F hK hP 4 (Wm_at4 G g q I0 J0 R0 L0) (in_of (by omega)) dX12_desksAll_30 rfl ?_
        refine lv_topi (fun x5 ex5 => ?_)
        have gx5 : x5.toInt = (R0 2 (Int32.toNatClampNeg x4)).toInt := congrArg Int32.toInt (ex5)
        have fx5 : ((0 : Int) ≤ x5.toInt ∧ x5.toInt ≤ (9999 : Int)) := by rw [ex5]; exact hvR 2 (by decide) _ (clamp_lt (n := 10) (in_of (by omega)))
        refine lv_iadd hx hb dX12_desksAll_31 ?_
        refine lv_topi (fun x6 ex6 => ?_)
        have fx6 : x6.toInt = a1_4.toInt + x5.toInt := by rw [ex6]; exact t_add (by show (-2147483648 : Int) ≤ a1_4.toInt + x5.toInt; omega) (by show a1_4.toInt + x5.toInt ≤ 2147483647; omega)
        refine lv_istore_n (lv' := [(1, .int x6), (0, .ref (g 45)), (2, .int a2_4)]) hx hb dX12_desksAll_32 rfl hl (by decide) rfl (fun ls hl => ?_)
        obtain ⟨x7, ex7⟩ : ∃ y : Int32, y = a2_4 + 1 := ⟨_, rfl⟩
        have fx7 : x7.toInt = a2_4.toInt + (1 : Int) := by rw [ex7]; exact t_add (by show (-2147483648 : Int) ≤ a2_4.toInt + (1 : Int); omega) (by show a2_4.toInt + (1 : Int) ≤ 2147483647; omega)
        refine lv_iinc (v := x7) (lv' := [(2, .int x7), (1, .int x6), (0, .ref (g 45))]) hx hb dX12_desksAll_33 hl (k := 2) rfl (by rw [ex7]; rfl) (by decide) rfl (fun ls hl => ?_)
        refine lv_goto (tgt := 4) hx hb dX12_desksAll_36 (by decide) ?_
        exact ih_4 x6 x7 _ _ _ (show (5 - x7.toInt) < (k_4 : Int) from by omega) (show ((0 : Int) ≤ x7.toInt ∧ x7.toInt ≤ (5 : Int)) from by omega) (show (0 ≤ x6.toInt) from by omega) (show (x6.toInt ≤ 9999 * x7.toInt) from by omega) hP hD hS (lv_sub hl [2, 1, 0] rfl)
  refine lv_iconst (v := 0) hx hb dX12_desksAll_0 (by decide) ?_
  refine lv_istore_n (lv' := [(1, .int 0), (0, .ref (g 45))]) hx hb dX12_desksAll_1 rfl hl (by decide) rfl (fun ls hl => ?_)
  refine lv_iconst (v := 0) hx hb dX12_desksAll_2 (by decide) ?_
  refine lv_istore_n (lv' := [(2, .int 0), (1, .int 0), (0, .ref (g 45))]) hx hb dX12_desksAll_3 rfl hl (by decide) rfl (fun ls hl => ?_)
  exact lab_4 6 0 0 _ _ _ (show (5 - 0) < ((6 : Nat) : Int) from by omega) (by decide) (show (0 ≤ 0) from by omega) (show (0 ≤ 9999 * 0) from by omega) hP hD hS (lv_sub hl [2, 1, 0] rfl)
set_option maxHeartbeats 4000000 in
set_option maxRecDepth 100000 in
theorem s_X12_ownedAll (l : Launch) (G : Gx) (g q : Nat → Nat) (I0 : Nat → Int32) (J0 : Nat → Int64) (R0 : Nat → Nat → Int32) (L0 : Nat → Nat → Int64) (hvI : InvI Wm_lo Wm_hi I0) (hvR : InvR Wm_rl R0)    : CtI (S := Unit) l yX12_ownedAll cX12_ownedAll 3 (some .int) (rmD 2 0 0) G [.ref (g 45)] (Wm G g q I0 J0 R0 L0) (fun r _ => True) (fun _ => (Wm G g q I0 J0 R0 L0)) := by
  refine ctI_of (own := RX12) (by decide +kernel) rfl (Nat.le_of_ble_eq_true rfl) ?_
  intro p e s m below meth c A ls F hr hlk hnm hK hP hD hA hS hl
  have hx := F.1
  have hb := F.2.1
  have hown := F.2.2.2.1
  have hl : lv_has ls 3 [(0, .ref (g 45))] := hl
  obtain ⟨Q, hQ⟩ : ∃ Q : State → Prop, Q = MQ below (va_Qi (S := Unit) (fun r _ => True) (BX G A (fun _ => (Wm G g q I0 J0 R0 L0))) A) [.ref (g 45)].toArray s 0 0 A := ⟨_, rfl⟩
  rw [show (MQ below (va_Qi (S := Unit) (fun r _ => True) (BX G A (fun _ => (Wm G g q I0 J0 R0 L0))) A) [.ref (g 45)].toArray s (rmD 2 0 0).cells (rmD 2 0 0).slots A) = Q from hQ.symm]
  have hvI0 := hvI
  have lab_4 : ∀ (k_4 : Nat) (a1_4 : Int32) (a2_4 : Int32) (H : Heap) (locs : List Loc) (ls : Array Slot), ((12 - a2_4.toInt) < (k_4 : Int)) → ((0 : Int) ≤ a2_4.toInt ∧ a2_4.toInt ≤ (12 : Int)) → va_P G.1 vwCl (Wm G g q I0 J0 R0 L0) H → va_D A (Wm G g q I0 J0 R0 L0) → va_S A s.heap H locs → lv_has ls 3 [(0, .ref (g 45)), (1, .int a1_4), (2, .int a2_4)] → W p l e (rmD 2 0 0) s m [.ref (g 45)].toArray below meth c H locs 0 0 Q (F0 m 4 ls []) := by
    intro k_4
    induction k_4 with
    | zero =>
      intro a1_4 a2_4 H locs ls hm y0_4 hP hD hS hl
      exact absurd hm (by omega)
    | succ k_4 ih_4 =>
      intro a1_4 a2_4 H locs ls hm y0_4 hP hD hS hl
      have lab_32 : ∀ (b0_32 : Int32) (b1_32 : Int32) (H : Heap) (locs : List Loc) (ls : Array Slot), ((0 : Int) ≤ a2_4.toInt ∧ a2_4.toInt ≤ (11 : Int)) → ((0 : Int) ≤ b0_32.toInt ∧ b0_32.toInt ≤ (1 : Int)) → va_P G.1 vwCl (Wm G g q I0 J0 R0 L0) H → va_D A (Wm G g q I0 J0 R0 L0) → va_S A s.heap H locs → lv_has ls 3 [(0, .ref (g 45)), (2, .int a2_4)] → W p l e (rmD 2 0 0) s m [.ref (g 45)].toArray below meth c H locs 0 0 Q (F0 m 32 ls [.int b0_32, .int b1_32]) := by
        intro b0_32 b1_32 H locs ls y0_32 y1_32 hP hD hS hl
        refine lv_iadd hx hb dX12_ownedAll_32 ?_
        refine lv_topi (fun x1 ex1 => ?_)
        refine lv_istore_n (lv' := [(1, .int x1), (0, .ref (g 45)), (2, .int a2_4)]) hx hb dX12_ownedAll_33 rfl hl (by decide) rfl (fun ls hl => ?_)
        obtain ⟨x2, ex2⟩ : ∃ y : Int32, y = a2_4 + 1 := ⟨_, rfl⟩
        have fx2 : x2.toInt = a2_4.toInt + (1 : Int) := by rw [ex2]; exact t_add (by show (-2147483648 : Int) ≤ a2_4.toInt + (1 : Int); omega) (by show a2_4.toInt + (1 : Int) ≤ 2147483647; omega)
        refine lv_iinc (v := x2) (lv' := [(2, .int x2), (1, .int x1), (0, .ref (g 45))]) hx hb dX12_ownedAll_34 hl (k := 2) rfl (by rw [ex2]; rfl) (by decide) rfl (fun ls hl => ?_)
        refine lv_goto (tgt := 4) hx hb dX12_ownedAll_37 (by decide) ?_
        exact ih_4 x1 x2 _ _ _ (show (12 - x2.toInt) < (k_4 : Int) from by omega) (show ((0 : Int) ≤ x2.toInt ∧ x2.toInt ≤ (12 : Int)) from by omega) hP hD hS (lv_sub hl [2, 1, 0] rfl)
      refine lv_iload_n hx hb dX12_ownedAll_4 rfl (lv_at hl 2 rfl) ?_
      refine lv_aload_n hx hb dX12_ownedAll_5 rfl (lv_at hl 0 rfl) ?_
      refine g_get F hK hP 0 (Wm_at0 G g q I0 J0 R0 L0) clX12 21 (by decide) flX12_77 rfl dX12_ownedAll_6 ?_
      refine lv_aload_n hx hb dX12_ownedAll_9 rfl (lv_at hl 0 rfl) ?_
      refine g_get F hK hP 0 (Wm_at0 G g q I0 J0 R0 L0) clX12 12 (by decide) flX12_48 rfl dX12_ownedAll_10 ?_
      have w_I0_10 := rg (hvI0 10 (by decide)) (0) (1) rfl rfl
      refine g_iald F hK hP 10 (Wm_at10 G g q I0 J0 R0 L0) (in_of (by omega)) dX12_ownedAll_13 rfl ?_
      refine lv_topi (fun x3 ex3 => ?_)
      have gx3 : x3.toInt = (R0 7 (Int32.toNatClampNeg (I0 10))).toInt := congrArg Int32.toInt (ex3)
      have fx3 : ((0 : Int) ≤ x3.toInt ∧ x3.toInt ≤ (12 : Int)) := by rw [ex3]; exact hvR 7 (by decide) _ (clamp_lt (n := 2) (in_of (by omega)))
      refine lv_icmp_ge (tgt := 40) hx hb dX12_ownedAll_14 (by decide) (fun c4 => ?_) (fun c4 => ?_)
      · have gc4 : x3.toInt ≤ a2_4.toInt := (tle _ _).mp c4
        refine lv_iload_n hx hb dX12_ownedAll_40 rfl (lv_at hl 1 rfl) ?_
        rw [hQ]
        exact q_i F hr hlk () hP hD hS trivial dX12_ownedAll_41 (Nat.le_of_ble_eq_true rfl) (Nat.le_of_ble_eq_true rfl)
      · have gc4 : ¬ (x3.toInt ≤ a2_4.toInt) := fun q0 => c4 ((tle _ _).mpr q0)
        refine lv_iload_n hx hb dX12_ownedAll_17 rfl (lv_at hl 1 rfl) ?_
        refine lv_aload_n hx hb dX12_ownedAll_18 rfl (lv_at hl 0 rfl) ?_
        refine lv_iload_n hx hb dX12_ownedAll_19 rfl (lv_at hl 2 rfl) ?_
        refine wvi (As := [.int a2_4]) (rest := [.int a1_4]) (b := (g 45)) (d := 1) F hK hP hD hS hA (s_X12_floorOf l G g q I0 J0 R0 L0 hvI hvR  a2_4 (show ((0 : Int) ≤ a2_4.toInt ∧ a2_4.toInt ≤ (11 : Int)) from by omega)) kmV_X12_floorOf mlX12_451 clX12 rfl 0 (Wm_at0 G g q I0 J0 R0 L0) ⟨(Nat.le_of_ble_eq_true rfl), (Nat.le_of_ble_eq_true rfl)⟩ hl.1 rfl (Nat.le_of_ble_eq_true rfl) dX12_ownedAll_20 (fun r5 u6 H locs hwr5 hP hD hS => ?_)
        have F0r5 := hwr5
        replace F0r5 : ((-1 : Int) ≤ r5.toInt ∧ r5.toInt ≤ (4 : Int)) := F0r5
        refine lv_iconst (v := (-1)) hx hb dX12_ownedAll_23 (by decide) ?_
        refine lv_icmp_eq (tgt := 31) hx hb dX12_ownedAll_24 (by decide) (fun c7 => ?_) (fun c7 => ?_)
        · have gc7 : r5.toInt = (-1) := congrArg Int32.toInt c7
          refine lv_iconst (v := 0) hx hb dX12_ownedAll_31 (by decide) ?_
          exact lab_32 0 a1_4 _ _ _ (show ((0 : Int) ≤ a2_4.toInt ∧ a2_4.toInt ≤ (11 : Int)) from by omega) (by decide) hP hD hS (lv_sub hl [0, 2] rfl)
        · have gc7 : ¬ (r5.toInt = (-1)) := fun q0 => c7 (Int32.toInt_inj.mp q0)
          refine lv_iconst (v := 1) hx hb dX12_ownedAll_27 (by decide) ?_
          refine lv_goto (tgt := 32) hx hb dX12_ownedAll_28 (by decide) ?_
          exact lab_32 1 a1_4 _ _ _ (show ((0 : Int) ≤ a2_4.toInt ∧ a2_4.toInt ≤ (11 : Int)) from by omega) (by decide) hP hD hS (lv_sub hl [0, 2] rfl)
  refine lv_iconst (v := 0) hx hb dX12_ownedAll_0 (by decide) ?_
  refine lv_istore_n (lv' := [(1, .int 0), (0, .ref (g 45))]) hx hb dX12_ownedAll_1 rfl hl (by decide) rfl (fun ls hl => ?_)
  refine lv_iconst (v := 0) hx hb dX12_ownedAll_2 (by decide) ?_
  refine lv_istore_n (lv' := [(2, .int 0), (1, .int 0), (0, .ref (g 45))]) hx hb dX12_ownedAll_3 rfl hl (by decide) rfl (fun ls hl => ?_)
  exact lab_4 13 0 0 _ _ _ (show (12 - 0) < ((13 : Nat) : Int) from by omega) (by decide) hP hD hS (lv_sub hl [2, 1, 0] rfl)
set_option maxHeartbeats 4000000 in
set_option maxRecDepth 100000 in
theorem s_X12_spare (l : Launch) (G : Gx) (g q : Nat → Nat) (I0 : Nat → Int32) (J0 : Nat → Int64) (R0 : Nat → Nat → Int32) (L0 : Nat → Nat → Int64) (hvI : InvI Wm_lo Wm_hi I0) (hvR : InvR Wm_rl R0)    : CtI (S := Unit) l yX12_spare cX12_spare 1 (some .int) (rmD 3 0 0) G [.ref (g 45)] (Wm G g q I0 J0 R0 L0) (fun r _ => True) (fun _ => (Wm G g q I0 J0 R0 L0)) := by
  refine ctI_of (own := RX12) (by decide +kernel) rfl (Nat.le_of_ble_eq_true rfl) ?_
  intro p e s m below meth c A ls F hr hlk hnm hK hP hD hA hS hl
  have hx := F.1
  have hb := F.2.1
  have hown := F.2.2.2.1
  have hl : lv_has ls 1 [(0, .ref (g 45))] := hl
  obtain ⟨Q, hQ⟩ : ∃ Q : State → Prop, Q = MQ below (va_Qi (S := Unit) (fun r _ => True) (BX G A (fun _ => (Wm G g q I0 J0 R0 L0))) A) [.ref (g 45)].toArray s 0 0 A := ⟨_, rfl⟩
  rw [show (MQ below (va_Qi (S := Unit) (fun r _ => True) (BX G A (fun _ => (Wm G g q I0 J0 R0 L0))) A) [.ref (g 45)].toArray s (rmD 3 0 0).cells (rmD 3 0 0).slots A) = Q from hQ.symm]
  have hvI0 := hvI
  refine lv_aload_n hx hb dX12_spare_0 rfl (lv_at hl 0 rfl) ?_
  refine wvi (As := []) (rest := []) (b := (g 45)) (d := 1) F hK hP hD hS hA (s_X12_desksAll l G g q I0 J0 R0 L0 hvI hvR   ) kmV_X12_desksAll mlX12_454 clX12 rfl 0 (Wm_at0 G g q I0 J0 R0 L0) ⟨(Nat.le_of_ble_eq_true rfl), (Nat.le_of_ble_eq_true rfl)⟩ hl.1 rfl (Nat.le_of_ble_eq_true rfl) dX12_spare_1 (fun r1 u2 H locs hwr1 hP hD hS => ?_)
  have F0r1 := hwr1
  replace F0r1 : ((0 : Int) ≤ r1.toInt ∧ r1.toInt ≤ (49995 : Int)) := F0r1
  refine lv_aload_n hx hb dX12_spare_4 rfl (lv_at hl 0 rfl) ?_
  refine wvi (As := []) (rest := [.int r1]) (b := (g 45)) (d := 2) F hK hP hD hS hA (s_X12_ownedAll l G g q I0 J0 R0 L0 hvI hvR   ) kmV_X12_ownedAll mlX12_457 clX12 rfl 0 (Wm_at0 G g q I0 J0 R0 L0) ⟨(Nat.le_of_ble_eq_true rfl), (Nat.le_of_ble_eq_true rfl)⟩ hl.1 rfl (Nat.le_of_ble_eq_true rfl) dX12_spare_5 (fun r3 u4 H locs hwr3 hP hD hS => ?_)
  refine lv_isub hx hb dX12_spare_8 ?_
  refine lv_topi (fun x5 ex5 => ?_)
  rw [hQ]
  exact q_i F hr hlk () hP hD hS trivial dX12_spare_9 (Nat.le_of_ble_eq_true rfl) (Nat.le_of_ble_eq_true rfl)
set_option maxHeartbeats 4000000 in
set_option maxRecDepth 100000 in
theorem s_X12_standOn (l : Launch) (G : Gx) (g q : Nat → Nat) (I0 : Nat → Int32) (J0 : Nat → Int64) (R0 : Nat → Nat → Int32) (L0 : Nat → Nat → Int64) (hvI : InvI Wm_lo Wm_hi I0) (hvR : InvR Wm_rl R0)  (p1 : Int32) (hp1 : ((0 : Int) ≤ p1.toInt ∧ p1.toInt ≤ (4 : Int))) : CtI (S := Unit) l yX12_standOn cX12_standOn 2 (some .int) (rmD 4 0 0) G [.ref (g 45), .int p1] (Wm G g q I0 J0 R0 L0) (fun r _ => True) (fun _ => (Wm G g q I0 J0 R0 L0)) := by
  refine ctI_of (own := RX12) (by decide +kernel) rfl (Nat.le_of_ble_eq_true rfl) ?_
  intro p e s m below meth c A ls F hr hlk hnm hK hP hD hA hS hl
  have hx := F.1
  have hb := F.2.1
  have hown := F.2.2.2.1
  have hl : lv_has ls 2 [(0, .ref (g 45)), (1, .int p1)] := hl
  obtain ⟨Q, hQ⟩ : ∃ Q : State → Prop, Q = MQ below (va_Qi (S := Unit) (fun r _ => True) (BX G A (fun _ => (Wm G g q I0 J0 R0 L0))) A) [.ref (g 45), .int p1].toArray s 0 0 A := ⟨_, rfl⟩
  rw [show (MQ below (va_Qi (S := Unit) (fun r _ => True) (BX G A (fun _ => (Wm G g q I0 J0 R0 L0))) A) [.ref (g 45), .int p1].toArray s (rmD 4 0 0).cells (rmD 4 0 0).slots A) = Q from hQ.symm]
  have hvI0 := hvI
  refine lv_aload_n hx hb dX12_standOn_0 rfl (lv_at hl 0 rfl) ?_
  refine lv_iload_n hx hb dX12_standOn_1 rfl (lv_at hl 1 rfl) ?_
  refine wvi (As := [.int p1]) (rest := []) (b := (g 45)) (d := 2) F hK hP hD hS hA (s_X12_othersOn l G g q I0 J0 R0 L0 hvI hvR  p1 (show ((0 : Int) ≤ p1.toInt ∧ p1.toInt ≤ (4 : Int)) from by omega)) kmV_X12_othersOn mlX12_482 clX12 rfl 0 (Wm_at0 G g q I0 J0 R0 L0) ⟨(Nat.le_of_ble_eq_true rfl), (Nat.le_of_ble_eq_true rfl)⟩ hl.1 rfl (Nat.le_of_ble_eq_true rfl) dX12_standOn_2 (fun r1 u2 H locs hwr1 hP hD hS => ?_)
  refine lv_aload_n hx hb dX12_standOn_5 rfl (lv_at hl 0 rfl) ?_
  refine wvi (As := []) (rest := [.int r1]) (b := (g 45)) (d := 3) F hK hP hD hS hA (s_X12_spare l G g q I0 J0 R0 L0 hvI hvR   ) kmV_X12_spare mlX12_485 clX12 rfl 0 (Wm_at0 G g q I0 J0 R0 L0) ⟨(Nat.le_of_ble_eq_true rfl), (Nat.le_of_ble_eq_true rfl)⟩ hl.1 rfl (Nat.le_of_ble_eq_true rfl) dX12_standOn_6 (fun r3 u4 H locs hwr3 hP hD hS => ?_)
  refine lv_icmp_le (tgt := 25) hx hb dX12_standOn_9 (by decide) (fun c5 => ?_) (fun c5 => ?_)
  · have gc5 : r1.toInt ≤ r3.toInt := (tle _ _).mp c5
    refine lv_iconst (v := 0) hx hb dX12_standOn_25 (by decide) ?_
    rw [hQ]
    exact q_i F hr hlk () hP hD hS trivial dX12_standOn_26 (Nat.le_of_ble_eq_true rfl) (Nat.le_of_ble_eq_true rfl)
  · have gc5 : ¬ (r1.toInt ≤ r3.toInt) := fun q0 => c5 ((tle _ _).mpr q0)
    refine lv_aload_n hx hb dX12_standOn_12 rfl (lv_at hl 0 rfl) ?_
    refine lv_iload_n hx hb dX12_standOn_13 rfl (lv_at hl 1 rfl) ?_
    refine wvi (As := [.int p1]) (rest := []) (b := (g 45)) (d := 2) F hK hP hD hS hA (s_X12_othersOn l G g q I0 J0 R0 L0 hvI hvR  p1 (show ((0 : Int) ≤ p1.toInt ∧ p1.toInt ≤ (4 : Int)) from by omega)) kmV_X12_othersOn mlX12_482 clX12 rfl 0 (Wm_at0 G g q I0 J0 R0 L0) ⟨(Nat.le_of_ble_eq_true rfl), (Nat.le_of_ble_eq_true rfl)⟩ hl.1 rfl (Nat.le_of_ble_eq_true rfl) dX12_standOn_14 (fun r6 u7 H locs hwr6 hP hD hS => ?_)
    refine lv_aload_n hx hb dX12_standOn_17 rfl (lv_at hl 0 rfl) ?_
    refine wvi (As := []) (rest := [.int r6]) (b := (g 45)) (d := 3) F hK hP hD hS hA (s_X12_spare l G g q I0 J0 R0 L0 hvI hvR   ) kmV_X12_spare mlX12_485 clX12 rfl 0 (Wm_at0 G g q I0 J0 R0 L0) ⟨(Nat.le_of_ble_eq_true rfl), (Nat.le_of_ble_eq_true rfl)⟩ hl.1 rfl (Nat.le_of_ble_eq_true rfl) dX12_standOn_18 (fun r8 u9 H locs hwr8 hP hD hS => ?_)
    refine lv_isub hx hb dX12_standOn_21 ?_
    refine lv_topi (fun x10 ex10 => ?_)
    refine lv_goto (tgt := 26) hx hb dX12_standOn_22 (by decide) ?_
    rw [hQ]
    exact q_i F hr hlk () hP hD hS trivial dX12_standOn_26 (Nat.le_of_ble_eq_true rfl) (Nat.le_of_ble_eq_true rfl)
set_option maxHeartbeats 4000000 in
set_option maxRecDepth 100000 in
theorem s_X12_is (l : Launch) (G : Gx)  (p0 : Int32) (p1 : Int32) (p2 : Int32) (hp1 : ((0 : Int) ≤ p1.toInt ∧ p1.toInt ≤ (1 : Int))) (hp2 : ((-1 : Int) ≤ p2.toInt ∧ p2.toInt ≤ (2000 : Int))) : CtI (S := Unit) l yX12_is cX12_is 3 (some .boolean) (rmD 1 0 0) G [.int p0, .int p1, .int p2] [] (fun r _ => ((0 : Int) ≤ r.toInt ∧ r.toInt ≤ (1 : Int)) ∧ (r.toInt = 1 → (p1.toInt ≤ p0.toInt ∧ p0.toInt ≤ p2.toInt))) (fun _ => []) := by
  refine ctI_of (own := RX12) (by decide +kernel) rfl (Nat.le_of_ble_eq_true rfl) ?_
  intro p e s m below meth c A ls F hr hlk hnm hK hP hD hA hS hl
  have hx := F.1
  have hb := F.2.1
  have hown := F.2.2.2.1
  have hl : lv_has ls 3 [(0, .int p0), (1, .int p1), (2, .int p2)] := hl
  obtain ⟨Q, hQ⟩ : ∃ Q : State → Prop, Q = MQ below (va_Qi (S := Unit) (fun r _ => ((0 : Int) ≤ r.toInt ∧ r.toInt ≤ (1 : Int)) ∧ (r.toInt = 1 → (p1.toInt ≤ p0.toInt ∧ p0.toInt ≤ p2.toInt))) (BX G A (fun _ => [])) A) [.int p0, .int p1, .int p2].toArray s 0 0 A := ⟨_, rfl⟩
  rw [show (MQ below (va_Qi (S := Unit) (fun r _ => ((0 : Int) ≤ r.toInt ∧ r.toInt ≤ (1 : Int)) ∧ (r.toInt = 1 → (p1.toInt ≤ p0.toInt ∧ p0.toInt ≤ p2.toInt))) (BX G A (fun _ => [])) A) [.int p0, .int p1, .int p2].toArray s (rmD 1 0 0).cells (rmD 1 0 0).slots A) = Q from hQ.symm]
  refine lv_iload_n hx hb dX12_is_0 rfl (lv_at hl 0 rfl) ?_
  refine lv_iload_n hx hb dX12_is_1 rfl (lv_at hl 1 rfl) ?_
  refine lv_icmp_lt (tgt := 14) hx hb dX12_is_2 (by decide) (fun c1 => ?_) (fun c1 => ?_)
  · have gc1 : p0.toInt < p1.toInt := (tlt _ _).mp c1
    refine lv_iconst (v := 0) hx hb dX12_is_14 (by decide) ?_
    rw [hQ]
    exact q_z F hr hlk () hP hD hS ⟨(show ((0 : Int) ≤ 0 ∧ 0 ≤ (1 : Int)) from by omega), (show (0 = 1 → (p1.toInt ≤ p0.toInt ∧ p0.toInt ≤ p2.toInt)) from by omega)⟩ dX12_is_15 (Nat.le_of_ble_eq_true rfl) (Nat.le_of_ble_eq_true rfl) (nar01 (by decide))
  · have gc1 : ¬ (p0.toInt < p1.toInt) := fun q0 => c1 ((tlt _ _).mpr q0)
    refine lv_iload_n hx hb dX12_is_5 rfl (lv_at hl 0 rfl) ?_
    refine lv_iload_n hx hb dX12_is_6 rfl (lv_at hl 2 rfl) ?_
    refine lv_icmp_gt (tgt := 14) hx hb dX12_is_7 (by decide) (fun c2 => ?_) (fun c2 => ?_)
    · have gc2 : p2.toInt < p0.toInt := (tlt _ _).mp c2
      refine lv_iconst (v := 0) hx hb dX12_is_14 (by decide) ?_
      rw [hQ]
      exact q_z F hr hlk () hP hD hS ⟨(show ((0 : Int) ≤ 0 ∧ 0 ≤ (1 : Int)) from by omega), (show (0 = 1 → (p1.toInt ≤ p0.toInt ∧ p0.toInt ≤ p2.toInt)) from by omega)⟩ dX12_is_15 (Nat.le_of_ble_eq_true rfl) (Nat.le_of_ble_eq_true rfl) (nar01 (by decide))
    · have gc2 : ¬ (p2.toInt < p0.toInt) := fun q0 => c2 ((tlt _ _).mpr q0)
      refine lv_iconst (v := 1) hx hb dX12_is_10 (by decide) ?_
      refine lv_goto (tgt := 15) hx hb dX12_is_11 (by decide) ?_
      rw [hQ]
      exact q_z F hr hlk () hP hD hS ⟨(show ((0 : Int) ≤ 1 ∧ 1 ≤ (1 : Int)) from by omega), (show (1 = 1 → (p1.toInt ≤ p0.toInt ∧ p0.toInt ≤ p2.toInt)) from by omega)⟩ dX12_is_15 (Nat.le_of_ble_eq_true rfl) (Nat.le_of_ble_eq_true rfl) (nar01 (by decide))
set_option maxHeartbeats 4000000 in
set_option maxRecDepth 100000 in
theorem s_X12_isPerson (l : Launch) (G : Gx) (g q : Nat → Nat) (I0 : Nat → Int32) (J0 : Nat → Int64) (R0 : Nat → Nat → Int32) (L0 : Nat → Nat → Int64) (hvI : InvI Wm_lo Wm_hi I0) (hvR : InvR Wm_rl R0)  (p1 : Int32)  : CtI (S := Unit) l yX12_isPerson cX12_isPerson 2 (some .boolean) (rmD 2 0 0) G [.ref (g 45), .int p1] (Wm G g q I0 J0 R0 L0) (fun r _ => ((0 : Int) ≤ r.toInt ∧ r.toInt ≤ (1 : Int)) ∧ (r.toInt = 1 → (0 ≤ p1.toInt ∧ p1.toInt ≤ 11))) (fun _ => (Wm G g q I0 J0 R0 L0)) := by
  refine ctI_of (own := RX12) (by decide +kernel) rfl (Nat.le_of_ble_eq_true rfl) ?_
  intro p e s m below meth c A ls F hr hlk hnm hK hP hD hA hS hl
  have hx := F.1
  have hb := F.2.1
  have hown := F.2.2.2.1
  have hl : lv_has ls 2 [(0, .ref (g 45)), (1, .int p1)] := hl
  obtain ⟨Q, hQ⟩ : ∃ Q : State → Prop, Q = MQ below (va_Qi (S := Unit) (fun r _ => ((0 : Int) ≤ r.toInt ∧ r.toInt ≤ (1 : Int)) ∧ (r.toInt = 1 → (0 ≤ p1.toInt ∧ p1.toInt ≤ 11))) (BX G A (fun _ => (Wm G g q I0 J0 R0 L0))) A) [.ref (g 45), .int p1].toArray s 0 0 A := ⟨_, rfl⟩
  rw [show (MQ below (va_Qi (S := Unit) (fun r _ => ((0 : Int) ≤ r.toInt ∧ r.toInt ≤ (1 : Int)) ∧ (r.toInt = 1 → (0 ≤ p1.toInt ∧ p1.toInt ≤ 11))) (BX G A (fun _ => (Wm G g q I0 J0 R0 L0))) A) [.ref (g 45), .int p1].toArray s (rmD 2 0 0).cells (rmD 2 0 0).slots A) = Q from hQ.symm]
  have hvI0 := hvI
  refine lv_iload_n hx hb dX12_isPerson_0 rfl (lv_at hl 1 rfl) ?_
  refine lv_iconst (v := 0) hx hb dX12_isPerson_1 (by decide) ?_
  refine lv_aload_n hx hb dX12_isPerson_2 rfl (lv_at hl 0 rfl) ?_
  refine g_get F hK hP 0 (Wm_at0 G g q I0 J0 R0 L0) clX12 21 (by decide) flX12_77 rfl dX12_isPerson_3 ?_
  refine lv_aload_n hx hb dX12_isPerson_6 rfl (lv_at hl 0 rfl) ?_
  refine g_get F hK hP 0 (Wm_at0 G g q I0 J0 R0 L0) clX12 12 (by decide) flX12_48 rfl dX12_isPerson_7 ?_
  have w_I0_10 := rg (hvI0 10 (by decide)) (0) (1) rfl rfl
  refine g_iald F hK hP 10 (Wm_at10 G g q I0 J0 R0 L0) (in_of (by omega)) dX12_isPerson_10 rfl ?_
  refine lv_topi (fun x1 ex1 => ?_)
  have gx1 : x1.toInt = (R0 7 (Int32.toNatClampNeg (I0 10))).toInt := congrArg Int32.toInt (ex1)
  have fx1 : ((0 : Int) ≤ x1.toInt ∧ x1.toInt ≤ (12 : Int)) := by rw [ex1]; exact hvR 7 (by decide) _ (clamp_lt (n := 2) (in_of (by omega)))
  refine lv_iconst (v := 1) hx hb dX12_isPerson_11 (by decide) ?_
  refine lv_isub hx hb dX12_isPerson_12 ?_
  refine lv_topi (fun x2 ex2 => ?_)
  have fx2 : x2.toInt = x1.toInt - 1 := by rw [ex2]; exact t_sub (by show (-2147483648 : Int) ≤ x1.toInt - 1; omega) (by show x1.toInt - 1 ≤ 2147483647; omega)
  refine w0i (As := [.int p1, .int 0, .int x2]) (rest := []) (d := 1) F hK hP hD hS hA (s_X12_is l G  p1 0 x2 (by decide) (show ((-1 : Int) ≤ x2.toInt ∧ x2.toInt ≤ (2000 : Int)) from by omega)) kmS_X12_is mlX12_316 ⟨(Nat.le_of_ble_eq_true rfl), (Nat.le_of_ble_eq_true rfl)⟩ hl.1 rfl (Nat.le_of_ble_eq_true rfl) dX12_isPerson_13 (fun r3 u4 H locs hwr3 hP hD hS => ?_)
  obtain ⟨F0r3, F1r3⟩ := hwr3
  replace F0r3 : ((0 : Int) ≤ r3.toInt ∧ r3.toInt ≤ (1 : Int)) := F0r3
  replace F1r3 : (r3.toInt = 1 → ((0 : Int) ≤ p1.toInt ∧ p1.toInt ≤ x2.toInt)) := F1r3
  rw [hQ]
  exact q_z F hr hlk () hP hD hS ⟨(show ((0 : Int) ≤ r3.toInt ∧ r3.toInt ≤ (1 : Int)) from by omega), (show (r3.toInt = 1 → (0 ≤ p1.toInt ∧ p1.toInt ≤ 11)) from by omega)⟩ dX12_isPerson_16 (Nat.le_of_ble_eq_true rfl) (Nat.le_of_ble_eq_true rfl) (nar01 (show ((0 : Int) ≤ r3.toInt ∧ r3.toInt ≤ (1 : Int)) from by omega))
set_option maxHeartbeats 4000000 in
set_option maxRecDepth 100000 in
theorem s_X12_isOwn (l : Launch) (G : Gx) (g q : Nat → Nat) (I0 : Nat → Int32) (J0 : Nat → Int64) (R0 : Nat → Nat → Int32) (L0 : Nat → Nat → Int64) (hvI : InvI Wm_lo Wm_hi I0) (hvR : InvR Wm_rl R0)  (p1 : Int64)  : CtI (S := Unit) l yX12_isOwn cX12_isOwn 3 (some .boolean) (rmD 1 0 0) G [.ref (g 45), .long p1] (Wm G g q I0 J0 R0 L0) (fun r _ => ((0 : Int) ≤ r.toInt ∧ r.toInt ≤ (1 : Int))) (fun _ => (Wm G g q I0 J0 R0 L0)) := by
  refine ctI_of (own := RX12) (by decide +kernel) rfl (Nat.le_of_ble_eq_true rfl) ?_
  intro p e s m below meth c A ls F hr hlk hnm hK hP hD hA hS hl
  have hx := F.1
  have hb := F.2.1
  have hown := F.2.2.2.1
  have hl : lv_has ls 3 [(0, .ref (g 45)), (1, .long p1)] := hl
  obtain ⟨Q, hQ⟩ : ∃ Q : State → Prop, Q = MQ below (va_Qi (S := Unit) (fun r _ => ((0 : Int) ≤ r.toInt ∧ r.toInt ≤ (1 : Int))) (BX G A (fun _ => (Wm G g q I0 J0 R0 L0))) A) [.ref (g 45), .long p1].toArray s 0 0 A := ⟨_, rfl⟩
  rw [show (MQ below (va_Qi (S := Unit) (fun r _ => ((0 : Int) ≤ r.toInt ∧ r.toInt ≤ (1 : Int))) (BX G A (fun _ => (Wm G g q I0 J0 R0 L0))) A) [.ref (g 45), .long p1].toArray s (rmD 1 0 0).cells (rmD 1 0 0).slots A) = Q from hQ.symm]
  have hvI0 := hvI
  refine lv_lload_n hx hb dX12_isOwn_0 rfl (lv_at hl 1 rfl) ?_
  refine lv_ldc2 hx hb hown (F.2.2.2.2 _ clX12_250) dX12_isOwn_1 ?_
  refine W.lcmp hx hb dX12_isOwn_4 ?_
  refine lv_topi (fun x1 ex1 => ?_)
  refine lv_if_eq (tgt := 40) hx hb dX12_isOwn_5 (by decide) (fun c2 => ?_) (fun c2 => ?_)
  · have gc2 : x1.toInt = 0 := congrArg Int32.toInt c2
    refine lv_iconst (v := 1) hx hb dX12_isOwn_40 (by decide) ?_
    rw [hQ]
    exact q_z F hr hlk () hP hD hS (show ((0 : Int) ≤ 1 ∧ 1 ≤ (1 : Int)) from by omega) dX12_isOwn_41 (Nat.le_of_ble_eq_true rfl) (Nat.le_of_ble_eq_true rfl) (nar01 (by decide))
  · have gc2 : ¬ (x1.toInt = 0) := fun q0 => c2 (Int32.toInt_inj.mp q0)
    have nc2 : ¬ p1 = 439905906546 := fun q0 => c2 (by rw [ex1, q0]; exact lcmp_s _)
    refine lv_lload_n hx hb dX12_isOwn_8 rfl (lv_at hl 1 rfl) ?_
    refine lv_ldc2 hx hb hown (F.2.2.2.2 _ clX12_252) dX12_isOwn_9 ?_
    refine W.lcmp hx hb dX12_isOwn_12 ?_
    refine lv_topi (fun x3 ex3 => ?_)
    refine lv_if_eq (tgt := 40) hx hb dX12_isOwn_13 (by decide) (fun c4 => ?_) (fun c4 => ?_)
    · have gc4 : x3.toInt = 0 := congrArg Int32.toInt c4
      refine lv_iconst (v := 1) hx hb dX12_isOwn_40 (by decide) ?_
      rw [hQ]
      exact q_z F hr hlk () hP hD hS (show ((0 : Int) ≤ 1 ∧ 1 ≤ (1 : Int)) from by omega) dX12_isOwn_41 (Nat.le_of_ble_eq_true rfl) (Nat.le_of_ble_eq_true rfl) (nar01 (by decide))
    · have gc4 : ¬ (x3.toInt = 0) := fun q0 => c4 (Int32.toInt_inj.mp q0)
      have nc4 : ¬ p1 = 431198792563 := fun q0 => c4 (by rw [ex3, q0]; exact lcmp_s _)
      refine lv_lload_n hx hb dX12_isOwn_16 rfl (lv_at hl 1 rfl) ?_
      refine lv_ldc2 hx hb hown (F.2.2.2.2 _ clX12_254) dX12_isOwn_17 ?_
      refine W.lcmp hx hb dX12_isOwn_20 ?_
      refine lv_topi (fun x5 ex5 => ?_)
      refine lv_if_eq (tgt := 40) hx hb dX12_isOwn_21 (by decide) (fun c6 => ?_) (fun c6 => ?_)
      · have gc6 : x5.toInt = 0 := congrArg Int32.toInt c6
        refine lv_iconst (v := 1) hx hb dX12_isOwn_40 (by decide) ?_
        rw [hQ]
        exact q_z F hr hlk () hP hD hS (show ((0 : Int) ≤ 1 ∧ 1 ≤ (1 : Int)) from by omega) dX12_isOwn_41 (Nat.le_of_ble_eq_true rfl) (Nat.le_of_ble_eq_true rfl) (nar01 (by decide))
      · have gc6 : ¬ (x5.toInt = 0) := fun q0 => c6 (Int32.toInt_inj.mp q0)
        have nc6 : ¬ p1 = 474315584357 := fun q0 => c6 (by rw [ex5, q0]; exact lcmp_s _)
        refine lv_lload_n hx hb dX12_isOwn_24 rfl (lv_at hl 1 rfl) ?_
        refine lv_ldc2 hx hb hown (F.2.2.2.2 _ clX12_256) dX12_isOwn_25 ?_
        refine W.lcmp hx hb dX12_isOwn_28 ?_
        refine lv_topi (fun x7 ex7 => ?_)
        refine lv_if_eq (tgt := 40) hx hb dX12_isOwn_29 (by decide) (fun c8 => ?_) (fun c8 => ?_)
        · have gc8 : x7.toInt = 0 := congrArg Int32.toInt c8
          refine lv_iconst (v := 1) hx hb dX12_isOwn_40 (by decide) ?_
          rw [hQ]
          exact q_z F hr hlk () hP hD hS (show ((0 : Int) ≤ 1 ∧ 1 ≤ (1 : Int)) from by omega) dX12_isOwn_41 (Nat.le_of_ble_eq_true rfl) (Nat.le_of_ble_eq_true rfl) (nar01 (by decide))
        · have gc8 : ¬ (x7.toInt = 0) := fun q0 => c8 (Int32.toInt_inj.mp q0)
          have nc8 : ¬ p1 = 1668248436 := fun q0 => c8 (by rw [ex7, q0]; exact lcmp_s _)
          refine lv_lload_n hx hb dX12_isOwn_32 rfl (lv_at hl 1 rfl) ?_
          refine lv_ldc2 hx hb hown (F.2.2.2.2 _ clX12_258) dX12_isOwn_33 ?_
          refine W.lcmp hx hb dX12_isOwn_36 ?_
          refine lv_topi (fun x9 ex9 => ?_)
          refine lv_if_ne (tgt := 42) hx hb dX12_isOwn_37 (by decide) (fun c10 => ?_) (fun c10 => ?_)
          · have gc10 : ¬ (x9.toInt = 0) := fun q0 => c10 (Int32.toInt_inj.mp q0)
            have nc10 : ¬ p1 = 1952801133 := fun q0 => c10 (by rw [ex9, q0]; exact lcmp_s _)
            refine lv_lload_n hx hb dX12_isOwn_42 rfl (lv_at hl 1 rfl) ?_
            refine lv_ldc2 hx hb hown (F.2.2.2.2 _ clX12_260) dX12_isOwn_43 ?_
            refine W.lcmp hx hb dX12_isOwn_46 ?_
            refine lv_topi (fun x11 ex11 => ?_)
            refine lv_if_eq (tgt := 82) hx hb dX12_isOwn_47 (by decide) (fun c12 => ?_) (fun c12 => ?_)
            · have gc12 : x11.toInt = 0 := congrArg Int32.toInt c12
              refine lv_iconst (v := 1) hx hb dX12_isOwn_82 (by decide) ?_
              rw [hQ]
              exact q_z F hr hlk () hP hD hS (show ((0 : Int) ≤ 1 ∧ 1 ≤ (1 : Int)) from by omega) dX12_isOwn_83 (Nat.le_of_ble_eq_true rfl) (Nat.le_of_ble_eq_true rfl) (nar01 (by decide))
            · have gc12 : ¬ (x11.toInt = 0) := fun q0 => c12 (Int32.toInt_inj.mp q0)
              have nc12 : ¬ p1 = 123581014175598 := fun q0 => c12 (by rw [ex11, q0]; exact lcmp_s _)
              refine lv_lload_n hx hb dX12_isOwn_50 rfl (lv_at hl 1 rfl) ?_
              refine lv_ldc2 hx hb hown (F.2.2.2.2 _ clX12_262) dX12_isOwn_51 ?_
              refine W.lcmp hx hb dX12_isOwn_54 ?_
              refine lv_topi (fun x13 ex13 => ?_)
              refine lv_if_eq (tgt := 82) hx hb dX12_isOwn_55 (by decide) (fun c14 => ?_) (fun c14 => ?_)
              · have gc14 : x13.toInt = 0 := congrArg Int32.toInt c14
                refine lv_iconst (v := 1) hx hb dX12_isOwn_82 (by decide) ?_
                rw [hQ]
                exact q_z F hr hlk () hP hD hS (show ((0 : Int) ≤ 1 ∧ 1 ≤ (1 : Int)) from by omega) dX12_isOwn_83 (Nat.le_of_ble_eq_true rfl) (Nat.le_of_ble_eq_true rfl) (nar01 (by decide))
              · have gc14 : ¬ (x13.toInt = 0) := fun q0 => c14 (Int32.toInt_inj.mp q0)
                have nc14 : ¬ p1 = 1684109683 := fun q0 => c14 (by rw [ex13, q0]; exact lcmp_s _)
                refine lv_lload_n hx hb dX12_isOwn_58 rfl (lv_at hl 1 rfl) ?_
                refine lv_ldc2 hx hb hown (F.2.2.2.2 _ clX12_264) dX12_isOwn_59 ?_
                refine W.lcmp hx hb dX12_isOwn_62 ?_
                refine lv_topi (fun x15 ex15 => ?_)
                refine lv_if_eq (tgt := 82) hx hb dX12_isOwn_63 (by decide) (fun c16 => ?_) (fun c16 => ?_)
                · have gc16 : x15.toInt = 0 := congrArg Int32.toInt c16
                  refine lv_iconst (v := 1) hx hb dX12_isOwn_82 (by decide) ?_
                  rw [hQ]
                  exact q_z F hr hlk () hP hD hS (show ((0 : Int) ≤ 1 ∧ 1 ≤ (1 : Int)) from by omega) dX12_isOwn_83 (Nat.le_of_ble_eq_true rfl) (Nat.le_of_ble_eq_true rfl) (nar01 (by decide))
                · have gc16 : ¬ (x15.toInt = 0) := fun q0 => c16 (Int32.toInt_inj.mp q0)
                  have nc16 : ¬ p1 = 109270115708788 := fun q0 => c16 (by rw [ex15, q0]; exact lcmp_s _)
                  refine lv_lload_n hx hb dX12_isOwn_66 rfl (lv_at hl 1 rfl) ?_
                  refine lv_ldc2 hx hb hown (F.2.2.2.2 _ clX12_266) dX12_isOwn_67 ?_
                  refine W.lcmp hx hb dX12_isOwn_70 ?_
                  refine lv_topi (fun x17 ex17 => ?_)
                  refine lv_if_eq (tgt := 82) hx hb dX12_isOwn_71 (by decide) (fun c18 => ?_) (fun c18 => ?_)
                  · have gc18 : x17.toInt = 0 := congrArg Int32.toInt c18
                    refine lv_iconst (v := 1) hx hb dX12_isOwn_82 (by decide) ?_
                    rw [hQ]
                    exact q_z F hr hlk () hP hD hS (show ((0 : Int) ≤ 1 ∧ 1 ≤ (1 : Int)) from by omega) dX12_isOwn_83 (Nat.le_of_ble_eq_true rfl) (Nat.le_of_ble_eq_true rfl) (nar01 (by decide))
                  · have gc18 : ¬ (x17.toInt = 0) := fun q0 => c18 (Int32.toInt_inj.mp q0)
                    have nc18 : ¬ p1 = 465625113971 := fun q0 => c18 (by rw [ex17, q0]; exact lcmp_s _)
                    refine lv_lload_n hx hb dX12_isOwn_74 rfl (lv_at hl 1 rfl) ?_
                    refine lv_ldc2 hx hb hown (F.2.2.2.2 _ clX12_268) dX12_isOwn_75 ?_
                    refine W.lcmp hx hb dX12_isOwn_78 ?_
                    refine lv_topi (fun x19 ex19 => ?_)
                    refine lv_if_ne (tgt := 84) hx hb dX12_isOwn_79 (by decide) (fun c20 => ?_) (fun c20 => ?_)
                    · have gc20 : ¬ (x19.toInt = 0) := fun q0 => c20 (Int32.toInt_inj.mp q0)
                      have nc20 : ¬ p1 = 7629157 := fun q0 => c20 (by rw [ex19, q0]; exact lcmp_s _)
                      refine lv_lload_n hx hb dX12_isOwn_84 rfl (lv_at hl 1 rfl) ?_
                      refine lv_ldc2 hx hb hown (F.2.2.2.2 _ clX12_270) dX12_isOwn_85 ?_
                      refine W.lcmp hx hb dX12_isOwn_88 ?_
                      refine lv_topi (fun x21 ex21 => ?_)
                      refine lv_if_eq (tgt := 124) hx hb dX12_isOwn_89 (by decide) (fun c22 => ?_) (fun c22 => ?_)
                      · have gc22 : x21.toInt = 0 := congrArg Int32.toInt c22
                        refine lv_iconst (v := 1) hx hb dX12_isOwn_124 (by decide) ?_
                        rw [hQ]
                        exact q_z F hr hlk () hP hD hS (show ((0 : Int) ≤ 1 ∧ 1 ≤ (1 : Int)) from by omega) dX12_isOwn_125 (Nat.le_of_ble_eq_true rfl) (Nat.le_of_ble_eq_true rfl) (nar01 (by decide))
                      · have gc22 : ¬ (x21.toInt = 0) := fun q0 => c22 (Int32.toInt_inj.mp q0)
                        have nc22 : ¬ p1 = 427071202675 := fun q0 => c22 (by rw [ex21, q0]; exact lcmp_s _)
                        refine lv_lload_n hx hb dX12_isOwn_92 rfl (lv_at hl 1 rfl) ?_
                        refine lv_ldc2 hx hb hown (F.2.2.2.2 _ clX12_272) dX12_isOwn_93 ?_
                        refine W.lcmp hx hb dX12_isOwn_96 ?_
                        refine lv_topi (fun x23 ex23 => ?_)
                        refine lv_if_eq (tgt := 124) hx hb dX12_isOwn_97 (by decide) (fun c24 => ?_) (fun c24 => ?_)
                        · have gc24 : x23.toInt = 0 := congrArg Int32.toInt c24
                          refine lv_iconst (v := 1) hx hb dX12_isOwn_124 (by decide) ?_
                          rw [hQ]
                          exact q_z F hr hlk () hP hD hS (show ((0 : Int) ≤ 1 ∧ 1 ≤ (1 : Int)) from by omega) dX12_isOwn_125 (Nat.le_of_ble_eq_true rfl) (Nat.le_of_ble_eq_true rfl) (nar01 (by decide))
                        · have gc24 : ¬ (x23.toInt = 0) := fun q0 => c24 (Int32.toInt_inj.mp q0)
                          have nc24 : ¬ p1 = 508575312244 := fun q0 => c24 (by rw [ex23, q0]; exact lcmp_s _)
                          refine lv_lload_n hx hb dX12_isOwn_100 rfl (lv_at hl 1 rfl) ?_
                          refine lv_ldc2 hx hb hown (F.2.2.2.2 _ clX12_274) dX12_isOwn_101 ?_
                          refine W.lcmp hx hb dX12_isOwn_104 ?_
                          refine lv_topi (fun x25 ex25 => ?_)
                          refine lv_if_eq (tgt := 124) hx hb dX12_isOwn_105 (by decide) (fun c26 => ?_) (fun c26 => ?_)
                          · have gc26 : x25.toInt = 0 := congrArg Int32.toInt c26
                            refine lv_iconst (v := 1) hx hb dX12_isOwn_124 (by decide) ?_
                            rw [hQ]
                            exact q_z F hr hlk () hP hD hS (show ((0 : Int) ≤ 1 ∧ 1 ≤ (1 : Int)) from by omega) dX12_isOwn_125 (Nat.le_of_ble_eq_true rfl) (Nat.le_of_ble_eq_true rfl) (nar01 (by decide))
                          · have gc26 : ¬ (x25.toInt = 0) := fun q0 => c26 (Int32.toInt_inj.mp q0)
                            have nc26 : ¬ p1 = 7305070 := fun q0 => c26 (by rw [ex25, q0]; exact lcmp_s _)
                            refine lv_lload_n hx hb dX12_isOwn_108 rfl (lv_at hl 1 rfl) ?_
                            refine lv_ldc2 hx hb hown (F.2.2.2.2 _ clX12_276) dX12_isOwn_109 ?_
                            refine W.lcmp hx hb dX12_isOwn_112 ?_
                            refine lv_topi (fun x27 ex27 => ?_)
                            refine lv_if_eq (tgt := 124) hx hb dX12_isOwn_113 (by decide) (fun c28 => ?_) (fun c28 => ?_)
                            · have gc28 : x27.toInt = 0 := congrArg Int32.toInt c28
                              refine lv_iconst (v := 1) hx hb dX12_isOwn_124 (by decide) ?_
                              rw [hQ]
                              exact q_z F hr hlk () hP hD hS (show ((0 : Int) ≤ 1 ∧ 1 ≤ (1 : Int)) from by omega) dX12_isOwn_125 (Nat.le_of_ble_eq_true rfl) (Nat.le_of_ble_eq_true rfl) (nar01 (by decide))
                            · have gc28 : ¬ (x27.toInt = 0) := fun q0 => c28 (Int32.toInt_inj.mp q0)
                              have nc28 : ¬ p1 = 1835361652 := fun q0 => c28 (by rw [ex27, q0]; exact lcmp_s _)
                              refine lv_lload_n hx hb dX12_isOwn_116 rfl (lv_at hl 1 rfl) ?_
                              refine lv_ldc2 hx hb hown (F.2.2.2.2 _ clX12_278) dX12_isOwn_117 ?_
                              refine W.lcmp hx hb dX12_isOwn_120 ?_
                              refine lv_topi (fun x29 ex29 => ?_)
                              refine lv_if_ne (tgt := 126) hx hb dX12_isOwn_121 (by decide) (fun c30 => ?_) (fun c30 => ?_)
                              · have gc30 : ¬ (x29.toInt = 0) := fun q0 => c30 (Int32.toInt_inj.mp q0)
                                have nc30 : ¬ p1 = 500186639987 := fun q0 => c30 (by rw [ex29, q0]; exact lcmp_s _)
                                refine lv_lload_n hx hb dX12_isOwn_126 rfl (lv_at hl 1 rfl) ?_
                                refine lv_ldc2 hx hb hown (F.2.2.2.2 _ clX12_280) dX12_isOwn_127 ?_
                                refine W.lcmp hx hb dX12_isOwn_130 ?_
                                refine lv_topi (fun x31 ex31 => ?_)
                                refine lv_if_eq (tgt := 166) hx hb dX12_isOwn_131 (by decide) (fun c32 => ?_) (fun c32 => ?_)
                                · have gc32 : x31.toInt = 0 := congrArg Int32.toInt c32
                                  refine lv_iconst (v := 1) hx hb dX12_isOwn_166 (by decide) ?_
                                  rw [hQ]
                                  exact q_z F hr hlk () hP hD hS (show ((0 : Int) ≤ 1 ∧ 1 ≤ (1 : Int)) from by omega) dX12_isOwn_167 (Nat.le_of_ble_eq_true rfl) (Nat.le_of_ble_eq_true rfl) (nar01 (by decide))
                                · have gc32 : ¬ (x31.toInt = 0) := fun q0 => c32 (Int32.toInt_inj.mp q0)
                                  have nc32 : ¬ p1 = 495873781348 := fun q0 => c32 (by rw [ex31, q0]; exact lcmp_s _)
                                  refine lv_lload_n hx hb dX12_isOwn_134 rfl (lv_at hl 1 rfl) ?_
                                  refine lv_ldc2 hx hb hown (F.2.2.2.2 _ clX12_282) dX12_isOwn_135 ?_
                                  refine W.lcmp hx hb dX12_isOwn_138 ?_
                                  refine lv_topi (fun x33 ex33 => ?_)
                                  refine lv_if_eq (tgt := 166) hx hb dX12_isOwn_139 (by decide) (fun c34 => ?_) (fun c34 => ?_)
                                  · have gc34 : x33.toInt = 0 := congrArg Int32.toInt c34
                                    refine lv_iconst (v := 1) hx hb dX12_isOwn_166 (by decide) ?_
                                    rw [hQ]
                                    exact q_z F hr hlk () hP hD hS (show ((0 : Int) ≤ 1 ∧ 1 ≤ (1 : Int)) from by omega) dX12_isOwn_167 (Nat.le_of_ble_eq_true rfl) (Nat.le_of_ble_eq_true rfl) (nar01 (by decide))
                                  · have gc34 : ¬ (x33.toInt = 0) := fun q0 => c34 (Int32.toInt_inj.mp q0)
                                    have nc34 : ¬ p1 = 512970880104 := fun q0 => c34 (by rw [ex33, q0]; exact lcmp_s _)
                                    refine lv_lload_n hx hb dX12_isOwn_142 rfl (lv_at hl 1 rfl) ?_
                                    refine lv_ldc2 hx hb hown (F.2.2.2.2 _ clX12_284) dX12_isOwn_143 ?_
                                    refine W.lcmp hx hb dX12_isOwn_146 ?_
                                    refine lv_topi (fun x35 ex35 => ?_)
                                    refine lv_if_eq (tgt := 166) hx hb dX12_isOwn_147 (by decide) (fun c36 => ?_) (fun c36 => ?_)
                                    · have gc36 : x35.toInt = 0 := congrArg Int32.toInt c36
                                      refine lv_iconst (v := 1) hx hb dX12_isOwn_166 (by decide) ?_
                                      rw [hQ]
                                      exact q_z F hr hlk () hP hD hS (show ((0 : Int) ≤ 1 ∧ 1 ≤ (1 : Int)) from by omega) dX12_isOwn_167 (Nat.le_of_ble_eq_true rfl) (Nat.le_of_ble_eq_true rfl) (nar01 (by decide))
                                    · have gc36 : ¬ (x35.toInt = 0) := fun q0 => c36 (Int32.toInt_inj.mp q0)
                                      have nc36 : ¬ p1 = 7171950 := fun q0 => c36 (by rw [ex35, q0]; exact lcmp_s _)
                                      refine lv_lload_n hx hb dX12_isOwn_150 rfl (lv_at hl 1 rfl) ?_
                                      refine lv_ldc2 hx hb hown (F.2.2.2.2 _ clX12_286) dX12_isOwn_151 ?_
                                      refine W.lcmp hx hb dX12_isOwn_154 ?_
                                      refine lv_topi (fun x37 ex37 => ?_)
                                      refine lv_if_eq (tgt := 166) hx hb dX12_isOwn_155 (by decide) (fun c38 => ?_) (fun c38 => ?_)
                                      · have gc38 : x37.toInt = 0 := congrArg Int32.toInt c38
                                        refine lv_iconst (v := 1) hx hb dX12_isOwn_166 (by decide) ?_
                                        rw [hQ]
                                        exact q_z F hr hlk () hP hD hS (show ((0 : Int) ≤ 1 ∧ 1 ≤ (1 : Int)) from by omega) dX12_isOwn_167 (Nat.le_of_ble_eq_true rfl) (Nat.le_of_ble_eq_true rfl) (nar01 (by decide))
                                      · have gc38 : ¬ (x37.toInt = 0) := fun q0 => c38 (Int32.toInt_inj.mp q0)
                                        have nc38 : ¬ p1 = 7632229 := fun q0 => c38 (by rw [ex37, q0]; exact lcmp_s _)
                                        refine lv_lload_n hx hb dX12_isOwn_158 rfl (lv_at hl 1 rfl) ?_
                                        refine lv_ldc2 hx hb hown (F.2.2.2.2 _ clX12_288) dX12_isOwn_159 ?_
                                        refine W.lcmp hx hb dX12_isOwn_162 ?_
                                        refine lv_topi (fun x39 ex39 => ?_)
                                        refine lv_if_ne (tgt := 168) hx hb dX12_isOwn_163 (by decide) (fun c40 => ?_) (fun c40 => ?_)
                                        · have gc40 : ¬ (x39.toInt = 0) := fun q0 => c40 (Int32.toInt_inj.mp q0)
                                          have nc40 : ¬ p1 = 7824740 := fun q0 => c40 (by rw [ex39, q0]; exact lcmp_s _)
                                          refine lv_lload_n hx hb dX12_isOwn_168 rfl (lv_at hl 1 rfl) ?_
                                          refine lv_ldc2 hx hb hown (F.2.2.2.2 _ clX12_290) dX12_isOwn_169 ?_
                                          refine W.lcmp hx hb dX12_isOwn_172 ?_
                                          refine lv_topi (fun x41 ex41 => ?_)
                                          refine lv_if_eq (tgt := 208) hx hb dX12_isOwn_173 (by decide) (fun c42 => ?_) (fun c42 => ?_)
                                          · have gc42 : x41.toInt = 0 := congrArg Int32.toInt c42
                                            refine lv_iconst (v := 1) hx hb dX12_isOwn_208 (by decide) ?_
                                            rw [hQ]
                                            exact q_z F hr hlk () hP hD hS (show ((0 : Int) ≤ 1 ∧ 1 ≤ (1 : Int)) from by omega) dX12_isOwn_209 (Nat.le_of_ble_eq_true rfl) (Nat.le_of_ble_eq_true rfl) (nar01 (by decide))
                                          · have gc42 : ¬ (x41.toInt = 0) := fun q0 => c42 (Int32.toInt_inj.mp q0)
                                            have nc42 : ¬ p1 = 7628917 := fun q0 => c42 (by rw [ex41, q0]; exact lcmp_s _)
                                            refine lv_lload_n hx hb dX12_isOwn_176 rfl (lv_at hl 1 rfl) ?_
                                            refine lv_ldc2 hx hb hown (F.2.2.2.2 _ clX12_292) dX12_isOwn_177 ?_
                                            refine W.lcmp hx hb dX12_isOwn_180 ?_
                                            refine lv_topi (fun x43 ex43 => ?_)
                                            refine lv_if_eq (tgt := 208) hx hb dX12_isOwn_181 (by decide) (fun c44 => ?_) (fun c44 => ?_)
                                            · have gc44 : x43.toInt = 0 := congrArg Int32.toInt c44
                                              refine lv_iconst (v := 1) hx hb dX12_isOwn_208 (by decide) ?_
                                              rw [hQ]
                                              exact q_z F hr hlk () hP hD hS (show ((0 : Int) ≤ 1 ∧ 1 ≤ (1 : Int)) from by omega) dX12_isOwn_209 (Nat.le_of_ble_eq_true rfl) (Nat.le_of_ble_eq_true rfl) (nar01 (by decide))
                                            · have gc44 : ¬ (x43.toInt = 0) := fun q0 => c44 (Int32.toInt_inj.mp q0)
                                              have nc44 : ¬ p1 = 6713961 := fun q0 => c44 (by rw [ex43, q0]; exact lcmp_s _)
                                              refine lv_lload_n hx hb dX12_isOwn_184 rfl (lv_at hl 1 rfl) ?_
                                              refine lv_ldc2 hx hb hown (F.2.2.2.2 _ clX12_294) dX12_isOwn_185 ?_
                                              refine W.lcmp hx hb dX12_isOwn_188 ?_
                                              refine lv_topi (fun x45 ex45 => ?_)
                                              refine lv_if_eq (tgt := 208) hx hb dX12_isOwn_189 (by decide) (fun c46 => ?_) (fun c46 => ?_)
                                              · have gc46 : x45.toInt = 0 := congrArg Int32.toInt c46
                                                refine lv_iconst (v := 1) hx hb dX12_isOwn_208 (by decide) ?_
                                                rw [hQ]
                                                exact q_z F hr hlk () hP hD hS (show ((0 : Int) ≤ 1 ∧ 1 ≤ (1 : Int)) from by omega) dX12_isOwn_209 (Nat.le_of_ble_eq_true rfl) (Nat.le_of_ble_eq_true rfl) (nar01 (by decide))
                                              · have gc46 : ¬ (x45.toInt = 0) := fun q0 => c46 (Int32.toInt_inj.mp q0)
                                                have nc46 : ¬ p1 = 2003330414 := fun q0 => c46 (by rw [ex45, q0]; exact lcmp_s _)
                                                refine lv_lload_n hx hb dX12_isOwn_192 rfl (lv_at hl 1 rfl) ?_
                                                refine lv_ldc2 hx hb hown (F.2.2.2.2 _ clX12_296) dX12_isOwn_193 ?_
                                                refine W.lcmp hx hb dX12_isOwn_196 ?_
                                                refine lv_topi (fun x47 ex47 => ?_)
                                                refine lv_if_eq (tgt := 208) hx hb dX12_isOwn_197 (by decide) (fun c48 => ?_) (fun c48 => ?_)
                                                · have gc48 : x47.toInt = 0 := congrArg Int32.toInt c48
                                                  refine lv_iconst (v := 1) hx hb dX12_isOwn_208 (by decide) ?_
                                                  rw [hQ]
                                                  exact q_z F hr hlk () hP hD hS (show ((0 : Int) ≤ 1 ∧ 1 ≤ (1 : Int)) from by omega) dX12_isOwn_209 (Nat.le_of_ble_eq_true rfl) (Nat.le_of_ble_eq_true rfl) (nar01 (by decide))
                                                · have gc48 : ¬ (x47.toInt = 0) := fun q0 => c48 (Int32.toInt_inj.mp q0)
                                                  have nc48 : ¬ p1 = 28530 := fun q0 => c48 (by rw [ex47, q0]; exact lcmp_s _)
                                                  refine lv_lload_n hx hb dX12_isOwn_200 rfl (lv_at hl 1 rfl) ?_
                                                  refine lv_ldc2 hx hb hown (F.2.2.2.2 _ clX12_298) dX12_isOwn_201 ?_
                                                  refine W.lcmp hx hb dX12_isOwn_204 ?_
                                                  refine lv_topi (fun x49 ex49 => ?_)
                                                  refine lv_if_ne (tgt := 210) hx hb dX12_isOwn_205 (by decide) (fun c50 => ?_) (fun c50 => ?_)
                                                  · have gc50 : ¬ (x49.toInt = 0) := fun q0 => c50 (Int32.toInt_inj.mp q0)
                                                    have nc50 : ¬ p1 = 6385252 := fun q0 => c50 (by rw [ex49, q0]; exact lcmp_s _)
                                                    refine lv_lload_n hx hb dX12_isOwn_210 rfl (lv_at hl 1 rfl) ?_
                                                    refine lv_ldc2 hx hb hown (F.2.2.2.2 _ clX12_300) dX12_isOwn_211 ?_
                                                    refine W.lcmp hx hb dX12_isOwn_214 ?_
                                                    refine lv_topi (fun x51 ex51 => ?_)
                                                    refine lv_if_eq (tgt := 250) hx hb dX12_isOwn_215 (by decide) (fun c52 => ?_) (fun c52 => ?_)
                                                    · have gc52 : x51.toInt = 0 := congrArg Int32.toInt c52
                                                      refine lv_iconst (v := 1) hx hb dX12_isOwn_250 (by decide) ?_
                                                      rw [hQ]
                                                      exact q_z F hr hlk () hP hD hS (show ((0 : Int) ≤ 1 ∧ 1 ≤ (1 : Int)) from by omega) dX12_isOwn_251 (Nat.le_of_ble_eq_true rfl) (Nat.le_of_ble_eq_true rfl) (nar01 (by decide))
                                                    · have gc52 : ¬ (x51.toInt = 0) := fun q0 => c52 (Int32.toInt_inj.mp q0)
                                                      have nc52 : ¬ p1 = 7237492 := fun q0 => c52 (by rw [ex51, q0]; exact lcmp_s _)
                                                      refine lv_lload_n hx hb dX12_isOwn_218 rfl (lv_at hl 1 rfl) ?_
                                                      refine lv_ldc2 hx hb hown (F.2.2.2.2 _ clX12_302) dX12_isOwn_219 ?_
                                                      refine W.lcmp hx hb dX12_isOwn_222 ?_
                                                      refine lv_topi (fun x53 ex53 => ?_)
                                                      refine lv_if_eq (tgt := 250) hx hb dX12_isOwn_223 (by decide) (fun c54 => ?_) (fun c54 => ?_)
                                                      · have gc54 : x53.toInt = 0 := congrArg Int32.toInt c54
                                                        refine lv_iconst (v := 1) hx hb dX12_isOwn_250 (by decide) ?_
                                                        rw [hQ]
                                                        exact q_z F hr hlk () hP hD hS (show ((0 : Int) ≤ 1 ∧ 1 ≤ (1 : Int)) from by omega) dX12_isOwn_251 (Nat.le_of_ble_eq_true rfl) (Nat.le_of_ble_eq_true rfl) (nar01 (by decide))
                                                      · have gc54 : ¬ (x53.toInt = 0) := fun q0 => c54 (Int32.toInt_inj.mp q0)
                                                        have nc54 : ¬ p1 = 6384748 := fun q0 => c54 (by rw [ex53, q0]; exact lcmp_s _)
                                                        refine lv_lload_n hx hb dX12_isOwn_226 rfl (lv_at hl 1 rfl) ?_
                                                        refine lv_ldc2 hx hb hown (F.2.2.2.2 _ clX12_304) dX12_isOwn_227 ?_
                                                        refine W.lcmp hx hb dX12_isOwn_230 ?_
                                                        refine lv_topi (fun x55 ex55 => ?_)
                                                        refine lv_if_eq (tgt := 250) hx hb dX12_isOwn_231 (by decide) (fun c56 => ?_) (fun c56 => ?_)
                                                        · have gc56 : x55.toInt = 0 := congrArg Int32.toInt c56
                                                          refine lv_iconst (v := 1) hx hb dX12_isOwn_250 (by decide) ?_
                                                          rw [hQ]
                                                          exact q_z F hr hlk () hP hD hS (show ((0 : Int) ≤ 1 ∧ 1 ≤ (1 : Int)) from by omega) dX12_isOwn_251 (Nat.le_of_ble_eq_true rfl) (Nat.le_of_ble_eq_true rfl) (nar01 (by decide))
                                                        · have gc56 : ¬ (x55.toInt = 0) := fun q0 => c56 (Int32.toInt_inj.mp q0)
                                                          have nc56 : ¬ p1 = 6578553 := fun q0 => c56 (by rw [ex55, q0]; exact lcmp_s _)
                                                          refine lv_lload_n hx hb dX12_isOwn_234 rfl (lv_at hl 1 rfl) ?_
                                                          refine lv_ldc2 hx hb hown (F.2.2.2.2 _ clX12_306) dX12_isOwn_235 ?_
                                                          refine W.lcmp hx hb dX12_isOwn_238 ?_
                                                          refine lv_topi (fun x57 ex57 => ?_)
                                                          refine lv_if_eq (tgt := 250) hx hb dX12_isOwn_239 (by decide) (fun c58 => ?_) (fun c58 => ?_)
                                                          · have gc58 : x57.toInt = 0 := congrArg Int32.toInt c58
                                                            refine lv_iconst (v := 1) hx hb dX12_isOwn_250 (by decide) ?_
                                                            rw [hQ]
                                                            exact q_z F hr hlk () hP hD hS (show ((0 : Int) ≤ 1 ∧ 1 ≤ (1 : Int)) from by omega) dX12_isOwn_251 (Nat.le_of_ble_eq_true rfl) (Nat.le_of_ble_eq_true rfl) (nar01 (by decide))
                                                          · have gc58 : ¬ (x57.toInt = 0) := fun q0 => c58 (Int32.toInt_inj.mp q0)
                                                            have nc58 : ¬ p1 = 1668441463 := fun q0 => c58 (by rw [ex57, q0]; exact lcmp_s _)
                                                            refine lv_lload_n hx hb dX12_isOwn_242 rfl (lv_at hl 1 rfl) ?_
                                                            refine lv_ldc2 hx hb hown (F.2.2.2.2 _ clX12_308) dX12_isOwn_243 ?_
                                                            refine W.lcmp hx hb dX12_isOwn_246 ?_
                                                            refine lv_topi (fun x59 ex59 => ?_)
                                                            refine lv_if_ne (tgt := 252) hx hb dX12_isOwn_247 (by decide) (fun c60 => ?_) (fun c60 => ?_)
                                                            · have gc60 : ¬ (x59.toInt = 0) := fun q0 => c60 (Int32.toInt_inj.mp q0)
                                                              have nc60 : ¬ p1 = 1835101817 := fun q0 => c60 (by rw [ex59, q0]; exact lcmp_s _)
                                                              refine lv_lload_n hx hb dX12_isOwn_252 rfl (lv_at hl 1 rfl) ?_
                                                              refine lv_ldc2 hx hb hown (F.2.2.2.2 _ clX12_310) dX12_isOwn_253 ?_
                                                              refine W.lcmp hx hb dX12_isOwn_256 ?_
                                                              refine lv_topi (fun x61 ex61 => ?_)
                                                              refine lv_if_eq (tgt := 276) hx hb dX12_isOwn_257 (by decide) (fun c62 => ?_) (fun c62 => ?_)
                                                              · have gc62 : x61.toInt = 0 := congrArg Int32.toInt c62
                                                                refine lv_iconst (v := 1) hx hb dX12_isOwn_276 (by decide) ?_
                                                                rw [hQ]
                                                                exact q_z F hr hlk () hP hD hS (show ((0 : Int) ≤ 1 ∧ 1 ≤ (1 : Int)) from by omega) dX12_isOwn_277 (Nat.le_of_ble_eq_true rfl) (Nat.le_of_ble_eq_true rfl) (nar01 (by decide))
                                                              · have gc62 : ¬ (x61.toInt = 0) := fun q0 => c62 (Int32.toInt_inj.mp q0)
                                                                have nc62 : ¬ p1 = 1919905645 := fun q0 => c62 (by rw [ex61, q0]; exact lcmp_s _)
                                                                refine lv_lload_n hx hb dX12_isOwn_260 rfl (lv_at hl 1 rfl) ?_
                                                                refine lv_ldc2 hx hb hown (F.2.2.2.2 _ clX12_312) dX12_isOwn_261 ?_
                                                                refine W.lcmp hx hb dX12_isOwn_264 ?_
                                                                refine lv_topi (fun x63 ex63 => ?_)
                                                                refine lv_if_eq (tgt := 276) hx hb dX12_isOwn_265 (by decide) (fun c64 => ?_) (fun c64 => ?_)
                                                                · have gc64 : x63.toInt = 0 := congrArg Int32.toInt c64
                                                                  refine lv_iconst (v := 1) hx hb dX12_isOwn_276 (by decide) ?_
                                                                  rw [hQ]
                                                                  exact q_z F hr hlk () hP hD hS (show ((0 : Int) ≤ 1 ∧ 1 ≤ (1 : Int)) from by omega) dX12_isOwn_277 (Nat.le_of_ble_eq_true rfl) (Nat.le_of_ble_eq_true rfl) (nar01 (by decide))
                                                                · have gc64 : ¬ (x63.toInt = 0) := fun q0 => c64 (Int32.toInt_inj.mp q0)
                                                                  have nc64 : ¬ p1 = 7170414 := fun q0 => c64 (by rw [ex63, q0]; exact lcmp_s _)
                                                                  refine lv_lload_n hx hb dX12_isOwn_268 rfl (lv_at hl 1 rfl) ?_
                                                                  refine lv_ldc2 hx hb hown (F.2.2.2.2 _ clX12_314) dX12_isOwn_269 ?_
                                                                  refine W.lcmp hx hb dX12_isOwn_272 ?_
                                                                  refine lv_topi (fun x65 ex65 => ?_)
                                                                  refine lv_if_ne (tgt := 278) hx hb dX12_isOwn_273 (by decide) (fun c66 => ?_) (fun c66 => ?_)
                                                                  · have gc66 : ¬ (x65.toInt = 0) := fun q0 => c66 (Int32.toInt_inj.mp q0)
                                                                    have nc66 : ¬ p1 = 7168376 := fun q0 => c66 (by rw [ex65, q0]; exact lcmp_s _)
                                                                    refine lv_iconst (v := 0) hx hb dX12_isOwn_278 (by decide) ?_
                                                                    rw [hQ]
                                                                    exact q_z F hr hlk () hP hD hS (show ((0 : Int) ≤ 0 ∧ 0 ≤ (1 : Int)) from by omega) dX12_isOwn_279 (Nat.le_of_ble_eq_true rfl) (Nat.le_of_ble_eq_true rfl) (nar01 (by decide))
                                                                  · have gc66 : x65.toInt = 0 := congrArg Int32.toInt c66
                                                                    refine lv_iconst (v := 1) hx hb dX12_isOwn_276 (by decide) ?_
                                                                    rw [hQ]
                                                                    exact q_z F hr hlk () hP hD hS (show ((0 : Int) ≤ 1 ∧ 1 ≤ (1 : Int)) from by omega) dX12_isOwn_277 (Nat.le_of_ble_eq_true rfl) (Nat.le_of_ble_eq_true rfl) (nar01 (by decide))
                                                            · have gc60 : x59.toInt = 0 := congrArg Int32.toInt c60
                                                              refine lv_iconst (v := 1) hx hb dX12_isOwn_250 (by decide) ?_
                                                              rw [hQ]
                                                              exact q_z F hr hlk () hP hD hS (show ((0 : Int) ≤ 1 ∧ 1 ≤ (1 : Int)) from by omega) dX12_isOwn_251 (Nat.le_of_ble_eq_true rfl) (Nat.le_of_ble_eq_true rfl) (nar01 (by decide))
                                                  · have gc50 : x49.toInt = 0 := congrArg Int32.toInt c50
                                                    refine lv_iconst (v := 1) hx hb dX12_isOwn_208 (by decide) ?_
                                                    rw [hQ]
                                                    exact q_z F hr hlk () hP hD hS (show ((0 : Int) ≤ 1 ∧ 1 ≤ (1 : Int)) from by omega) dX12_isOwn_209 (Nat.le_of_ble_eq_true rfl) (Nat.le_of_ble_eq_true rfl) (nar01 (by decide))
                                        · have gc40 : x39.toInt = 0 := congrArg Int32.toInt c40
                                          refine lv_iconst (v := 1) hx hb dX12_isOwn_166 (by decide) ?_
                                          rw [hQ]
                                          exact q_z F hr hlk () hP hD hS (show ((0 : Int) ≤ 1 ∧ 1 ≤ (1 : Int)) from by omega) dX12_isOwn_167 (Nat.le_of_ble_eq_true rfl) (Nat.le_of_ble_eq_true rfl) (nar01 (by decide))
                              · have gc30 : x29.toInt = 0 := congrArg Int32.toInt c30
                                refine lv_iconst (v := 1) hx hb dX12_isOwn_124 (by decide) ?_
                                rw [hQ]
                                exact q_z F hr hlk () hP hD hS (show ((0 : Int) ≤ 1 ∧ 1 ≤ (1 : Int)) from by omega) dX12_isOwn_125 (Nat.le_of_ble_eq_true rfl) (Nat.le_of_ble_eq_true rfl) (nar01 (by decide))
                    · have gc20 : x19.toInt = 0 := congrArg Int32.toInt c20
                      refine lv_iconst (v := 1) hx hb dX12_isOwn_82 (by decide) ?_
                      rw [hQ]
                      exact q_z F hr hlk () hP hD hS (show ((0 : Int) ≤ 1 ∧ 1 ≤ (1 : Int)) from by omega) dX12_isOwn_83 (Nat.le_of_ble_eq_true rfl) (Nat.le_of_ble_eq_true rfl) (nar01 (by decide))
          · have gc10 : x9.toInt = 0 := congrArg Int32.toInt c10
            refine lv_iconst (v := 1) hx hb dX12_isOwn_40 (by decide) ?_
            rw [hQ]
            exact q_z F hr hlk () hP hD hS (show ((0 : Int) ≤ 1 ∧ 1 ≤ (1 : Int)) from by omega) dX12_isOwn_41 (Nat.le_of_ble_eq_true rfl) (Nat.le_of_ble_eq_true rfl) (nar01 (by decide))
set_option maxHeartbeats 4000000 in
set_option maxRecDepth 100000 in
theorem s_X12_named (l : Launch) (G : Gx) (g q : Nat → Nat) (I0 : Nat → Int32) (J0 : Nat → Int64) (R0 : Nat → Nat → Int32) (L0 : Nat → Nat → Int64) (hvI : InvI Wm_lo Wm_hi I0) (hvR : InvR Wm_rl R0)  (p1 : Int32) (p2 : Int64) (hp1 : ((0 : Int) ≤ p1.toInt ∧ p1.toInt ≤ (2 : Int))) : CtI (S := Unit) l yX12_named cX12_named 8 (some .int) (rmD 1 0 0) G [.ref (g 45), .int p1, .long p2] (Wm G g q I0 J0 R0 L0) (fun r _ => ((-1 : Int) ≤ r.toInt ∧ r.toInt ≤ (11 : Int)) ∧ (p1.toInt = 0 → r.toInt ≤ 4) ∧ (p1.toInt = 1 → r.toInt ≤ 5)) (fun _ => (Wm G g q I0 J0 R0 L0)) := by
  refine ctI_of (own := RX12) (by decide +kernel) rfl (Nat.le_of_ble_eq_true rfl) ?_
  intro p e s m below meth c A ls F hr hlk hnm hK hP hD hA hS hl
  have hx := F.1
  have hb := F.2.1
  have hown := F.2.2.2.1
  have hl : lv_has ls 8 [(0, .ref (g 45)), (1, .int p1), (2, .long p2)] := hl
  obtain ⟨Q, hQ⟩ : ∃ Q : State → Prop, Q = MQ below (va_Qi (S := Unit) (fun r _ => ((-1 : Int) ≤ r.toInt ∧ r.toInt ≤ (11 : Int)) ∧ (p1.toInt = 0 → r.toInt ≤ 4) ∧ (p1.toInt = 1 → r.toInt ≤ 5)) (BX G A (fun _ => (Wm G g q I0 J0 R0 L0))) A) [.ref (g 45), .int p1, .long p2].toArray s 0 0 A := ⟨_, rfl⟩
  rw [show (MQ below (va_Qi (S := Unit) (fun r _ => ((-1 : Int) ≤ r.toInt ∧ r.toInt ≤ (11 : Int)) ∧ (p1.toInt = 0 → r.toInt ≤ 4) ∧ (p1.toInt = 1 → r.toInt ≤ 5)) (BX G A (fun _ => (Wm G g q I0 J0 R0 L0))) A) [.ref (g 45), .int p1, .long p2].toArray s (rmD 1 0 0).cells (rmD 1 0 0).slots A) = Q from hQ.symm]
  have hvI0 := hvI
  have lab_47 : ∀ (k_47 : Nat) (a4_47 : Int32) (a5_47 : Int32) (H : Heap) (locs : List Loc) (ls : Array Slot), ((12 - a5_47.toInt) < (k_47 : Int)) → ((0 : Int) ≤ a4_47.toInt ∧ a4_47.toInt ≤ (12 : Int)) → ((0 : Int) ≤ a5_47.toInt ∧ a5_47.toInt ≤ (12 : Int)) → (p1.toInt = 0 → a4_47.toInt ≤ 5) → (p1.toInt = 1 → a4_47.toInt ≤ 6) → va_P G.1 vwCl (Wm G g q I0 J0 R0 L0) H → va_D A (Wm G g q I0 J0 R0 L0) → va_S A s.heap H locs → lv_has ls 8 [(0, .ref (g 45)), (1, .int p1), (2, .long p2), (4, .int a4_47), (5, .int a5_47)] → W p l e (rmD 1 0 0) s m [.ref (g 45), .int p1, .long p2].toArray below meth c H locs 0 0 Q (F0 m 47 ls []) := by
    intro k_47
    induction k_47 with
    | zero =>
      intro a4_47 a5_47 H locs ls hm y0_47 y1_47 z0_47 z1_47 hP hD hS hl
      exact absurd hm (by omega)
    | succ k_47 ih_47 =>
      intro a4_47 a5_47 H locs ls hm y0_47 y1_47 z0_47 z1_47 hP hD hS hl
      have lab_113 : ∀ (b0_113 : Int64) (H : Heap) (locs : List Loc) (ls : Array Slot), ((1 : Int) ≤ a4_47.toInt ∧ a4_47.toInt ≤ (12 : Int)) → ((0 : Int) ≤ a5_47.toInt ∧ a5_47.toInt ≤ (11 : Int)) → (p1.toInt = 0 → a5_47.toInt ≤ 4) → (p1.toInt = 1 → a5_47.toInt ≤ 5) → (a5_47.toInt < a4_47.toInt) → va_P G.1 vwCl (Wm G g q I0 J0 R0 L0) H → va_D A (Wm G g q I0 J0 R0 L0) → va_S A s.heap H locs → lv_has ls 8 [(0, .ref (g 45)), (1, .int p1), (2, .long p2), (4, .int a4_47), (5, .int a5_47)] → W p l e (rmD 1 0 0) s m [.ref (g 45), .int p1, .long p2].toArray below meth c H locs 0 0 Q (F0 m 113 ls [.long b0_113]) := by
        intro b0_113 H locs ls y0_113 y1_113 z0_113 z1_113 z2_113 hP hD hS hl
        refine lv_lstore (lv' := [(6, .long b0_113), (0, .ref (g 45)), (1, .int p1), (2, .long p2), (4, .int a4_47), (5, .int a5_47)]) hx hb dX12_named_113 hl (by decide) rfl (fun ls hl => ?_)
        refine lv_lload hx hb dX12_named_115 (lv_at hl 0 rfl) ?_
        refine lv_lload_n hx hb dX12_named_117 rfl (lv_at hl 3 rfl) ?_
        refine W.lcmp hx hb dX12_named_118 ?_
        refine lv_topi (fun x1 ex1 => ?_)
        refine lv_if_ne (tgt := 125) hx hb dX12_named_119 (by decide) (fun c2 => ?_) (fun c2 => ?_)
        · have gc2 : ¬ (x1.toInt = 0) := fun q0 => c2 (Int32.toInt_inj.mp q0)
          have nc2 : ¬ b0_113 = p2 := fun q0 => c2 (by rw [ex1, q0]; exact lcmp_s _)
          obtain ⟨x3, ex3⟩ : ∃ y : Int32, y = a5_47 + 1 := ⟨_, rfl⟩
          have fx3 : x3.toInt = a5_47.toInt + (1 : Int) := by rw [ex3]; exact t_add (by show (-2147483648 : Int) ≤ a5_47.toInt + (1 : Int); omega) (by show a5_47.toInt + (1 : Int) ≤ 2147483647; omega)
          refine lv_iinc (v := x3) (lv' := [(5, .int x3), (6, .long b0_113), (0, .ref (g 45)), (1, .int p1), (2, .long p2), (4, .int a4_47)]) hx hb dX12_named_125 hl (k := 5) rfl (by rw [ex3]; rfl) (by decide) rfl (fun ls hl => ?_)
          refine lv_goto (tgt := 47) hx hb dX12_named_128 (by decide) ?_
          exact ih_47 a4_47 x3 _ _ _ (show (12 - x3.toInt) < (k_47 : Int) from by omega) (show ((0 : Int) ≤ a4_47.toInt ∧ a4_47.toInt ≤ (12 : Int)) from by omega) (show ((0 : Int) ≤ x3.toInt ∧ x3.toInt ≤ (12 : Int)) from by omega) (show (p1.toInt = 0 → a4_47.toInt ≤ 5) from by omega) (show (p1.toInt = 1 → a4_47.toInt ≤ 6) from by omega) hP hD hS (lv_sub hl [2, 3, 4, 5, 0] rfl)
        · have gc2 : x1.toInt = 0 := congrArg Int32.toInt c2
          refine lv_iload hx hb dX12_named_122 (lv_at hl 5 rfl) ?_
          rw [hQ]
          exact q_i F hr hlk () hP hD hS ⟨(show ((-1 : Int) ≤ a5_47.toInt ∧ a5_47.toInt ≤ (11 : Int)) from by omega), (show (p1.toInt = 0 → a5_47.toInt ≤ 4) from by omega), (show (p1.toInt = 1 → a5_47.toInt ≤ 5) from by omega)⟩ dX12_named_124 (Nat.le_of_ble_eq_true rfl) (Nat.le_of_ble_eq_true rfl)
      refine lv_iload hx hb dX12_named_47 (lv_at hl 4 rfl) ?_
      refine lv_iload hx hb dX12_named_49 (lv_at hl 3 rfl) ?_
      refine lv_icmp_ge (tgt := 131) hx hb dX12_named_51 (by decide) (fun c4 => ?_) (fun c4 => ?_)
      · have gc4 : a4_47.toInt ≤ a5_47.toInt := (tle _ _).mp c4
        refine lv_iconst (v := (-1)) hx hb dX12_named_131 (by decide) ?_
        rw [hQ]
        exact q_i F hr hlk () hP hD hS ⟨(show ((-1 : Int) ≤ (-1) ∧ (-1) ≤ (11 : Int)) from by omega), (show (p1.toInt = 0 → (-1) ≤ 4) from by omega), (show (p1.toInt = 1 → (-1) ≤ 5) from by omega)⟩ dX12_named_132 (Nat.le_of_ble_eq_true rfl) (Nat.le_of_ble_eq_true rfl)
      · have gc4 : ¬ (a4_47.toInt ≤ a5_47.toInt) := fun q0 => c4 ((tle _ _).mpr q0)
        refine lv_iload_n hx hb dX12_named_54 rfl (lv_at hl 1 rfl) ?_
        refine lv_if_ne (tgt := 75) hx hb dX12_named_55 (by decide) (fun c5 => ?_) (fun c5 => ?_)
        · have gc5 : ¬ (p1.toInt = 0) := fun q0 => c5 (Int32.toInt_inj.mp q0)
          refine lv_iload_n hx hb dX12_named_75 rfl (lv_at hl 1 rfl) ?_
          refine lv_iconst (v := 1) hx hb dX12_named_76 (by decide) ?_
          refine lv_icmp_ne (tgt := 98) hx hb dX12_named_77 (by decide) (fun c6 => ?_) (fun c6 => ?_)
          · have gc6 : ¬ (p1.toInt = 1) := fun q0 => c6 (Int32.toInt_inj.mp q0)
            refine lv_aload_n hx hb dX12_named_98 rfl (lv_at hl 0 rfl) ?_
            refine g_get F hK hP 0 (Wm_at0 G g q I0 J0 R0 L0) clX12 22 (by decide) flX12_80 rfl dX12_named_99 ?_
            refine lv_bipush (v := 12) hx hb dX12_named_102 (by decide) ?_
            refine lv_aload_n hx hb dX12_named_104 rfl (lv_at hl 0 rfl) ?_
            refine g_get F hK hP 0 (Wm_at0 G g q I0 J0 R0 L0) clX12 44 (by decide) flX12_146 rfl dX12_named_105 ?_
            have w_I0_12 := rg (hvI0 12 (by decide)) (0) (1) rfl rfl
            refine lv_imul hx hb dX12_named_108 ?_
            refine lv_topi (fun x7 ex7 => ?_)
            have fx7 : x7.toInt = 12 * (I0 12).toInt := by rw [ex7]; exact t_mul (by show (-2147483648 : Int) ≤ 12 * (I0 12).toInt; omega) (by show 12 * (I0 12).toInt ≤ 2147483647; omega)
            refine lv_iload hx hb dX12_named_109 (lv_at hl 4 rfl) ?_
            refine lv_iadd hx hb dX12_named_111 ?_
            refine lv_topi (fun x8 ex8 => ?_)
            have fx8 : x8.toInt = x7.toInt + a5_47.toInt := by rw [ex8]; exact t_add (by show (-2147483648 : Int) ≤ x7.toInt + a5_47.toInt; omega) (by show x7.toInt + a5_47.toInt ≤ 2147483647; omega)
            refine g_lald F hK hP 11 (Wm_at11 G g q I0 J0 R0 L0) (in_of (by omega)) dX12_named_112 rfl ?_
            refine lv_topl (fun x9 ex9 => ?_)
            exact lab_113 x9 _ _ _ (show ((1 : Int) ≤ a4_47.toInt ∧ a4_47.toInt ≤ (12 : Int)) from by omega) (show ((0 : Int) ≤ a5_47.toInt ∧ a5_47.toInt ≤ (11 : Int)) from by omega) (show (p1.toInt = 0 → a5_47.toInt ≤ 4) from by omega) (show (p1.toInt = 1 → a5_47.toInt ≤ 5) from by omega) (show (a5_47.toInt < a4_47.toInt) from by omega) hP hD hS (lv_sub hl [0, 1, 2, 3, 4] rfl)
          · have gc6 : p1.toInt = 1 := congrArg Int32.toInt c6
            refine lv_aload_n hx hb dX12_named_80 rfl (lv_at hl 0 rfl) ?_
            refine g_get F hK hP 0 (Wm_at0 G g q I0 J0 R0 L0) clX12 19 (by decide) flX12_70 rfl dX12_named_81 ?_
            refine lv_bipush (v := 6) hx hb dX12_named_84 (by decide) ?_
            refine lv_aload_n hx hb dX12_named_86 rfl (lv_at hl 0 rfl) ?_
            refine g_get F hK hP 0 (Wm_at0 G g q I0 J0 R0 L0) clX12 44 (by decide) flX12_146 rfl dX12_named_87 ?_
            have w_I0_12 := rg (hvI0 12 (by decide)) (0) (1) rfl rfl
            refine lv_imul hx hb dX12_named_90 ?_
            refine lv_topi (fun x10 ex10 => ?_)
            have fx10 : x10.toInt = 6 * (I0 12).toInt := by rw [ex10]; exact t_mul (by show (-2147483648 : Int) ≤ 6 * (I0 12).toInt; omega) (by show 6 * (I0 12).toInt ≤ 2147483647; omega)
            refine lv_iload hx hb dX12_named_91 (lv_at hl 4 rfl) ?_
            refine lv_iadd hx hb dX12_named_93 ?_
            refine lv_topi (fun x11 ex11 => ?_)
            have fx11 : x11.toInt = x10.toInt + a5_47.toInt := by rw [ex11]; exact t_add (by show (-2147483648 : Int) ≤ x10.toInt + a5_47.toInt; omega) (by show x10.toInt + a5_47.toInt ≤ 2147483647; omega)
            refine g_lald F hK hP 8 (Wm_at8 G g q I0 J0 R0 L0) (in_of (by omega)) dX12_named_94 rfl ?_
            refine lv_topl (fun x12 ex12 => ?_)
            refine lv_goto (tgt := 113) hx hb dX12_named_95 (by decide) ?_
            exact lab_113 x12 _ _ _ (show ((1 : Int) ≤ a4_47.toInt ∧ a4_47.toInt ≤ (12 : Int)) from by omega) (show ((0 : Int) ≤ a5_47.toInt ∧ a5_47.toInt ≤ (11 : Int)) from by omega) (show (p1.toInt = 0 → a5_47.toInt ≤ 4) from by omega) (show (p1.toInt = 1 → a5_47.toInt ≤ 5) from by omega) (show (a5_47.toInt < a4_47.toInt) from by omega) hP hD hS (lv_sub hl [0, 1, 2, 3, 4] rfl)
        · have gc5 : p1.toInt = 0 := congrArg Int32.toInt c5
          refine lv_aload_n hx hb dX12_named_58 rfl (lv_at hl 0 rfl) ?_
          refine g_get F hK hP 0 (Wm_at0 G g q I0 J0 R0 L0) clX12 14 (by decide) flX12_54 rfl dX12_named_59 ?_
          refine lv_iconst (v := 5) hx hb dX12_named_62 (by decide) ?_
          refine lv_aload_n hx hb dX12_named_63 rfl (lv_at hl 0 rfl) ?_
          refine g_get F hK hP 0 (Wm_at0 G g q I0 J0 R0 L0) clX12 44 (by decide) flX12_146 rfl dX12_named_64 ?_
          have w_I0_12 := rg (hvI0 12 (by decide)) (0) (1) rfl rfl
          refine lv_imul hx hb dX12_named_67 ?_
          refine lv_topi (fun x13 ex13 => ?_)
          have fx13 : x13.toInt = 5 * (I0 12).toInt := by rw [ex13]; exact t_mul (by show (-2147483648 : Int) ≤ 5 * (I0 12).toInt; omega) (by show 5 * (I0 12).toInt ≤ 2147483647; omega)
          refine lv_iload hx hb dX12_named_68 (lv_at hl 4 rfl) ?_
          refine lv_iadd hx hb dX12_named_70 ?_
          refine lv_topi (fun x14 ex14 => ?_)
          have fx14 : x14.toInt = x13.toInt + a5_47.toInt := by rw [ex14]; exact t_add (by show (-2147483648 : Int) ≤ x13.toInt + a5_47.toInt; omega) (by show x13.toInt + a5_47.toInt ≤ 2147483647; omega)
          refine g_lald F hK hP 3 (Wm_at3 G g q I0 J0 R0 L0) (in_of (by omega)) dX12_named_71 rfl ?_
          refine lv_topl (fun x15 ex15 => ?_)
          refine lv_goto (tgt := 113) hx hb dX12_named_72 (by decide) ?_
          exact lab_113 x15 _ _ _ (show ((1 : Int) ≤ a4_47.toInt ∧ a4_47.toInt ≤ (12 : Int)) from by omega) (show ((0 : Int) ≤ a5_47.toInt ∧ a5_47.toInt ≤ (11 : Int)) from by omega) (show (p1.toInt = 0 → a5_47.toInt ≤ 4) from by omega) (show (p1.toInt = 1 → a5_47.toInt ≤ 5) from by omega) (show (a5_47.toInt < a4_47.toInt) from by omega) hP hD hS (lv_sub hl [0, 1, 2, 3, 4] rfl)
  have lab_42 : ∀ (b0_42 : Int32) (H : Heap) (locs : List Loc) (ls : Array Slot), ((0 : Int) ≤ b0_42.toInt ∧ b0_42.toInt ≤ (12 : Int)) → (p1.toInt = 0 → b0_42.toInt ≤ 5) → (p1.toInt = 1 → b0_42.toInt ≤ 6) → va_P G.1 vwCl (Wm G g q I0 J0 R0 L0) H → va_D A (Wm G g q I0 J0 R0 L0) → va_S A s.heap H locs → lv_has ls 8 [(0, .ref (g 45)), (1, .int p1), (2, .long p2)] → W p l e (rmD 1 0 0) s m [.ref (g 45), .int p1, .long p2].toArray below meth c H locs 0 0 Q (F0 m 42 ls [.int b0_42]) := by
    intro b0_42 H locs ls y0_42 z0_42 z1_42 hP hD hS hl
    refine lv_istore (lv' := [(4, .int b0_42), (0, .ref (g 45)), (1, .int p1), (2, .long p2)]) hx hb dX12_named_42 hl (by decide) rfl (fun ls hl => ?_)
    refine lv_iconst (v := 0) hx hb dX12_named_44 (by decide) ?_
    refine lv_istore (lv' := [(5, .int 0), (4, .int b0_42), (0, .ref (g 45)), (1, .int p1), (2, .long p2)]) hx hb dX12_named_45 hl (by decide) rfl (fun ls hl => ?_)
    exact lab_47 13 b0_42 0 _ _ _ (show (12 - 0) < ((13 : Nat) : Int) from by omega) (show ((0 : Int) ≤ b0_42.toInt ∧ b0_42.toInt ≤ (12 : Int)) from by omega) (by decide) (show (p1.toInt = 0 → b0_42.toInt ≤ 5) from by omega) (show (p1.toInt = 1 → b0_42.toInt ≤ 6) from by omega) hP hD hS (lv_sub hl [2, 3, 4, 1, 0] rfl)
  refine lv_iload_n hx hb dX12_named_0 rfl (lv_at hl 1 rfl) ?_
  refine lv_if_ne (tgt := 16) hx hb dX12_named_1 (by decide) (fun c16 => ?_) (fun c16 => ?_)
  · have gc16 : ¬ (p1.toInt = 0) := fun q0 => c16 (Int32.toInt_inj.mp q0)
    refine lv_iload_n hx hb dX12_named_16 rfl (lv_at hl 1 rfl) ?_
    refine lv_iconst (v := 1) hx hb dX12_named_17 (by decide) ?_
    refine lv_icmp_ne (tgt := 33) hx hb dX12_named_18 (by decide) (fun c17 => ?_) (fun c17 => ?_)
    · have gc17 : ¬ (p1.toInt = 1) := fun q0 => c17 (Int32.toInt_inj.mp q0)
      refine lv_aload_n hx hb dX12_named_33 rfl (lv_at hl 0 rfl) ?_
      refine g_get F hK hP 0 (Wm_at0 G g q I0 J0 R0 L0) clX12 21 (by decide) flX12_77 rfl dX12_named_34 ?_
      refine lv_aload_n hx hb dX12_named_37 rfl (lv_at hl 0 rfl) ?_
      refine g_get F hK hP 0 (Wm_at0 G g q I0 J0 R0 L0) clX12 44 (by decide) flX12_146 rfl dX12_named_38 ?_
      have w_I0_12 := rg (hvI0 12 (by decide)) (0) (1) rfl rfl
      refine g_iald F hK hP 10 (Wm_at10 G g q I0 J0 R0 L0) (in_of (by omega)) dX12_named_41 rfl ?_
      refine lv_topi (fun x18 ex18 => ?_)
      have gx18 : x18.toInt = (R0 7 (Int32.toNatClampNeg (I0 12))).toInt := congrArg Int32.toInt (ex18)
      have fx18 : ((0 : Int) ≤ x18.toInt ∧ x18.toInt ≤ (12 : Int)) := by rw [ex18]; exact hvR 7 (by decide) _ (clamp_lt (n := 2) (in_of (by omega)))
      exact lab_42 x18 _ _ _ (show ((0 : Int) ≤ x18.toInt ∧ x18.toInt ≤ (12 : Int)) from by omega) (show (p1.toInt = 0 → x18.toInt ≤ 5) from by omega) (show (p1.toInt = 1 → x18.toInt ≤ 6) from by omega) hP hD hS (lv_sub hl [0, 1, 2] rfl)
    · have gc17 : p1.toInt = 1 := congrArg Int32.toInt c17
      refine lv_aload_n hx hb dX12_named_21 rfl (lv_at hl 0 rfl) ?_
      refine g_get F hK hP 0 (Wm_at0 G g q I0 J0 R0 L0) clX12 18 (by decide) flX12_67 rfl dX12_named_22 ?_
      refine lv_aload_n hx hb dX12_named_25 rfl (lv_at hl 0 rfl) ?_
      refine g_get F hK hP 0 (Wm_at0 G g q I0 J0 R0 L0) clX12 44 (by decide) flX12_146 rfl dX12_named_26 ?_
      have w_I0_12 := rg (hvI0 12 (by decide)) (0) (1) rfl rfl
      refine g_iald F hK hP 7 (Wm_at7 G g q I0 J0 R0 L0) (in_of (by omega)) dX12_named_29 rfl ?_
      refine lv_topi (fun x19 ex19 => ?_)
      have gx19 : x19.toInt = (R0 5 (Int32.toNatClampNeg (I0 12))).toInt := congrArg Int32.toInt (ex19)
      have fx19 : ((0 : Int) ≤ x19.toInt ∧ x19.toInt ≤ (6 : Int)) := by rw [ex19]; exact hvR 5 (by decide) _ (clamp_lt (n := 2) (in_of (by omega)))
      refine lv_goto (tgt := 42) hx hb dX12_named_30 (by decide) ?_
      exact lab_42 x19 _ _ _ (show ((0 : Int) ≤ x19.toInt ∧ x19.toInt ≤ (12 : Int)) from by omega) (show (p1.toInt = 0 → x19.toInt ≤ 5) from by omega) (show (p1.toInt = 1 → x19.toInt ≤ 6) from by omega) hP hD hS (lv_sub hl [0, 1, 2] rfl)
  · have gc16 : p1.toInt = 0 := congrArg Int32.toInt c16
    refine lv_aload_n hx hb dX12_named_4 rfl (lv_at hl 0 rfl) ?_
    refine g_get F hK hP 0 (Wm_at0 G g q I0 J0 R0 L0) clX12 13 (by decide) flX12_51 rfl dX12_named_5 ?_
    refine lv_aload_n hx hb dX12_named_8 rfl (lv_at hl 0 rfl) ?_
    refine g_get F hK hP 0 (Wm_at0 G g q I0 J0 R0 L0) clX12 44 (by decide) flX12_146 rfl dX12_named_9 ?_
    have w_I0_12 := rg (hvI0 12 (by decide)) (0) (1) rfl rfl
    refine g_iald F hK hP 2 (Wm_at2 G g q I0 J0 R0 L0) (in_of (by omega)) dX12_named_12 rfl ?_
    refine lv_topi (fun x20 ex20 => ?_)
    have gx20 : x20.toInt = (R0 1 (Int32.toNatClampNeg (I0 12))).toInt := congrArg Int32.toInt (ex20)
    have fx20 : ((0 : Int) ≤ x20.toInt ∧ x20.toInt ≤ (5 : Int)) := by rw [ex20]; exact hvR 1 (by decide) _ (clamp_lt (n := 2) (in_of (by omega)))
    refine lv_goto (tgt := 42) hx hb dX12_named_13 (by decide) ?_
    exact lab_42 x20 _ _ _ (show ((0 : Int) ≤ x20.toInt ∧ x20.toInt ≤ (12 : Int)) from by omega) (show (p1.toInt = 0 → x20.toInt ≤ 5) from by omega) (show (p1.toInt = 1 → x20.toInt ≤ 6) from by omega) hP hD hS (lv_sub hl [0, 1, 2] rfl)
set_option maxHeartbeats 4000000 in
set_option maxRecDepth 100000 in
theorem s_X12_bitsOf (l : Launch) (G : Gx)  (p0 : Int32)  : CtI (S := Unit) l yX12_bitsOf cX12_bitsOf 3 (some .int) (rmD 1 0 0) G [.int p0] [] (fun r _ => True) (fun _ => []) := by
  refine ctI_of (own := RX12) (by decide +kernel) rfl (Nat.le_of_ble_eq_true rfl) ?_
  intro p e s m below meth c A ls F hr hlk hnm hK hP hD hA hS hl
  have hx := F.1
  have hb := F.2.1
  have hown := F.2.2.2.1
  have hl : lv_has ls 3 [(0, .int p0)] := hl
  obtain ⟨Q, hQ⟩ : ∃ Q : State → Prop, Q = MQ below (va_Qi (S := Unit) (fun r _ => True) (BX G A (fun _ => [])) A) [.int p0].toArray s 0 0 A := ⟨_, rfl⟩
  rw [show (MQ below (va_Qi (S := Unit) (fun r _ => True) (BX G A (fun _ => [])) A) [.int p0].toArray s (rmD 1 0 0).cells (rmD 1 0 0).slots A) = Q from hQ.symm]
  have lab_4 : ∀ (k_4 : Nat) (a1_4 : Int32) (a2_4 : Int32) (H : Heap) (locs : List Loc) (ls : Array Slot), ((((a2_4 : Int32).toUInt32.toNat : Int)) < (k_4 : Int)) → va_P G.1 vwCl [] H → va_D A [] → va_S A s.heap H locs → lv_has ls 3 [(1, .int a1_4), (2, .int a2_4)] → W p l e (rmD 1 0 0) s m [.int p0].toArray below meth c H locs 0 0 Q (F0 m 4 ls []) := by
    intro k_4
    induction k_4 with
    | zero =>
      intro a1_4 a2_4 H locs ls hm hP hD hS hl
      exact absurd hm (by omega)
    | succ k_4 ih_4 =>
      intro a1_4 a2_4 H locs ls hm hP hD hS hl
      refine lv_iload_n hx hb dX12_bitsOf_4 rfl (lv_at hl 1 rfl) ?_
      refine lv_if_eq (tgt := 21) hx hb dX12_bitsOf_5 (by decide) (fun c1 => ?_) (fun c1 => ?_)
      · have gc1 : a2_4.toInt = 0 := congrArg Int32.toInt c1
        refine lv_iload_n hx hb dX12_bitsOf_21 rfl (lv_at hl 0 rfl) ?_
        rw [hQ]
        exact q_i F hr hlk () hP hD hS trivial dX12_bitsOf_22 (Nat.le_of_ble_eq_true rfl) (Nat.le_of_ble_eq_true rfl)
      · have gc1 : ¬ (a2_4.toInt = 0) := fun q0 => c1 (Int32.toInt_inj.mp q0)
        refine lv_iload_n hx hb dX12_bitsOf_8 rfl (lv_at hl 0 rfl) ?_
        refine lv_iload_n hx hb dX12_bitsOf_9 rfl (lv_at hl 1 rfl) ?_
        refine lv_iconst (v := 1) hx hb dX12_bitsOf_10 (by decide) ?_
        refine lv_iand hx hb dX12_bitsOf_11 ?_
        refine lv_topi (fun x2 ex2 => ?_)
        have fx2 : (0 : Int) ≤ x2.toInt ∧ x2.toInt ≤ (1 : Int) := by rw [ex2]; exact t_and (b := 1) (by decide)
        refine lv_iadd hx hb dX12_bitsOf_12 ?_
        refine lv_topi (fun x3 ex3 => ?_)
        refine lv_istore_n (lv' := [(1, .int x3), (2, .int a2_4)]) hx hb dX12_bitsOf_13 rfl hl (by decide) rfl (fun ls hl => ?_)
        refine lv_iload_n hx hb dX12_bitsOf_14 rfl (lv_at hl 1 rfl) ?_
        refine lv_iconst (v := 1) hx hb dX12_bitsOf_15 (by decide) ?_
        obtain ⟨x4, ex4⟩ : ∃ y : Int32, ((a2_4 : Int32).toUInt32 >>> ((1 : Int32).toUInt32 &&& Int32.toUInt32 31)).toInt32 = y := ⟨_, rfl⟩
        refine lv_iushr (v := x4) hx hb dX12_bitsOf_16 ex4 ?_
        have mx4 := ushr1 ex4
        have qx4 := u32_pos (x := a2_4) (by omega)
        refine lv_istore_n (lv' := [(2, .int x4), (1, .int x3)]) hx hb dX12_bitsOf_17 rfl hl (by decide) rfl (fun ls hl => ?_)
        refine lv_goto (tgt := 4) hx hb dX12_bitsOf_18 (by decide) ?_
        exact ih_4 x3 x4 _ _ _ (show (((x4 : Int32).toUInt32.toNat : Int)) < (k_4 : Int) from by omega)  hP hD hS (lv_sub hl [1, 0] rfl)
  refine lv_iconst (v := 0) hx hb dX12_bitsOf_0 (by decide) ?_
  refine lv_istore_n (lv' := [(1, .int 0), (0, .int p0)]) hx hb dX12_bitsOf_1 rfl hl (by decide) rfl (fun ls hl => ?_)
  refine lv_iload_n hx hb dX12_bitsOf_2 rfl (lv_at hl 1 rfl) ?_
  have hu := u32_lt p0
  refine lv_istore_n (lv' := [(2, .int p0), (1, .int 0), (0, .int p0)]) hx hb dX12_bitsOf_3 rfl hl (by decide) rfl (fun ls hl => ?_)
  exact lab_4 4294967296 0 p0 _ _ _ (show (((p0 : Int32).toUInt32.toNat : Int)) < ((4294967296 : Nat) : Int) from by omega)  hP hD hS (lv_sub hl [1, 0] rfl)
set_option maxHeartbeats 4000000 in
set_option maxRecDepth 100000 in
theorem s_X12_together (l : Launch) (G : Gx) (g q : Nat → Nat) (I0 : Nat → Int32) (J0 : Nat → Int64) (R0 : Nat → Nat → Int32) (L0 : Nat → Nat → Int64) (hvI : InvI Wm_lo Wm_hi I0) (hvR : InvR Wm_rl R0)  (p1 : Int32) (hp1 : ((0 : Int) ≤ p1.toInt ∧ p1.toInt ≤ (5 : Int))) : CtI (S := Unit) l yX12_together cX12_together 4 (some .int) (rmD 1 0 0) G [.ref (g 45), .int p1] (Wm G g q I0 J0 R0 L0) (fun r _ => True) (fun _ => (Wm G g q I0 J0 R0 L0)) := by
  refine ctI_of (own := RX12) (by decide +kernel) rfl (Nat.le_of_ble_eq_true rfl) ?_
  intro p e s m below meth c A ls F hr hlk hnm hK hP hD hA hS hl
  have hx := F.1
  have hb := F.2.1
  have hown := F.2.2.2.1
  have hl : lv_has ls 4 [(0, .ref (g 45)), (1, .int p1)] := hl
  obtain ⟨Q, hQ⟩ : ∃ Q : State → Prop, Q = MQ below (va_Qi (S := Unit) (fun r _ => True) (BX G A (fun _ => (Wm G g q I0 J0 R0 L0))) A) [.ref (g 45), .int p1].toArray s 0 0 A := ⟨_, rfl⟩
  rw [show (MQ below (va_Qi (S := Unit) (fun r _ => True) (BX G A (fun _ => (Wm G g q I0 J0 R0 L0))) A) [.ref (g 45), .int p1].toArray s (rmD 1 0 0).cells (rmD 1 0 0).slots A) = Q from hQ.symm]
  have hvI0 := hvI
  have lab_5 : ∀ (k_5 : Nat) (a2_5 : Int32) (a3_5 : Int32) (H : Heap) (locs : List Loc) (ls : Array Slot), ((12 - a3_5.toInt) < (k_5 : Int)) → ((0 : Int) ≤ a3_5.toInt ∧ a3_5.toInt ≤ (12 : Int)) → va_P G.1 vwCl (Wm G g q I0 J0 R0 L0) H → va_D A (Wm G g q I0 J0 R0 L0) → va_S A s.heap H locs → lv_has ls 4 [(0, .ref (g 45)), (1, .int p1), (2, .int a2_5), (3, .int a3_5)] → W p l e (rmD 1 0 0) s m [.ref (g 45), .int p1].toArray below meth c H locs 0 0 Q (F0 m 5 ls []) := by
    intro k_5
    induction k_5 with
    | zero =>
      intro a2_5 a3_5 H locs ls hm y0_5 hP hD hS hl
      exact absurd hm (by omega)
    | succ k_5 ih_5 =>
      intro a2_5 a3_5 H locs ls hm y0_5 hP hD hS hl
      have lab_48 : ∀ (b0_48 : Int32) (H : Heap) (locs : List Loc) (ls : Array Slot), ((0 : Int) ≤ a3_5.toInt ∧ a3_5.toInt ≤ (11 : Int)) → va_P G.1 vwCl (Wm G g q I0 J0 R0 L0) H → va_D A (Wm G g q I0 J0 R0 L0) → va_S A s.heap H locs → lv_has ls 4 [(0, .ref (g 45)), (1, .int p1), (3, .int a3_5)] → W p l e (rmD 1 0 0) s m [.ref (g 45), .int p1].toArray below meth c H locs 0 0 Q (F0 m 48 ls [.int b0_48]) := by
        intro b0_48 H locs ls y0_48 hP hD hS hl
        refine lv_istore_n (lv' := [(2, .int b0_48), (0, .ref (g 45)), (1, .int p1), (3, .int a3_5)]) hx hb dX12_together_48 rfl hl (by decide) rfl (fun ls hl => ?_)
        obtain ⟨x1, ex1⟩ : ∃ y : Int32, y = a3_5 + 1 := ⟨_, rfl⟩
        have fx1 : x1.toInt = a3_5.toInt + (1 : Int) := by rw [ex1]; exact t_add (by show (-2147483648 : Int) ≤ a3_5.toInt + (1 : Int); omega) (by show a3_5.toInt + (1 : Int) ≤ 2147483647; omega)
        refine lv_iinc (v := x1) (lv' := [(3, .int x1), (2, .int b0_48), (0, .ref (g 45)), (1, .int p1)]) hx hb dX12_together_49 hl (k := 3) rfl (by rw [ex1]; rfl) (by decide) rfl (fun ls hl => ?_)
        refine lv_goto (tgt := 5) hx hb dX12_together_52 (by decide) ?_
        exact ih_5 b0_48 x1 _ _ _ (show (12 - x1.toInt) < (k_5 : Int) from by omega) (show ((0 : Int) ≤ x1.toInt ∧ x1.toInt ≤ (12 : Int)) from by omega) hP hD hS (lv_sub hl [2, 3, 1, 0] rfl)
      refine lv_iload_n hx hb dX12_together_5 rfl (lv_at hl 3 rfl) ?_
      refine lv_aload_n hx hb dX12_together_6 rfl (lv_at hl 0 rfl) ?_
      refine g_get F hK hP 0 (Wm_at0 G g q I0 J0 R0 L0) clX12 21 (by decide) flX12_77 rfl dX12_together_7 ?_
      refine lv_aload_n hx hb dX12_together_10 rfl (lv_at hl 0 rfl) ?_
      refine g_get F hK hP 0 (Wm_at0 G g q I0 J0 R0 L0) clX12 12 (by decide) flX12_48 rfl dX12_together_11 ?_
      have w_I0_10 := rg (hvI0 10 (by decide)) (0) (1) rfl rfl
      refine g_iald F hK hP 10 (Wm_at10 G g q I0 J0 R0 L0) (in_of (by omega)) dX12_together_14 rfl ?_
      refine lv_topi (fun x2 ex2 => ?_)
      have gx2 : x2.toInt = (R0 7 (Int32.toNatClampNeg (I0 10))).toInt := congrArg Int32.toInt (ex2)
      have fx2 : ((0 : Int) ≤ x2.toInt ∧ x2.toInt ≤ (12 : Int)) := by rw [ex2]; exact hvR 7 (by decide) _ (clamp_lt (n := 2) (in_of (by omega)))
      refine lv_icmp_ge (tgt := 55) hx hb dX12_together_15 (by decide) (fun c3 => ?_) (fun c3 => ?_)
      · have gc3 : x2.toInt ≤ a3_5.toInt := (tle _ _).mp c3
        refine lv_iload_n hx hb dX12_together_55 rfl (lv_at hl 2 rfl) ?_
        rw [hQ]
        exact q_i F hr hlk () hP hD hS trivial dX12_together_56 (Nat.le_of_ble_eq_true rfl) (Nat.le_of_ble_eq_true rfl)
      · have gc3 : ¬ (x2.toInt ≤ a3_5.toInt) := fun q0 => c3 ((tle _ _).mpr q0)
        refine lv_aload_n hx hb dX12_together_18 rfl (lv_at hl 0 rfl) ?_
        refine g_get F hK hP 0 (Wm_at0 G g q I0 J0 R0 L0) clX12 23 (by decide) flX12_83 rfl dX12_together_19 ?_
        refine lv_bipush (v := 12) hx hb dX12_together_22 (by decide) ?_
        refine lv_aload_n hx hb dX12_together_24 rfl (lv_at hl 0 rfl) ?_
        refine g_get F hK hP 0 (Wm_at0 G g q I0 J0 R0 L0) clX12 12 (by decide) flX12_48 rfl dX12_together_25 ?_
        refine lv_imul hx hb dX12_together_28 ?_
        refine lv_topi (fun x4 ex4 => ?_)
        have fx4 : x4.toInt = 12 * (I0 10).toInt := by rw [ex4]; exact t_mul (by show (-2147483648 : Int) ≤ 12 * (I0 10).toInt; omega) (by show 12 * (I0 10).toInt ≤ 2147483647; omega)
        refine lv_iload_n hx hb dX12_together_29 rfl (lv_at hl 3 rfl) ?_
        refine lv_iadd hx hb dX12_together_30 ?_
        refine lv_topi (fun x5 ex5 => ?_)
        have fx5 : x5.toInt = x4.toInt + a3_5.toInt := by rw [ex5]; exact t_add (by show (-2147483648 : Int) ≤ x4.toInt + a3_5.toInt; omega) (by show x4.toInt + a3_5.toInt ≤ 2147483647; omega)
        refine g_iald F hK hP 12 (Wm_at12 G g q I0 J0 R0 L0) (in_of (by omega)) dX12_together_31 rfl ?_
        refine lv_topi (fun x6 ex6 => ?_)
        have gx6 : x6.toInt = (R0 8 (Int32.toNatClampNeg x5)).toInt := congrArg Int32.toInt (ex6)
        have fx6 : ((0 : Int) ≤ x6.toInt ∧ x6.toInt ≤ (5 : Int)) := by rw [ex6]; exact hvR 8 (by decide) _ (clamp_lt (n := 24) (in_of (by omega)))
        refine lv_iload_n hx hb dX12_together_32 rfl (lv_at hl 1 rfl) ?_
        refine lv_icmp_ne (tgt := 47) hx hb dX12_together_33 (by decide) (fun c7 => ?_) (fun c7 => ?_)
        · have gc7 : ¬ (x6.toInt = p1.toInt) := fun q0 => c7 (Int32.toInt_inj.mp q0)
          refine lv_iload_n hx hb dX12_together_47 rfl (lv_at hl 2 rfl) ?_
          exact lab_48 a2_5 _ _ _ (show ((0 : Int) ≤ a3_5.toInt ∧ a3_5.toInt ≤ (11 : Int)) from by omega) hP hD hS (lv_sub hl [0, 1, 3] rfl)
        · have gc7 : x6.toInt = p1.toInt := congrArg Int32.toInt c7
          refine lv_iload_n hx hb dX12_together_36 rfl (lv_at hl 2 rfl) ?_
          refine lv_aload_n hx hb dX12_together_37 rfl (lv_at hl 0 rfl) ?_
          refine g_get F hK hP 0 (Wm_at0 G g q I0 J0 R0 L0) clX12 58 (by decide) flX12_189 rfl dX12_together_38 ?_
          refine lv_iload_n hx hb dX12_together_41 rfl (lv_at hl 3 rfl) ?_
          refine g_iald F hK hP 41 (Wm_at41 G g q I0 J0 R0 L0) (in_of (by omega)) dX12_together_42 rfl ?_
          refine lv_topi (fun x8 ex8 => ?_)
          have gx8 : x8.toInt = (R0 36 (Int32.toNatClampNeg a3_5)).toInt := congrArg Int32.toInt (ex8)
          refine lv_iand hx hb dX12_together_43 ?_
          refine lv_topi (fun x9 ex9 => ?_)
          refine lv_goto (tgt := 48) hx hb dX12_together_44 (by decide) ?_
          exact lab_48 x9 _ _ _ (show ((0 : Int) ≤ a3_5.toInt ∧ a3_5.toInt ≤ (11 : Int)) from by omega) hP hD hS (lv_sub hl [0, 1, 3] rfl)
  refine lv_bipush (v := 31) hx hb dX12_together_0 (by decide) ?_
  refine lv_istore_n (lv' := [(2, .int 31), (0, .ref (g 45)), (1, .int p1)]) hx hb dX12_together_2 rfl hl (by decide) rfl (fun ls hl => ?_)
  refine lv_iconst (v := 0) hx hb dX12_together_3 (by decide) ?_
  refine lv_istore_n (lv' := [(3, .int 0), (2, .int 31), (0, .ref (g 45)), (1, .int p1)]) hx hb dX12_together_4 rfl hl (by decide) rfl (fun ls hl => ?_)
  exact lab_5 13 31 0 _ _ _ (show (12 - 0) < ((13 : Nat) : Int) from by omega) (by decide) hP hD hS (lv_sub hl [2, 3, 1, 0] rfl)
set_option maxHeartbeats 4000000 in
set_option maxRecDepth 100000 in
theorem s_X12_suits (l : Launch) (G : Gx) (g q : Nat → Nat) (I0 : Nat → Int32) (J0 : Nat → Int64) (R0 : Nat → Nat → Int32) (L0 : Nat → Nat → Int64) (hvI : InvI Wm_lo Wm_hi I0) (hvR : InvR Wm_rl R0)  (p1 : Int32) (p2 : Int32) (hp1 : ((0 : Int) ≤ p1.toInt ∧ p1.toInt ≤ (11 : Int))) : CtI (S := Unit) l yX12_suits cX12_suits 3 (some .boolean) (rmD 2 0 0) G [.ref (g 45), .int p1, .int p2] (Wm G g q I0 J0 R0 L0) (fun r _ => ((0 : Int) ≤ r.toInt ∧ r.toInt ≤ (1 : Int))) (fun _ => (Wm G g q I0 J0 R0 L0)) := by
  refine ctI_of (own := RX12) (by decide +kernel) rfl (Nat.le_of_ble_eq_true rfl) ?_
  intro p e s m below meth c A ls F hr hlk hnm hK hP hD hA hS hl
  have hx := F.1
  have hb := F.2.1
  have hown := F.2.2.2.1
  have hl : lv_has ls 3 [(0, .ref (g 45)), (1, .int p1), (2, .int p2)] := hl
  obtain ⟨Q, hQ⟩ : ∃ Q : State → Prop, Q = MQ below (va_Qi (S := Unit) (fun r _ => ((0 : Int) ≤ r.toInt ∧ r.toInt ≤ (1 : Int))) (BX G A (fun _ => (Wm G g q I0 J0 R0 L0))) A) [.ref (g 45), .int p1, .int p2].toArray s 0 0 A := ⟨_, rfl⟩
  rw [show (MQ below (va_Qi (S := Unit) (fun r _ => ((0 : Int) ≤ r.toInt ∧ r.toInt ≤ (1 : Int))) (BX G A (fun _ => (Wm G g q I0 J0 R0 L0))) A) [.ref (g 45), .int p1, .int p2].toArray s (rmD 2 0 0).cells (rmD 2 0 0).slots A) = Q from hQ.symm]
  have hvI0 := hvI
  refine lv_iload_n hx hb dX12_suits_0 rfl (lv_at hl 2 rfl) ?_
  refine w0i (As := [.int p2]) (rest := []) (d := 1) F hK hP hD hS hA (s_X12_bitsOf l G  p2 ) kmS_X12_bitsOf mlX12_469 ⟨(Nat.le_of_ble_eq_true rfl), (Nat.le_of_ble_eq_true rfl)⟩ hl.1 rfl (Nat.le_of_ble_eq_true rfl) dX12_suits_1 (fun r1 u2 H locs hwr1 hP hD hS => ?_)
  refine lv_aload_n hx hb dX12_suits_4 rfl (lv_at hl 0 rfl) ?_
  refine g_get F hK hP 0 (Wm_at0 G g q I0 J0 R0 L0) clX12 24 (by decide) flX12_86 rfl dX12_suits_5 ?_
  refine lv_bipush (v := 12) hx hb dX12_suits_8 (by decide) ?_
  refine lv_aload_n hx hb dX12_suits_10 rfl (lv_at hl 0 rfl) ?_
  refine g_get F hK hP 0 (Wm_at0 G g q I0 J0 R0 L0) clX12 12 (by decide) flX12_48 rfl dX12_suits_11 ?_
  have w_I0_10 := rg (hvI0 10 (by decide)) (0) (1) rfl rfl
  refine lv_imul hx hb dX12_suits_14 ?_
  refine lv_topi (fun x3 ex3 => ?_)
  have fx3 : x3.toInt = 12 * (I0 10).toInt := by rw [ex3]; exact t_mul (by show (-2147483648 : Int) ≤ 12 * (I0 10).toInt; omega) (by show 12 * (I0 10).toInt ≤ 2147483647; omega)
  refine lv_iload_n hx hb dX12_suits_15 rfl (lv_at hl 1 rfl) ?_
  refine lv_iadd hx hb dX12_suits_16 ?_
  refine lv_topi (fun x4 ex4 => ?_)
  have fx4 : x4.toInt = x3.toInt + p1.toInt := by rw [ex4]; exact t_add (by show (-2147483648 : Int) ≤ x3.toInt + p1.toInt; omega) (by show x3.toInt + p1.toInt ≤ 2147483647; omega)
  refine g_iald F hK hP 13 (Wm_at13 G g q I0 J0 R0 L0) (in_of (by omega)) dX12_suits_17 rfl ?_
  refine lv_topi (fun x5 ex5 => ?_)
  have gx5 : x5.toInt = (R0 9 (Int32.toNatClampNeg x4)).toInt := congrArg Int32.toInt (ex5)
  refine lv_icmp_ne (tgt := 44) hx hb dX12_suits_18 (by decide) (fun c6 => ?_) (fun c6 => ?_)
  · have gc6 : ¬ (r1.toInt = x5.toInt) := fun q0 => c6 (Int32.toInt_inj.mp q0)
    refine lv_iconst (v := 0) hx hb dX12_suits_44 (by decide) ?_
    rw [hQ]
    exact q_z F hr hlk () hP hD hS (show ((0 : Int) ≤ 0 ∧ 0 ≤ (1 : Int)) from by omega) dX12_suits_45 (Nat.le_of_ble_eq_true rfl) (Nat.le_of_ble_eq_true rfl) (nar01 (by decide))
  · have gc6 : r1.toInt = x5.toInt := congrArg Int32.toInt c6
    refine lv_iload_n hx hb dX12_suits_21 rfl (lv_at hl 2 rfl) ?_
    refine lv_aload_n hx hb dX12_suits_22 rfl (lv_at hl 0 rfl) ?_
    refine g_get F hK hP 0 (Wm_at0 G g q I0 J0 R0 L0) clX12 25 (by decide) flX12_89 rfl dX12_suits_23 ?_
    refine lv_bipush (v := 12) hx hb dX12_suits_26 (by decide) ?_
    refine lv_aload_n hx hb dX12_suits_28 rfl (lv_at hl 0 rfl) ?_
    refine g_get F hK hP 0 (Wm_at0 G g q I0 J0 R0 L0) clX12 12 (by decide) flX12_48 rfl dX12_suits_29 ?_
    refine lv_imul hx hb dX12_suits_32 ?_
    refine lv_topi (fun x7 ex7 => ?_)
    have fx7 : x7.toInt = 12 * (I0 10).toInt := by rw [ex7]; exact t_mul (by show (-2147483648 : Int) ≤ 12 * (I0 10).toInt; omega) (by show 12 * (I0 10).toInt ≤ 2147483647; omega)
    refine lv_iload_n hx hb dX12_suits_33 rfl (lv_at hl 1 rfl) ?_
    refine lv_iadd hx hb dX12_suits_34 ?_
    refine lv_topi (fun x8 ex8 => ?_)
    have fx8 : x8.toInt = x7.toInt + p1.toInt := by rw [ex8]; exact t_add (by show (-2147483648 : Int) ≤ x7.toInt + p1.toInt; omega) (by show x7.toInt + p1.toInt ≤ 2147483647; omega)
    refine g_iald F hK hP 14 (Wm_at14 G g q I0 J0 R0 L0) (in_of (by omega)) dX12_suits_35 rfl ?_
    refine lv_topi (fun x9 ex9 => ?_)
    have gx9 : x9.toInt = (R0 10 (Int32.toNatClampNeg x8)).toInt := congrArg Int32.toInt (ex9)
    refine lv_iand hx hb dX12_suits_36 ?_
    refine lv_topi (fun x10 ex10 => ?_)
    refine lv_if_ne (tgt := 44) hx hb dX12_suits_37 (by decide) (fun c11 => ?_) (fun c11 => ?_)
    · have gc11 : ¬ (x10.toInt = 0) := fun q0 => c11 (Int32.toInt_inj.mp q0)
      refine lv_iconst (v := 0) hx hb dX12_suits_44 (by decide) ?_
      rw [hQ]
      exact q_z F hr hlk () hP hD hS (show ((0 : Int) ≤ 0 ∧ 0 ≤ (1 : Int)) from by omega) dX12_suits_45 (Nat.le_of_ble_eq_true rfl) (Nat.le_of_ble_eq_true rfl) (nar01 (by decide))
    · have gc11 : x10.toInt = 0 := congrArg Int32.toInt c11
      refine lv_iconst (v := 1) hx hb dX12_suits_40 (by decide) ?_
      refine lv_goto (tgt := 45) hx hb dX12_suits_41 (by decide) ?_
      rw [hQ]
      exact q_z F hr hlk () hP hD hS (show ((0 : Int) ≤ 1 ∧ 1 ≤ (1 : Int)) from by omega) dX12_suits_45 (Nat.le_of_ble_eq_true rfl) (Nat.le_of_ble_eq_true rfl) (nar01 (by decide))
set_option maxHeartbeats 4000000 in
set_option maxRecDepth 100000 in
theorem s_X12_inOn (l : Launch) (G : Gx) (g q : Nat → Nat) (I0 : Nat → Int32) (J0 : Nat → Int64) (R0 : Nat → Nat → Int32) (L0 : Nat → Nat → Int64) (hvI : InvI Wm_lo Wm_hi I0) (hvR : InvR Wm_rl R0)  (p1 : Int32) (hp1 : ((0 : Int) ≤ p1.toInt ∧ p1.toInt ≤ (4 : Int))) : CtI (S := Unit) l yX12_inOn cX12_inOn 4 (some .int) (rmD 2 0 0) G [.ref (g 45), .int p1] (Wm G g q I0 J0 R0 L0) (fun r _ => True) (fun _ => (Wm G g q I0 J0 R0 L0)) := by
  refine ctI_of (own := RX12) (by decide +kernel) rfl (Nat.le_of_ble_eq_true rfl) ?_
  intro p e s m below meth c A ls F hr hlk hnm hK hP hD hA hS hl
  have hx := F.1
  have hb := F.2.1
  have hown := F.2.2.2.1
  have hl : lv_has ls 4 [(0, .ref (g 45)), (1, .int p1)] := hl
  obtain ⟨Q, hQ⟩ : ∃ Q : State → Prop, Q = MQ below (va_Qi (S := Unit) (fun r _ => True) (BX G A (fun _ => (Wm G g q I0 J0 R0 L0))) A) [.ref (g 45), .int p1].toArray s 0 0 A := ⟨_, rfl⟩
  rw [show (MQ below (va_Qi (S := Unit) (fun r _ => True) (BX G A (fun _ => (Wm G g q I0 J0 R0 L0))) A) [.ref (g 45), .int p1].toArray s (rmD 2 0 0).cells (rmD 2 0 0).slots A) = Q from hQ.symm]
  have hvI0 := hvI
  have lab_4 : ∀ (k_4 : Nat) (a2_4 : Int32) (a3_4 : Int32) (H : Heap) (locs : List Loc) (ls : Array Slot), ((12 - a3_4.toInt) < (k_4 : Int)) → ((0 : Int) ≤ a3_4.toInt ∧ a3_4.toInt ≤ (12 : Int)) → va_P G.1 vwCl (Wm G g q I0 J0 R0 L0) H → va_D A (Wm G g q I0 J0 R0 L0) → va_S A s.heap H locs → lv_has ls 4 [(0, .ref (g 45)), (1, .int p1), (2, .int a2_4), (3, .int a3_4)] → W p l e (rmD 2 0 0) s m [.ref (g 45), .int p1].toArray below meth c H locs 0 0 Q (F0 m 4 ls []) := by
    intro k_4
    induction k_4 with
    | zero =>
      intro a2_4 a3_4 H locs ls hm y0_4 hP hD hS hl
      exact absurd hm (by omega)
    | succ k_4 ih_4 =>
      intro a2_4 a3_4 H locs ls hm y0_4 hP hD hS hl
      have lab_32 : ∀ (b0_32 : Int32) (b1_32 : Int32) (H : Heap) (locs : List Loc) (ls : Array Slot), ((0 : Int) ≤ a3_4.toInt ∧ a3_4.toInt ≤ (11 : Int)) → ((0 : Int) ≤ b0_32.toInt ∧ b0_32.toInt ≤ (1 : Int)) → va_P G.1 vwCl (Wm G g q I0 J0 R0 L0) H → va_D A (Wm G g q I0 J0 R0 L0) → va_S A s.heap H locs → lv_has ls 4 [(0, .ref (g 45)), (1, .int p1), (3, .int a3_4)] → W p l e (rmD 2 0 0) s m [.ref (g 45), .int p1].toArray below meth c H locs 0 0 Q (F0 m 32 ls [.int b0_32, .int b1_32]) := by
        intro b0_32 b1_32 H locs ls y0_32 y1_32 hP hD hS hl
        refine lv_iadd hx hb dX12_inOn_32 ?_
        refine lv_topi (fun x1 ex1 => ?_)
        refine lv_istore_n (lv' := [(2, .int x1), (0, .ref (g 45)), (1, .int p1), (3, .int a3_4)]) hx hb dX12_inOn_33 rfl hl (by decide) rfl (fun ls hl => ?_)
        obtain ⟨x2, ex2⟩ : ∃ y : Int32, y = a3_4 + 1 := ⟨_, rfl⟩
        have fx2 : x2.toInt = a3_4.toInt + (1 : Int) := by rw [ex2]; exact t_add (by show (-2147483648 : Int) ≤ a3_4.toInt + (1 : Int); omega) (by show a3_4.toInt + (1 : Int) ≤ 2147483647; omega)
        refine lv_iinc (v := x2) (lv' := [(3, .int x2), (2, .int x1), (0, .ref (g 45)), (1, .int p1)]) hx hb dX12_inOn_34 hl (k := 3) rfl (by rw [ex2]; rfl) (by decide) rfl (fun ls hl => ?_)
        refine lv_goto (tgt := 4) hx hb dX12_inOn_37 (by decide) ?_
        exact ih_4 x1 x2 _ _ _ (show (12 - x2.toInt) < (k_4 : Int) from by omega) (show ((0 : Int) ≤ x2.toInt ∧ x2.toInt ≤ (12 : Int)) from by omega) hP hD hS (lv_sub hl [2, 3, 1, 0] rfl)
      refine lv_iload_n hx hb dX12_inOn_4 rfl (lv_at hl 3 rfl) ?_
      refine lv_aload_n hx hb dX12_inOn_5 rfl (lv_at hl 0 rfl) ?_
      refine g_get F hK hP 0 (Wm_at0 G g q I0 J0 R0 L0) clX12 21 (by decide) flX12_77 rfl dX12_inOn_6 ?_
      refine lv_aload_n hx hb dX12_inOn_9 rfl (lv_at hl 0 rfl) ?_
      refine g_get F hK hP 0 (Wm_at0 G g q I0 J0 R0 L0) clX12 12 (by decide) flX12_48 rfl dX12_inOn_10 ?_
      have w_I0_10 := rg (hvI0 10 (by decide)) (0) (1) rfl rfl
      refine g_iald F hK hP 10 (Wm_at10 G g q I0 J0 R0 L0) (in_of (by omega)) dX12_inOn_13 rfl ?_
      refine lv_topi (fun x3 ex3 => ?_)
      have gx3 : x3.toInt = (R0 7 (Int32.toNatClampNeg (I0 10))).toInt := congrArg Int32.toInt (ex3)
      have fx3 : ((0 : Int) ≤ x3.toInt ∧ x3.toInt ≤ (12 : Int)) := by rw [ex3]; exact hvR 7 (by decide) _ (clamp_lt (n := 2) (in_of (by omega)))
      refine lv_icmp_ge (tgt := 40) hx hb dX12_inOn_14 (by decide) (fun c4 => ?_) (fun c4 => ?_)
      · have gc4 : x3.toInt ≤ a3_4.toInt := (tle _ _).mp c4
        refine lv_iload_n hx hb dX12_inOn_40 rfl (lv_at hl 2 rfl) ?_
        rw [hQ]
        exact q_i F hr hlk () hP hD hS trivial dX12_inOn_41 (Nat.le_of_ble_eq_true rfl) (Nat.le_of_ble_eq_true rfl)
      · have gc4 : ¬ (x3.toInt ≤ a3_4.toInt) := fun q0 => c4 ((tle _ _).mpr q0)
        refine lv_iload_n hx hb dX12_inOn_17 rfl (lv_at hl 2 rfl) ?_
        refine lv_aload_n hx hb dX12_inOn_18 rfl (lv_at hl 0 rfl) ?_
        refine lv_iload_n hx hb dX12_inOn_19 rfl (lv_at hl 3 rfl) ?_
        refine lv_iload_n hx hb dX12_inOn_20 rfl (lv_at hl 1 rfl) ?_
        refine wvi (As := [.int a3_4, .int p1]) (rest := [.int a2_4]) (b := (g 45)) (d := 1) F hK hP hD hS hA (s_X12_isIn l G g q I0 J0 R0 L0 hvI hvR  a3_4 p1 (show ((0 : Int) ≤ a3_4.toInt ∧ a3_4.toInt ≤ (11 : Int)) from by omega) (show ((0 : Int) ≤ p1.toInt ∧ p1.toInt ≤ (4 : Int)) from by omega)) kmV_X12_isIn mlX12_479 clX12 rfl 0 (Wm_at0 G g q I0 J0 R0 L0) ⟨(Nat.le_of_ble_eq_true rfl), (Nat.le_of_ble_eq_true rfl)⟩ hl.1 rfl (Nat.le_of_ble_eq_true rfl) dX12_inOn_21 (fun r5 u6 H locs hwr5 hP hD hS => ?_)
        have F0r5 := hwr5
        replace F0r5 : ((0 : Int) ≤ r5.toInt ∧ r5.toInt ≤ (1 : Int)) := F0r5
        refine lv_if_eq (tgt := 31) hx hb dX12_inOn_24 (by decide) (fun c7 => ?_) (fun c7 => ?_)
        · have gc7 : r5.toInt = 0 := congrArg Int32.toInt c7
          refine lv_iconst (v := 0) hx hb dX12_inOn_31 (by decide) ?_
          exact lab_32 0 a2_4 _ _ _ (show ((0 : Int) ≤ a3_4.toInt ∧ a3_4.toInt ≤ (11 : Int)) from by omega) (by decide) hP hD hS (lv_sub hl [0, 1, 3] rfl)
        · have gc7 : ¬ (r5.toInt = 0) := fun q0 => c7 (Int32.toInt_inj.mp q0)
          refine lv_iconst (v := 1) hx hb dX12_inOn_27 (by decide) ?_
          refine lv_goto (tgt := 32) hx hb dX12_inOn_28 (by decide) ?_
          exact lab_32 1 a2_4 _ _ _ (show ((0 : Int) ≤ a3_4.toInt ∧ a3_4.toInt ≤ (11 : Int)) from by omega) (by decide) hP hD hS (lv_sub hl [0, 1, 3] rfl)
  refine lv_iconst (v := 0) hx hb dX12_inOn_0 (by decide) ?_
  refine lv_istore_n (lv' := [(2, .int 0), (0, .ref (g 45)), (1, .int p1)]) hx hb dX12_inOn_1 rfl hl (by decide) rfl (fun ls hl => ?_)
  refine lv_iconst (v := 0) hx hb dX12_inOn_2 (by decide) ?_
  refine lv_istore_n (lv' := [(3, .int 0), (2, .int 0), (0, .ref (g 45)), (1, .int p1)]) hx hb dX12_inOn_3 rfl hl (by decide) rfl (fun ls hl => ?_)
  exact lab_4 13 0 0 _ _ _ (show (12 - 0) < ((13 : Nat) : Int) from by omega) (by decide) hP hD hS (lv_sub hl [2, 3, 1, 0] rfl)
set_option maxHeartbeats 4000000 in
set_option maxRecDepth 100000 in
theorem s_X12_bounded (l : Launch) (G : Gx)  (p0 : Int64)  : CtL (S := Unit) l yX12_bounded cX12_bounded 2 (some .long) (rmD 1 0 0) G [.long p0] [] (fun r _ => True) (fun _ => []) := by
  refine ctL_of (own := RX12) (by decide +kernel) rfl (Nat.le_of_ble_eq_true rfl) ?_
  intro p e s m below meth c A ls F hr hlk hnm hK hP hD hA hS hl
  have hx := F.1
  have hb := F.2.1
  have hown := F.2.2.2.1
  have hl : lv_has ls 2 [(0, .long p0)] := hl
  obtain ⟨Q, hQ⟩ : ∃ Q : State → Prop, Q = MQ below (va_Ql (S := Unit) (fun r _ => True) (BX G A (fun _ => [])) A) [.long p0].toArray s 0 0 A := ⟨_, rfl⟩
  rw [show (MQ below (va_Ql (S := Unit) (fun r _ => True) (BX G A (fun _ => [])) A) [.long p0].toArray s (rmD 1 0 0).cells (rmD 1 0 0).slots A) = Q from hQ.symm]
  refine lv_lload_n hx hb dX12_bounded_0 rfl (lv_at hl 0 rfl) ?_
  refine lv_ldc2 hx hb hown (F.2.2.2.2 _ clX12_435) dX12_bounded_1 ?_
  refine W.lcmp hx hb dX12_bounded_4 ?_
  refine lv_topi (fun x1 ex1 => ?_)
  refine lv_if_le (tgt := 14) hx hb dX12_bounded_5 (by decide) (fun c2 => ?_) (fun c2 => ?_)
  · have gc2 : x1.toInt ≤ 0 := (tle _ _).mp c2
    refine lv_lload_n hx hb dX12_bounded_14 rfl (lv_at hl 0 rfl) ?_
    refine lv_ldc2 hx hb hown (F.2.2.2.2 _ clX12_437) dX12_bounded_15 ?_
    refine W.lcmp hx hb dX12_bounded_18 ?_
    refine lv_topi (fun x3 ex3 => ?_)
    refine lv_if_ge (tgt := 28) hx hb dX12_bounded_19 (by decide) (fun c4 => ?_) (fun c4 => ?_)
    · have gc4 : 0 ≤ x3.toInt := (tle _ _).mp c4
      refine lv_lload_n hx hb dX12_bounded_28 rfl (lv_at hl 0 rfl) ?_
      rw [hQ]
      exact q_l F hr hlk () hP hD hS trivial dX12_bounded_29 (Nat.le_of_ble_eq_true rfl) (Nat.le_of_ble_eq_true rfl)
    · have gc4 : ¬ (0 ≤ x3.toInt) := fun q0 => c4 ((tle _ _).mpr q0)
      refine lv_ldc2 hx hb hown (F.2.2.2.2 _ clX12_437) dX12_bounded_22 ?_
      refine lv_goto (tgt := 29) hx hb dX12_bounded_25 (by decide) ?_
      rw [hQ]
      exact q_l F hr hlk () hP hD hS trivial dX12_bounded_29 (Nat.le_of_ble_eq_true rfl) (Nat.le_of_ble_eq_true rfl)
  · have gc2 : ¬ (x1.toInt ≤ 0) := fun q0 => c2 ((tle _ _).mpr q0)
    refine lv_ldc2 hx hb hown (F.2.2.2.2 _ clX12_435) dX12_bounded_8 ?_
    refine lv_goto (tgt := 29) hx hb dX12_bounded_11 (by decide) ?_
    rw [hQ]
    exact q_l F hr hlk () hP hD hS trivial dX12_bounded_29 (Nat.le_of_ble_eq_true rfl) (Nat.le_of_ble_eq_true rfl)
set_option maxHeartbeats 4000000 in
set_option maxRecDepth 100000 in
theorem s_X12_over (l : Launch) (G : Gx)  (p0 : Int64) (p1 : Int64)  : CtL (S := Unit) l yX12_over cX12_over 6 (some .long) (rmD 1 0 0) G [.long p0, .long p1] [] (fun r _ => True) (fun _ => []) := by
  refine ctL_of (own := RX12) (by decide +kernel) rfl (Nat.le_of_ble_eq_true rfl) ?_
  intro p e s m below meth c A ls F hr hlk hnm hK hP hD hA hS hl
  have hx := F.1
  have hb := F.2.1
  have hown := F.2.2.2.1
  have hl : lv_has ls 6 [(0, .long p0), (2, .long p1)] := hl
  obtain ⟨Q, hQ⟩ : ∃ Q : State → Prop, Q = MQ below (va_Ql (S := Unit) (fun r _ => True) (BX G A (fun _ => [])) A) [.long p0, .long p1].toArray s 0 0 A := ⟨_, rfl⟩
  rw [show (MQ below (va_Ql (S := Unit) (fun r _ => True) (BX G A (fun _ => [])) A) [.long p0, .long p1].toArray s (rmD 1 0 0).cells (rmD 1 0 0).slots A) = Q from hQ.symm]
  have lab_53 : ∀ (a4_53 : Int64) (H : Heap) (locs : List Loc) (ls : Array Slot), va_P G.1 vwCl [] H → va_D A [] → va_S A s.heap H locs → lv_has ls 6 [(4, .long a4_53)] → W p l e (rmD 1 0 0) s m [.long p0, .long p1].toArray below meth c H locs 0 0 Q (F0 m 53 ls []) := by
    intro a4_53 H locs ls hP hD hS hl
    refine lv_lload hx hb dX12_over_53 (lv_at hl 0 rfl) ?_
    rw [hQ]
    exact q_l F hr hlk () hP hD hS trivial dX12_over_55 (Nat.le_of_ble_eq_true rfl) (Nat.le_of_ble_eq_true rfl)
  have lab_43 : ∀ (a4_43 : Int64) (b0_43 : Int32) (b1_43 : Int32) (H : Heap) (locs : List Loc) (ls : Array Slot), ((0 : Int) ≤ b0_43.toInt ∧ b0_43.toInt ≤ (1 : Int)) → ((0 : Int) ≤ b1_43.toInt ∧ b1_43.toInt ≤ (1 : Int)) → va_P G.1 vwCl [] H → va_D A [] → va_S A s.heap H locs → lv_has ls 6 [(4, .long a4_43)] → W p l e (rmD 1 0 0) s m [.long p0, .long p1].toArray below meth c H locs 0 0 Q (F0 m 43 ls [.int b0_43, .int b1_43]) := by
    intro a4_43 b0_43 b1_43 H locs ls y0_43 y1_43 hP hD hS hl
    refine lv_icmp_eq (tgt := 53) hx hb dX12_over_43 (by decide) (fun c1 => ?_) (fun c1 => ?_)
    · have gc1 : b1_43.toInt = b0_43.toInt := congrArg Int32.toInt c1
      exact lab_53 a4_43 _ _ _  hP hD hS (lv_sub hl [0] rfl)
    · have gc1 : ¬ (b1_43.toInt = b0_43.toInt) := fun q0 => c1 (Int32.toInt_inj.mp q0)
      refine lv_lload hx hb dX12_over_46 (lv_at hl 0 rfl) ?_
      refine lv_lconst (v := 1) hx hb dX12_over_48 (by decide) ?_
      refine lv_lsub hx hb dX12_over_49 ?_
      refine lv_topl (fun x2 ex2 => ?_)
      refine lv_goto (tgt := 55) hx hb dX12_over_50 (by decide) ?_
      rw [hQ]
      exact q_l F hr hlk () hP hD hS trivial dX12_over_55 (Nat.le_of_ble_eq_true rfl) (Nat.le_of_ble_eq_true rfl)
  have lab_32 : ∀ (a4_32 : Int64) (b0_32 : Int32) (H : Heap) (locs : List Loc) (ls : Array Slot), ((0 : Int) ≤ b0_32.toInt ∧ b0_32.toInt ≤ (1 : Int)) → va_P G.1 vwCl [] H → va_D A [] → va_S A s.heap H locs → lv_has ls 6 [(2, .long p1), (4, .long a4_32)] → W p l e (rmD 1 0 0) s m [.long p0, .long p1].toArray below meth c H locs 0 0 Q (F0 m 32 ls [.int b0_32]) := by
    intro a4_32 b0_32 H locs ls y0_32 hP hD hS hl
    refine lv_lload_n hx hb dX12_over_32 rfl (lv_at hl 0 rfl) ?_
    refine lv_lconst (v := 0) hx hb dX12_over_33 (by decide) ?_
    refine W.lcmp hx hb dX12_over_34 ?_
    refine lv_topi (fun x3 ex3 => ?_)
    refine lv_if_ge (tgt := 42) hx hb dX12_over_35 (by decide) (fun c4 => ?_) (fun c4 => ?_)
    · have gc4 : 0 ≤ x3.toInt := (tle _ _).mp c4
      refine lv_iconst (v := 0) hx hb dX12_over_42 (by decide) ?_
      exact lab_43 a4_32 0 b0_32 _ _ _ (by decide) (show ((0 : Int) ≤ b0_32.toInt ∧ b0_32.toInt ≤ (1 : Int)) from by omega) hP hD hS (lv_sub hl [1] rfl)
    · have gc4 : ¬ (0 ≤ x3.toInt) := fun q0 => c4 ((tle _ _).mpr q0)
      refine lv_iconst (v := 1) hx hb dX12_over_38 (by decide) ?_
      refine lv_goto (tgt := 43) hx hb dX12_over_39 (by decide) ?_
      exact lab_43 a4_32 1 b0_32 _ _ _ (by decide) (show ((0 : Int) ≤ b0_32.toInt ∧ b0_32.toInt ≤ (1 : Int)) from by omega) hP hD hS (lv_sub hl [1] rfl)
  refine lv_lload_n hx hb dX12_over_0 rfl (lv_at hl 1 rfl) ?_
  refine lv_lconst (v := 0) hx hb dX12_over_1 (by decide) ?_
  refine W.lcmp hx hb dX12_over_2 ?_
  refine lv_topi (fun x5 ex5 => ?_)
  refine lv_if_ne (tgt := 8) hx hb dX12_over_3 (by decide) (fun c6 => ?_) (fun c6 => ?_)
  · have gc6 : ¬ (x5.toInt = 0) := fun q0 => c6 (Int32.toInt_inj.mp q0)
    have nc6 : ¬ p1 = 0 := fun q0 => c6 (by rw [ex5, q0]; exact lcmp_s _)
    refine lv_lload_n hx hb dX12_over_8 rfl (lv_at hl 0 rfl) ?_
    refine lv_lload_n hx hb dX12_over_9 rfl (lv_at hl 1 rfl) ?_
    refine lv_ldiv hx hb dX12_over_10 (by assumption) ?_
    refine lv_topl (fun x7 ex7 => ?_)
    refine lv_lstore (lv' := [(4, .long x7), (0, .long p0), (2, .long p1)]) hx hb dX12_over_11 hl (by decide) rfl (fun ls hl => ?_)
    refine lv_lload_n hx hb dX12_over_13 rfl (lv_at hl 1 rfl) ?_
    refine lv_lload_n hx hb dX12_over_14 rfl (lv_at hl 2 rfl) ?_
    refine lv_lrem hx hb dX12_over_15 (by assumption) ?_
    refine lv_topl (fun x8 ex8 => ?_)
    refine lv_lconst (v := 0) hx hb dX12_over_16 (by decide) ?_
    refine W.lcmp hx hb dX12_over_17 ?_
    refine lv_topi (fun x9 ex9 => ?_)
    refine lv_if_eq (tgt := 53) hx hb dX12_over_18 (by decide) (fun c10 => ?_) (fun c10 => ?_)
    · have gc10 : x9.toInt = 0 := congrArg Int32.toInt c10
      exact lab_53 x7 _ _ _  hP hD hS (lv_sub hl [0] rfl)
    · have gc10 : ¬ (x9.toInt = 0) := fun q0 => c10 (Int32.toInt_inj.mp q0)
      have nc10 : ¬ x8 = 0 := fun q0 => c10 (by rw [ex9, q0]; exact lcmp_s _)
      refine lv_lload_n hx hb dX12_over_21 rfl (lv_at hl 1 rfl) ?_
      refine lv_lconst (v := 0) hx hb dX12_over_22 (by decide) ?_
      refine W.lcmp hx hb dX12_over_23 ?_
      refine lv_topi (fun x11 ex11 => ?_)
      refine lv_if_ge (tgt := 31) hx hb dX12_over_24 (by decide) (fun c12 => ?_) (fun c12 => ?_)
      · have gc12 : 0 ≤ x11.toInt := (tle _ _).mp c12
        refine lv_iconst (v := 0) hx hb dX12_over_31 (by decide) ?_
        exact lab_32 x7 0 _ _ _ (by decide) hP hD hS (lv_sub hl [2, 0] rfl)
      · have gc12 : ¬ (0 ≤ x11.toInt) := fun q0 => c12 ((tle _ _).mpr q0)
        refine lv_iconst (v := 1) hx hb dX12_over_27 (by decide) ?_
        refine lv_goto (tgt := 32) hx hb dX12_over_28 (by decide) ?_
        exact lab_32 x7 1 _ _ _ (by decide) hP hD hS (lv_sub hl [2, 0] rfl)
  · have gc6 : x5.toInt = 0 := congrArg Int32.toInt c6
    refine lv_lconst (v := 0) hx hb dX12_over_6 (by decide) ?_
    rw [hQ]
    exact q_l F hr hlk () hP hD hS trivial dX12_over_7 (Nat.le_of_ble_eq_true rfl) (Nat.le_of_ble_eq_true rfl)
set_option maxHeartbeats 4000000 in
set_option maxRecDepth 100000 in
theorem s_X12_made (l : Launch) (G : Gx)  (p0 : Int32) (p1 : Int64) (p2 : Int64) (hp0 : ((10 : Int) ≤ p0.toInt ∧ p0.toInt ≤ (21 : Int))) : CtL (S := Unit) l yX12_made cX12_made 5 (some .long) (rmD 2 0 0) G [.int p0, .long p1, .long p2] [] (fun r _ => True) (fun _ => []) := by
  refine ctL_of (own := RX12) (by decide +kernel) rfl (Nat.le_of_ble_eq_true rfl) ?_
  intro p e s m below meth c A ls F hr hlk hnm hK hP hD hA hS hl
  have hx := F.1
  have hb := F.2.1
  have hown := F.2.2.2.1
  have hl : lv_has ls 5 [(0, .int p0), (1, .long p1), (3, .long p2)] := hl
  obtain ⟨Q, hQ⟩ : ∃ Q : State → Prop, Q = MQ below (va_Ql (S := Unit) (fun r _ => True) (BX G A (fun _ => [])) A) [.int p0, .long p1, .long p2].toArray s 0 0 A := ⟨_, rfl⟩
  rw [show (MQ below (va_Ql (S := Unit) (fun r _ => True) (BX G A (fun _ => [])) A) [.int p0, .long p1, .long p2].toArray s (rmD 2 0 0).cells (rmD 2 0 0).slots A) = Q from hQ.symm]
  refine lv_iload_n hx hb dX12_made_0 rfl (lv_at hl 0 rfl) ?_
  by_cases h1 : p0 = 10
  · have gh1 : p0.toInt = 10 := congrArg Int32.toInt h1
    refine cst_i h1 ?_
    refine lv_tableIn (off := 59) (tgt := 60) hx hb dX12_made_1 (by decide) (by decide) rfl (by decide) ?_
    refine lv_lload_n hx hb dX12_made_60 rfl (lv_at hl 1 rfl) ?_
    refine lv_lload_n hx hb dX12_made_61 rfl (lv_at hl 2 rfl) ?_
    refine lv_ladd hx hb dX12_made_62 ?_
    refine lv_topl (fun x2 ex2 => ?_)
    refine w0l (As := [.long x2]) (rest := []) (d := 1) F hK hP hD hS hA (s_X12_bounded l G  x2 ) kmS_X12_bounded mlX12_439 ⟨(Nat.le_of_ble_eq_true rfl), (Nat.le_of_ble_eq_true rfl)⟩ hl.1 rfl (Nat.le_of_ble_eq_true rfl) dX12_made_63 (fun r3 u4 H locs hwr3 hP hD hS => ?_)
    rw [hQ]
    exact q_l F hr hlk () hP hD hS trivial dX12_made_66 (Nat.le_of_ble_eq_true rfl) (Nat.le_of_ble_eq_true rfl)
  by_cases h5 : p0 = 11
  · have gh5 : p0.toInt = 11 := congrArg Int32.toInt h5
    refine cst_i h5 ?_
    refine lv_tableIn (off := 66) (tgt := 67) hx hb dX12_made_1 (by decide) (by decide) rfl (by decide) ?_
    refine lv_lload_n hx hb dX12_made_67 rfl (lv_at hl 1 rfl) ?_
    refine lv_lload_n hx hb dX12_made_68 rfl (lv_at hl 2 rfl) ?_
    refine lv_lsub hx hb dX12_made_69 ?_
    refine lv_topl (fun x6 ex6 => ?_)
    refine w0l (As := [.long x6]) (rest := []) (d := 1) F hK hP hD hS hA (s_X12_bounded l G  x6 ) kmS_X12_bounded mlX12_439 ⟨(Nat.le_of_ble_eq_true rfl), (Nat.le_of_ble_eq_true rfl)⟩ hl.1 rfl (Nat.le_of_ble_eq_true rfl) dX12_made_70 (fun r7 u8 H locs hwr7 hP hD hS => ?_)
    rw [hQ]
    exact q_l F hr hlk () hP hD hS trivial dX12_made_73 (Nat.le_of_ble_eq_true rfl) (Nat.le_of_ble_eq_true rfl)
  by_cases h9 : p0 = 12
  · have gh9 : p0.toInt = 12 := congrArg Int32.toInt h9
    refine cst_i h9 ?_
    refine lv_tableIn (off := 73) (tgt := 74) hx hb dX12_made_1 (by decide) (by decide) rfl (by decide) ?_
    refine lv_lload_n hx hb dX12_made_74 rfl (lv_at hl 1 rfl) ?_
    refine lv_lload_n hx hb dX12_made_75 rfl (lv_at hl 2 rfl) ?_
    refine lv_lmul hx hb dX12_made_76 ?_
    refine lv_topl (fun x10 ex10 => ?_)
    refine w0l (As := [.long x10]) (rest := []) (d := 1) F hK hP hD hS hA (s_X12_bounded l G  x10 ) kmS_X12_bounded mlX12_439 ⟨(Nat.le_of_ble_eq_true rfl), (Nat.le_of_ble_eq_true rfl)⟩ hl.1 rfl (Nat.le_of_ble_eq_true rfl) dX12_made_77 (fun r11 u12 H locs hwr11 hP hD hS => ?_)
    rw [hQ]
    exact q_l F hr hlk () hP hD hS trivial dX12_made_80 (Nat.le_of_ble_eq_true rfl) (Nat.le_of_ble_eq_true rfl)
  by_cases h13 : p0 = 13
  · have gh13 : p0.toInt = 13 := congrArg Int32.toInt h13
    refine cst_i h13 ?_
    refine lv_tableIn (off := 80) (tgt := 81) hx hb dX12_made_1 (by decide) (by decide) rfl (by decide) ?_
    refine lv_lload_n hx hb dX12_made_81 rfl (lv_at hl 1 rfl) ?_
    refine lv_lload_n hx hb dX12_made_82 rfl (lv_at hl 2 rfl) ?_
    refine w0l (As := [.long p1, .long p2]) (rest := []) (d := 1) F hK hP hD hS hA (s_X12_over l G  p1 p2 ) kmS_X12_over mlX12_443 ⟨(Nat.le_of_ble_eq_true rfl), (Nat.le_of_ble_eq_true rfl)⟩ hl.1 rfl (Nat.le_of_ble_eq_true rfl) dX12_made_83 (fun r14 u15 H locs hwr14 hP hD hS => ?_)
    rw [hQ]
    exact q_l F hr hlk () hP hD hS trivial dX12_made_86 (Nat.le_of_ble_eq_true rfl) (Nat.le_of_ble_eq_true rfl)
  by_cases h16 : p0 = 14
  · have gh16 : p0.toInt = 14 := congrArg Int32.toInt h16
    refine cst_i h16 ?_
    refine lv_tableIn (off := 86) (tgt := 87) hx hb dX12_made_1 (by decide) (by decide) rfl (by decide) ?_
    refine lv_lload_n hx hb dX12_made_87 rfl (lv_at hl 2 rfl) ?_
    refine lv_lconst (v := 0) hx hb dX12_made_88 (by decide) ?_
    refine W.lcmp hx hb dX12_made_89 ?_
    refine lv_topi (fun x17 ex17 => ?_)
    refine lv_if_ne (tgt := 97) hx hb dX12_made_90 (by decide) (fun c18 => ?_) (fun c18 => ?_)
    · have gc18 : ¬ (x17.toInt = 0) := fun q0 => c18 (Int32.toInt_inj.mp q0)
      have nc18 : ¬ p2 = 0 := fun q0 => c18 (by rw [ex17, q0]; exact lcmp_s _)
      refine lv_lload_n hx hb dX12_made_97 rfl (lv_at hl 1 rfl) ?_
      refine lv_lload_n hx hb dX12_made_98 rfl (lv_at hl 2 rfl) ?_
      refine lv_lload_n hx hb dX12_made_99 rfl (lv_at hl 1 rfl) ?_
      refine lv_lload_n hx hb dX12_made_100 rfl (lv_at hl 2 rfl) ?_
      refine w0l (As := [.long p1, .long p2]) (rest := [.long p2, .long p1]) (d := 1) F hK hP hD hS hA (s_X12_over l G  p1 p2 ) kmS_X12_over mlX12_443 ⟨(Nat.le_of_ble_eq_true rfl), (Nat.le_of_ble_eq_true rfl)⟩ hl.1 rfl (Nat.le_of_ble_eq_true rfl) dX12_made_101 (fun r19 u20 H locs hwr19 hP hD hS => ?_)
      refine lv_lmul hx hb dX12_made_104 ?_
      refine lv_topl (fun x21 ex21 => ?_)
      refine lv_lsub hx hb dX12_made_105 ?_
      refine lv_topl (fun x22 ex22 => ?_)
      rw [hQ]
      exact q_l F hr hlk () hP hD hS trivial dX12_made_106 (Nat.le_of_ble_eq_true rfl) (Nat.le_of_ble_eq_true rfl)
    · have gc18 : x17.toInt = 0 := congrArg Int32.toInt c18
      refine lv_lconst (v := 0) hx hb dX12_made_93 (by decide) ?_
      refine lv_goto (tgt := 106) hx hb dX12_made_94 (by decide) ?_
      rw [hQ]
      exact q_l F hr hlk () hP hD hS trivial dX12_made_106 (Nat.le_of_ble_eq_true rfl) (Nat.le_of_ble_eq_true rfl)
  by_cases h23 : p0 = 15
  · have gh23 : p0.toInt = 15 := congrArg Int32.toInt h23
    refine cst_i h23 ?_
    refine lv_tableIn (off := 106) (tgt := 107) hx hb dX12_made_1 (by decide) (by decide) rfl (by decide) ?_
    refine lv_lload_n hx hb dX12_made_107 rfl (lv_at hl 1 rfl) ?_
    refine lv_lload_n hx hb dX12_made_108 rfl (lv_at hl 2 rfl) ?_
    refine W.lcmp hx hb dX12_made_109 ?_
    refine lv_topi (fun x24 ex24 => ?_)
    refine lv_if_ge (tgt := 117) hx hb dX12_made_110 (by decide) (fun c25 => ?_) (fun c25 => ?_)
    · have gc25 : 0 ≤ x24.toInt := (tle _ _).mp c25
      refine lv_lload_n hx hb dX12_made_117 rfl (lv_at hl 2 rfl) ?_
      rw [hQ]
      exact q_l F hr hlk () hP hD hS trivial dX12_made_118 (Nat.le_of_ble_eq_true rfl) (Nat.le_of_ble_eq_true rfl)
    · have gc25 : ¬ (0 ≤ x24.toInt) := fun q0 => c25 ((tle _ _).mpr q0)
      refine lv_lload_n hx hb dX12_made_113 rfl (lv_at hl 1 rfl) ?_
      refine lv_goto (tgt := 118) hx hb dX12_made_114 (by decide) ?_
      rw [hQ]
      exact q_l F hr hlk () hP hD hS trivial dX12_made_118 (Nat.le_of_ble_eq_true rfl) (Nat.le_of_ble_eq_true rfl)
  by_cases h26 : p0 = 16
  · have gh26 : p0.toInt = 16 := congrArg Int32.toInt h26
    refine cst_i h26 ?_
    refine lv_tableIn (off := 118) (tgt := 119) hx hb dX12_made_1 (by decide) (by decide) rfl (by decide) ?_
    refine lv_lload_n hx hb dX12_made_119 rfl (lv_at hl 1 rfl) ?_
    refine lv_lload_n hx hb dX12_made_120 rfl (lv_at hl 2 rfl) ?_
    refine W.lcmp hx hb dX12_made_121 ?_
    refine lv_topi (fun x27 ex27 => ?_)
    refine lv_if_le (tgt := 129) hx hb dX12_made_122 (by decide) (fun c28 => ?_) (fun c28 => ?_)
    · have gc28 : x27.toInt ≤ 0 := (tle _ _).mp c28
      refine lv_lload_n hx hb dX12_made_129 rfl (lv_at hl 2 rfl) ?_
      rw [hQ]
      exact q_l F hr hlk () hP hD hS trivial dX12_made_130 (Nat.le_of_ble_eq_true rfl) (Nat.le_of_ble_eq_true rfl)
    · have gc28 : ¬ (x27.toInt ≤ 0) := fun q0 => c28 ((tle _ _).mpr q0)
      refine lv_lload_n hx hb dX12_made_125 rfl (lv_at hl 1 rfl) ?_
      refine lv_goto (tgt := 130) hx hb dX12_made_126 (by decide) ?_
      rw [hQ]
      exact q_l F hr hlk () hP hD hS trivial dX12_made_130 (Nat.le_of_ble_eq_true rfl) (Nat.le_of_ble_eq_true rfl)
  by_cases h29 : p0 = 17
  · have gh29 : p0.toInt = 17 := congrArg Int32.toInt h29
    refine cst_i h29 ?_
    refine lv_tableIn (off := 130) (tgt := 131) hx hb dX12_made_1 (by decide) (by decide) rfl (by decide) ?_
    refine lv_lload_n hx hb dX12_made_131 rfl (lv_at hl 1 rfl) ?_
    refine lv_lload_n hx hb dX12_made_132 rfl (lv_at hl 2 rfl) ?_
    refine W.lcmp hx hb dX12_made_133 ?_
    refine lv_topi (fun x30 ex30 => ?_)
    refine lv_if_ge (tgt := 141) hx hb dX12_made_134 (by decide) (fun c31 => ?_) (fun c31 => ?_)
    · have gc31 : 0 ≤ x30.toInt := (tle _ _).mp c31
      refine lv_lconst (v := 0) hx hb dX12_made_141 (by decide) ?_
      rw [hQ]
      exact q_l F hr hlk () hP hD hS trivial dX12_made_142 (Nat.le_of_ble_eq_true rfl) (Nat.le_of_ble_eq_true rfl)
    · have gc31 : ¬ (0 ≤ x30.toInt) := fun q0 => c31 ((tle _ _).mpr q0)
      refine lv_lconst (v := 1) hx hb dX12_made_137 (by decide) ?_
      refine lv_goto (tgt := 142) hx hb dX12_made_138 (by decide) ?_
      rw [hQ]
      exact q_l F hr hlk () hP hD hS trivial dX12_made_142 (Nat.le_of_ble_eq_true rfl) (Nat.le_of_ble_eq_true rfl)
  by_cases h32 : p0 = 18
  · have gh32 : p0.toInt = 18 := congrArg Int32.toInt h32
    refine cst_i h32 ?_
    refine lv_tableIn (off := 142) (tgt := 143) hx hb dX12_made_1 (by decide) (by decide) rfl (by decide) ?_
    refine lv_lload_n hx hb dX12_made_143 rfl (lv_at hl 1 rfl) ?_
    refine lv_lload_n hx hb dX12_made_144 rfl (lv_at hl 2 rfl) ?_
    refine W.lcmp hx hb dX12_made_145 ?_
    refine lv_topi (fun x33 ex33 => ?_)
    refine lv_if_le (tgt := 153) hx hb dX12_made_146 (by decide) (fun c34 => ?_) (fun c34 => ?_)
    · have gc34 : x33.toInt ≤ 0 := (tle _ _).mp c34
      refine lv_lconst (v := 0) hx hb dX12_made_153 (by decide) ?_
      rw [hQ]
      exact q_l F hr hlk () hP hD hS trivial dX12_made_154 (Nat.le_of_ble_eq_true rfl) (Nat.le_of_ble_eq_true rfl)
    · have gc34 : ¬ (x33.toInt ≤ 0) := fun q0 => c34 ((tle _ _).mpr q0)
      refine lv_lconst (v := 1) hx hb dX12_made_149 (by decide) ?_
      refine lv_goto (tgt := 154) hx hb dX12_made_150 (by decide) ?_
      rw [hQ]
      exact q_l F hr hlk () hP hD hS trivial dX12_made_154 (Nat.le_of_ble_eq_true rfl) (Nat.le_of_ble_eq_true rfl)
  by_cases h35 : p0 = 19
  · have gh35 : p0.toInt = 19 := congrArg Int32.toInt h35
    refine cst_i h35 ?_
    refine lv_tableIn (off := 154) (tgt := 155) hx hb dX12_made_1 (by decide) (by decide) rfl (by decide) ?_
    refine lv_lload_n hx hb dX12_made_155 rfl (lv_at hl 1 rfl) ?_
    refine lv_lload_n hx hb dX12_made_156 rfl (lv_at hl 2 rfl) ?_
    refine W.lcmp hx hb dX12_made_157 ?_
    refine lv_topi (fun x36 ex36 => ?_)
    refine lv_if_ne (tgt := 165) hx hb dX12_made_158 (by decide) (fun c37 => ?_) (fun c37 => ?_)
    · have gc37 : ¬ (x36.toInt = 0) := fun q0 => c37 (Int32.toInt_inj.mp q0)
      have nc37 : ¬ p1 = p2 := fun q0 => c37 (by rw [ex36, q0]; exact lcmp_s _)
      refine lv_lconst (v := 0) hx hb dX12_made_165 (by decide) ?_
      rw [hQ]
      exact q_l F hr hlk () hP hD hS trivial dX12_made_166 (Nat.le_of_ble_eq_true rfl) (Nat.le_of_ble_eq_true rfl)
    · have gc37 : x36.toInt = 0 := congrArg Int32.toInt c37
      refine lv_lconst (v := 1) hx hb dX12_made_161 (by decide) ?_
      refine lv_goto (tgt := 166) hx hb dX12_made_162 (by decide) ?_
      rw [hQ]
      exact q_l F hr hlk () hP hD hS trivial dX12_made_166 (Nat.le_of_ble_eq_true rfl) (Nat.le_of_ble_eq_true rfl)
  by_cases h38 : p0 = 20
  · have gh38 : p0.toInt = 20 := congrArg Int32.toInt h38
    refine cst_i h38 ?_
    refine lv_tableIn (off := 166) (tgt := 167) hx hb dX12_made_1 (by decide) (by decide) rfl (by decide) ?_
    refine lv_lload_n hx hb dX12_made_167 rfl (lv_at hl 1 rfl) ?_
    refine lv_lload_n hx hb dX12_made_168 rfl (lv_at hl 2 rfl) ?_
    refine lv_lmul hx hb dX12_made_169 ?_
    refine lv_topl (fun x39 ex39 => ?_)
    rw [hQ]
    exact q_l F hr hlk () hP hD hS trivial dX12_made_170 (Nat.le_of_ble_eq_true rfl) (Nat.le_of_ble_eq_true rfl)
  refine lv_tableOut (tgt := 171) hx hb dX12_made_1 (by have gh1 := lv_neT h1 (a := 10) rfl; have gh5 := lv_neT h5 (a := 11) rfl; have gh9 := lv_neT h9 (a := 12) rfl; have gh13 := lv_neT h13 (a := 13) rfl; have gh16 := lv_neT h16 (a := 14) rfl; have gh23 := lv_neT h23 (a := 15) rfl; have gh26 := lv_neT h26 (a := 16) rfl; have gh29 := lv_neT h29 (a := 17) rfl; have gh32 := lv_neT h32 (a := 18) rfl; have gh35 := lv_neT h35 (a := 19) rfl; have gh38 := lv_neT h38 (a := 20) rfl; omega) (by decide) ?_
  refine lv_lload_n hx hb dX12_made_171 rfl (lv_at hl 1 rfl) ?_
  refine lv_lload_n hx hb dX12_made_172 rfl (lv_at hl 2 rfl) ?_
  refine lv_ladd hx hb dX12_made_173 ?_
  refine lv_topl (fun x40 ex40 => ?_)
  refine lv_lconst (v := 0) hx hb dX12_made_174 (by decide) ?_
  refine W.lcmp hx hb dX12_made_175 ?_
  refine lv_topi (fun x41 ex41 => ?_)
  refine lv_if_le (tgt := 183) hx hb dX12_made_176 (by decide) (fun c42 => ?_) (fun c42 => ?_)
  · have gc42 : x41.toInt ≤ 0 := (tle _ _).mp c42
    refine lv_lconst (v := 0) hx hb dX12_made_183 (by decide) ?_
    rw [hQ]
    exact q_l F hr hlk () hP hD hS trivial dX12_made_184 (Nat.le_of_ble_eq_true rfl) (Nat.le_of_ble_eq_true rfl)
  · have gc42 : ¬ (x41.toInt ≤ 0) := fun q0 => c42 ((tle _ _).mpr q0)
    refine lv_lconst (v := 1) hx hb dX12_made_179 (by decide) ?_
    refine lv_goto (tgt := 184) hx hb dX12_made_180 (by decide) ?_
    rw [hQ]
    exact q_l F hr hlk () hP hD hS trivial dX12_made_184 (Nat.le_of_ble_eq_true rfl) (Nat.le_of_ble_eq_true rfl)
set_option maxHeartbeats 4000000 in
set_option maxRecDepth 100000 in
theorem s_X12_metOn (l : Launch) (G : Gx) (g q : Nat → Nat) (I0 : Nat → Int32) (J0 : Nat → Int64) (R0 : Nat → Nat → Int32) (L0 : Nat → Nat → Int64) (hvI : InvI Wm_lo Wm_hi I0) (hvR : InvR Wm_rl R0)  (p1 : Int32) (hp1 : ((0 : Int) ≤ p1.toInt ∧ p1.toInt ≤ (29 : Int))) : CtI (S := Unit) l yX12_metOn cX12_metOn 2 (some .int) (rmD 2 0 0) G [.ref (g 45), .int p1] (Wm G g q I0 J0 R0 L0) (fun r _ => True) (fun _ => (Wm G g q I0 J0 R0 L0)) := by
  refine ctI_of (own := RX12) (by decide +kernel) rfl (Nat.le_of_ble_eq_true rfl) ?_
  intro p e s m below meth c A ls F hr hlk hnm hK hP hD hA hS hl
  have hx := F.1
  have hb := F.2.1
  have hown := F.2.2.2.1
  have hl : lv_has ls 2 [(0, .ref (g 45)), (1, .int p1)] := hl
  obtain ⟨Q, hQ⟩ : ∃ Q : State → Prop, Q = MQ below (va_Qi (S := Unit) (fun r _ => True) (BX G A (fun _ => (Wm G g q I0 J0 R0 L0))) A) [.ref (g 45), .int p1].toArray s 0 0 A := ⟨_, rfl⟩
  rw [show (MQ below (va_Qi (S := Unit) (fun r _ => True) (BX G A (fun _ => (Wm G g q I0 J0 R0 L0))) A) [.ref (g 45), .int p1].toArray s (rmD 2 0 0).cells (rmD 2 0 0).slots A) = Q from hQ.symm]
  have hvI0 := hvI
  refine lv_aload_n hx hb dX12_metOn_0 rfl (lv_at hl 0 rfl) ?_
  refine g_get F hK hP 0 (Wm_at0 G g q I0 J0 R0 L0) clX12 58 (by decide) flX12_189 rfl dX12_metOn_1 ?_
  refine lv_aload_n hx hb dX12_metOn_4 rfl (lv_at hl 0 rfl) ?_
  refine g_get F hK hP 0 (Wm_at0 G g q I0 J0 R0 L0) clX12 31 (by decide) flX12_107 rfl dX12_metOn_5 ?_
  refine lv_bipush (v := 30) hx hb dX12_metOn_8 (by decide) ?_
  refine lv_aload_n hx hb dX12_metOn_10 rfl (lv_at hl 0 rfl) ?_
  refine g_get F hK hP 0 (Wm_at0 G g q I0 J0 R0 L0) clX12 12 (by decide) flX12_48 rfl dX12_metOn_11 ?_
  have w_I0_10 := rg (hvI0 10 (by decide)) (0) (1) rfl rfl
  refine lv_imul hx hb dX12_metOn_14 ?_
  refine lv_topi (fun x1 ex1 => ?_)
  have fx1 : x1.toInt = 30 * (I0 10).toInt := by rw [ex1]; exact t_mul (by show (-2147483648 : Int) ≤ 30 * (I0 10).toInt; omega) (by show 30 * (I0 10).toInt ≤ 2147483647; omega)
  refine lv_iload_n hx hb dX12_metOn_15 rfl (lv_at hl 1 rfl) ?_
  refine lv_iadd hx hb dX12_metOn_16 ?_
  refine lv_topi (fun x2 ex2 => ?_)
  have fx2 : x2.toInt = x1.toInt + p1.toInt := by rw [ex2]; exact t_add (by show (-2147483648 : Int) ≤ x1.toInt + p1.toInt; omega) (by show x1.toInt + p1.toInt ≤ 2147483647; omega)
  refine g_iald F hK hP 20 (Wm_at20 G g q I0 J0 R0 L0) (in_of (by omega)) dX12_metOn_17 rfl ?_
  refine lv_topi (fun x3 ex3 => ?_)
  have gx3 : x3.toInt = (R0 16 (Int32.toNatClampNeg x2)).toInt := congrArg Int32.toInt (ex3)
  have fx3 : ((0 : Int) ≤ x3.toInt ∧ x3.toInt ≤ (11 : Int)) := by rw [ex3]; exact hvR 16 (by decide) _ (clamp_lt (n := 60) (in_of (by omega)))
  refine g_iald F hK hP 41 (Wm_at41 G g q I0 J0 R0 L0) (in_of (by omega)) dX12_metOn_18 rfl ?_
  refine lv_topi (fun x4 ex4 => ?_)
  have gx4 : x4.toInt = (R0 36 (Int32.toNatClampNeg x3)).toInt := congrArg Int32.toInt (ex4)
  refine lv_aload_n hx hb dX12_metOn_19 rfl (lv_at hl 0 rfl) ?_
  refine g_get F hK hP 0 (Wm_at0 G g q I0 J0 R0 L0) clX12 58 (by decide) flX12_189 rfl dX12_metOn_20 ?_
  refine lv_aload_n hx hb dX12_metOn_23 rfl (lv_at hl 0 rfl) ?_
  refine g_get F hK hP 0 (Wm_at0 G g q I0 J0 R0 L0) clX12 32 (by decide) flX12_110 rfl dX12_metOn_24 ?_
  refine lv_bipush (v := 30) hx hb dX12_metOn_27 (by decide) ?_
  refine lv_aload_n hx hb dX12_metOn_29 rfl (lv_at hl 0 rfl) ?_
  refine g_get F hK hP 0 (Wm_at0 G g q I0 J0 R0 L0) clX12 12 (by decide) flX12_48 rfl dX12_metOn_30 ?_
  refine lv_imul hx hb dX12_metOn_33 ?_
  refine lv_topi (fun x5 ex5 => ?_)
  have fx5 : x5.toInt = 30 * (I0 10).toInt := by rw [ex5]; exact t_mul (by show (-2147483648 : Int) ≤ 30 * (I0 10).toInt; omega) (by show 30 * (I0 10).toInt ≤ 2147483647; omega)
  refine lv_iload_n hx hb dX12_metOn_34 rfl (lv_at hl 1 rfl) ?_
  refine lv_iadd hx hb dX12_metOn_35 ?_
  refine lv_topi (fun x6 ex6 => ?_)
  have fx6 : x6.toInt = x5.toInt + p1.toInt := by rw [ex6]; exact t_add (by show (-2147483648 : Int) ≤ x5.toInt + p1.toInt; omega) (by show x5.toInt + p1.toInt ≤ 2147483647; omega)
  refine g_iald F hK hP 21 (Wm_at21 G g q I0 J0 R0 L0) (in_of (by omega)) dX12_metOn_36 rfl ?_
  refine lv_topi (fun x7 ex7 => ?_)
  have gx7 : x7.toInt = (R0 17 (Int32.toNatClampNeg x6)).toInt := congrArg Int32.toInt (ex7)
  have fx7 : ((0 : Int) ≤ x7.toInt ∧ x7.toInt ≤ (11 : Int)) := by rw [ex7]; exact hvR 17 (by decide) _ (clamp_lt (n := 60) (in_of (by omega)))
  refine g_iald F hK hP 41 (Wm_at41 G g q I0 J0 R0 L0) (in_of (by omega)) dX12_metOn_37 rfl ?_
  refine lv_topi (fun x8 ex8 => ?_)
  have gx8 : x8.toInt = (R0 36 (Int32.toNatClampNeg x7)).toInt := congrArg Int32.toInt (ex8)
  refine lv_iand hx hb dX12_metOn_38 ?_
  refine lv_topi (fun x9 ex9 => ?_)
  refine w0i (As := [.int x9]) (rest := []) (d := 1) F hK hP hD hS hA (s_X12_bitsOf l G  x9 ) kmS_X12_bitsOf mlX12_469 ⟨(Nat.le_of_ble_eq_true rfl), (Nat.le_of_ble_eq_true rfl)⟩ hl.1 rfl (Nat.le_of_ble_eq_true rfl) dX12_metOn_39 (fun r10 u11 H locs hwr10 hP hD hS => ?_)
  rw [hQ]
  exact q_i F hr hlk () hP hD hS trivial dX12_metOn_42 (Nat.le_of_ble_eq_true rfl) (Nat.le_of_ble_eq_true rfl)
set_option maxHeartbeats 4000000 in
set_option maxRecDepth 100000 in
theorem s_X12_tied (l : Launch) (G : Gx) (g q : Nat → Nat) (I0 : Nat → Int32) (J0 : Nat → Int64) (R0 : Nat → Nat → Int32) (L0 : Nat → Nat → Int64) (hvI : InvI Wm_lo Wm_hi I0) (hvR : InvR Wm_rl R0)    : CtI (S := Unit) l yX12_tied cX12_tied 3 (some .int) (rmD 3 0 0) G [.ref (g 45)] (Wm G g q I0 J0 R0 L0) (fun r _ => True) (fun _ => (Wm G g q I0 J0 R0 L0)) := by
  refine ctI_of (own := RX12) (by decide +kernel) rfl (Nat.le_of_ble_eq_true rfl) ?_
  intro p e s m below meth c A ls F hr hlk hnm hK hP hD hA hS hl
  have hx := F.1
  have hb := F.2.1
  have hown := F.2.2.2.1
  have hl : lv_has ls 3 [(0, .ref (g 45))] := hl
  obtain ⟨Q, hQ⟩ : ∃ Q : State → Prop, Q = MQ below (va_Qi (S := Unit) (fun r _ => True) (BX G A (fun _ => (Wm G g q I0 J0 R0 L0))) A) [.ref (g 45)].toArray s 0 0 A := ⟨_, rfl⟩
  rw [show (MQ below (va_Qi (S := Unit) (fun r _ => True) (BX G A (fun _ => (Wm G g q I0 J0 R0 L0))) A) [.ref (g 45)].toArray s (rmD 3 0 0).cells (rmD 3 0 0).slots A) = Q from hQ.symm]
  have hvI0 := hvI
  have lab_4 : ∀ (k_4 : Nat) (a1_4 : Int32) (a2_4 : Int32) (H : Heap) (locs : List Loc) (ls : Array Slot), ((30 - a2_4.toInt) < (k_4 : Int)) → ((0 : Int) ≤ a2_4.toInt ∧ a2_4.toInt ≤ (30 : Int)) → va_P G.1 vwCl (Wm G g q I0 J0 R0 L0) H → va_D A (Wm G g q I0 J0 R0 L0) → va_S A s.heap H locs → lv_has ls 3 [(0, .ref (g 45)), (1, .int a1_4), (2, .int a2_4)] → W p l e (rmD 3 0 0) s m [.ref (g 45)].toArray below meth c H locs 0 0 Q (F0 m 4 ls []) := by
    intro k_4
    induction k_4 with
    | zero =>
      intro a1_4 a2_4 H locs ls hm y0_4 hP hD hS hl
      exact absurd hm (by omega)
    | succ k_4 ih_4 =>
      intro a1_4 a2_4 H locs ls hm y0_4 hP hD hS hl
      refine lv_iload_n hx hb dX12_tied_4 rfl (lv_at hl 2 rfl) ?_
      refine lv_aload_n hx hb dX12_tied_5 rfl (lv_at hl 0 rfl) ?_
      refine g_get F hK hP 0 (Wm_at0 G g q I0 J0 R0 L0) clX12 30 (by decide) flX12_104 rfl dX12_tied_6 ?_
      refine lv_aload_n hx hb dX12_tied_9 rfl (lv_at hl 0 rfl) ?_
      refine g_get F hK hP 0 (Wm_at0 G g q I0 J0 R0 L0) clX12 12 (by decide) flX12_48 rfl dX12_tied_10 ?_
      have w_I0_10 := rg (hvI0 10 (by decide)) (0) (1) rfl rfl
      refine g_iald F hK hP 19 (Wm_at19 G g q I0 J0 R0 L0) (in_of (by omega)) dX12_tied_13 rfl ?_
      refine lv_topi (fun x1 ex1 => ?_)
      have gx1 : x1.toInt = (R0 15 (Int32.toNatClampNeg (I0 10))).toInt := congrArg Int32.toInt (ex1)
      have fx1 : ((0 : Int) ≤ x1.toInt ∧ x1.toInt ≤ (30 : Int)) := by rw [ex1]; exact hvR 15 (by decide) _ (clamp_lt (n := 2) (in_of (by omega)))
      refine lv_icmp_ge (tgt := 46) hx hb dX12_tied_14 (by decide) (fun c2 => ?_) (fun c2 => ?_)
      · have gc2 : x1.toInt ≤ a2_4.toInt := (tle _ _).mp c2
        refine lv_iload_n hx hb dX12_tied_46 rfl (lv_at hl 1 rfl) ?_
        rw [hQ]
        exact q_i F hr hlk () hP hD hS trivial dX12_tied_47 (Nat.le_of_ble_eq_true rfl) (Nat.le_of_ble_eq_true rfl)
      · have gc2 : ¬ (x1.toInt ≤ a2_4.toInt) := fun q0 => c2 ((tle _ _).mpr q0)
        refine lv_iload_n hx hb dX12_tied_17 rfl (lv_at hl 1 rfl) ?_
        refine lv_aload_n hx hb dX12_tied_18 rfl (lv_at hl 0 rfl) ?_
        refine g_get F hK hP 0 (Wm_at0 G g q I0 J0 R0 L0) clX12 33 (by decide) flX12_113 rfl dX12_tied_19 ?_
        refine lv_bipush (v := 30) hx hb dX12_tied_22 (by decide) ?_
        refine lv_aload_n hx hb dX12_tied_24 rfl (lv_at hl 0 rfl) ?_
        refine g_get F hK hP 0 (Wm_at0 G g q I0 J0 R0 L0) clX12 12 (by decide) flX12_48 rfl dX12_tied_25 ?_
        refine lv_imul hx hb dX12_tied_28 ?_
        refine lv_topi (fun x3 ex3 => ?_)
        have fx3 : x3.toInt = 30 * (I0 10).toInt := by rw [ex3]; exact t_mul (by show (-2147483648 : Int) ≤ 30 * (I0 10).toInt; omega) (by show 30 * (I0 10).toInt ≤ 2147483647; omega)
        refine lv_iload_n hx hb dX12_tied_29 rfl (lv_at hl 2 rfl) ?_
        refine lv_iadd hx hb dX12_tied_30 ?_
        refine lv_topi (fun x4 ex4 => ?_)
        have fx4 : x4.toInt = x3.toInt + a2_4.toInt := by rw [ex4]; exact t_add (by show (-2147483648 : Int) ≤ x3.toInt + a2_4.toInt; omega) (by show x3.toInt + a2_4.toInt ≤ 2147483647; omega)
        refine g_iald F hK hP 22 (Wm_at22 G g q I0 J0 R0 L0) (in_of (by omega)) dX12_tied_31 rfl ?_
        refine lv_topi (fun x5 ex5 => ?_)
        have gx5 : x5.toInt = (R0 18 (Int32.toNatClampNeg x4)).toInt := congrArg Int32.toInt (ex5)
        refine lv_aload_n hx hb dX12_tied_32 rfl (lv_at hl 0 rfl) ?_
        refine lv_iload_n hx hb dX12_tied_33 rfl (lv_at hl 2 rfl) ?_
        refine wvi (As := [.int a2_4]) (rest := [.int x5, .int a1_4]) (b := (g 45)) (d := 2) F hK hP hD hS hA (s_X12_metOn l G g q I0 J0 R0 L0 hvI hvR  a2_4 (show ((0 : Int) ≤ a2_4.toInt ∧ a2_4.toInt ≤ (29 : Int)) from by omega)) kmV_X12_metOn mlX12_497 clX12 rfl 0 (Wm_at0 G g q I0 J0 R0 L0) ⟨(Nat.le_of_ble_eq_true rfl), (Nat.le_of_ble_eq_true rfl)⟩ hl.1 rfl (Nat.le_of_ble_eq_true rfl) dX12_tied_34 (fun r6 u7 H locs hwr6 hP hD hS => ?_)
        refine lv_imul hx hb dX12_tied_37 ?_
        refine lv_topi (fun x8 ex8 => ?_)
        refine lv_iadd hx hb dX12_tied_38 ?_
        refine lv_topi (fun x9 ex9 => ?_)
        refine lv_istore_n (lv' := [(1, .int x9), (0, .ref (g 45)), (2, .int a2_4)]) hx hb dX12_tied_39 rfl hl (by decide) rfl (fun ls hl => ?_)
        obtain ⟨x10, ex10⟩ : ∃ y : Int32, y = a2_4 + 1 := ⟨_, rfl⟩
        have fx10 : x10.toInt = a2_4.toInt + (1 : Int) := by rw [ex10]; exact t_add (by show (-2147483648 : Int) ≤ a2_4.toInt + (1 : Int); omega) (by show a2_4.toInt + (1 : Int) ≤ 2147483647; omega)
        refine lv_iinc (v := x10) (lv' := [(2, .int x10), (1, .int x9), (0, .ref (g 45))]) hx hb dX12_tied_40 hl (k := 2) rfl (by rw [ex10]; rfl) (by decide) rfl (fun ls hl => ?_)
        refine lv_goto (tgt := 4) hx hb dX12_tied_43 (by decide) ?_
        exact ih_4 x9 x10 _ _ _ (show (30 - x10.toInt) < (k_4 : Int) from by omega) (show ((0 : Int) ≤ x10.toInt ∧ x10.toInt ≤ (30 : Int)) from by omega) hP hD hS (lv_sub hl [2, 1, 0] rfl)
  refine lv_iconst (v := 0) hx hb dX12_tied_0 (by decide) ?_
  refine lv_istore_n (lv' := [(1, .int 0), (0, .ref (g 45))]) hx hb dX12_tied_1 rfl hl (by decide) rfl (fun ls hl => ?_)
  refine lv_iconst (v := 0) hx hb dX12_tied_2 (by decide) ?_
  refine lv_istore_n (lv' := [(2, .int 0), (1, .int 0), (0, .ref (g 45))]) hx hb dX12_tied_3 rfl hl (by decide) rfl (fun ls hl => ?_)
  exact lab_4 31 0 0 _ _ _ (show (30 - 0) < ((31 : Nat) : Int) from by omega) (by decide) hP hD hS (lv_sub hl [2, 1, 0] rfl)
set_option maxHeartbeats 4000000 in
set_option maxRecDepth 100000 in
theorem s_X12_least (l : Launch) (G : Gx)  (p0 : Int32) (p1 : Int32)  : CtI (S := Unit) l yX12_least cX12_least 2 (some .int) (rmD 1 0 0) G [.int p0, .int p1] [] (fun r _ => True) (fun _ => []) := by
  refine ctI_of (own := RX12) (by decide +kernel) rfl (Nat.le_of_ble_eq_true rfl) ?_
  intro p e s m below meth c A ls F hr hlk hnm hK hP hD hA hS hl
  have hx := F.1
  have hb := F.2.1
  have hown := F.2.2.2.1
  have hl : lv_has ls 2 [(0, .int p0), (1, .int p1)] := hl
  obtain ⟨Q, hQ⟩ : ∃ Q : State → Prop, Q = MQ below (va_Qi (S := Unit) (fun r _ => True) (BX G A (fun _ => [])) A) [.int p0, .int p1].toArray s 0 0 A := ⟨_, rfl⟩
  rw [show (MQ below (va_Qi (S := Unit) (fun r _ => True) (BX G A (fun _ => [])) A) [.int p0, .int p1].toArray s (rmD 1 0 0).cells (rmD 1 0 0).slots A) = Q from hQ.symm]
  refine lv_iload_n hx hb dX12_least_0 rfl (lv_at hl 0 rfl) ?_
  refine lv_iload_n hx hb dX12_least_1 rfl (lv_at hl 1 rfl) ?_
  refine lv_icmp_ge (tgt := 9) hx hb dX12_least_2 (by decide) (fun c1 => ?_) (fun c1 => ?_)
  · have gc1 : p1.toInt ≤ p0.toInt := (tle _ _).mp c1
    refine lv_iload_n hx hb dX12_least_9 rfl (lv_at hl 1 rfl) ?_
    rw [hQ]
    exact q_i F hr hlk () hP hD hS trivial dX12_least_10 (Nat.le_of_ble_eq_true rfl) (Nat.le_of_ble_eq_true rfl)
  · have gc1 : ¬ (p1.toInt ≤ p0.toInt) := fun q0 => c1 ((tle _ _).mpr q0)
    refine lv_iload_n hx hb dX12_least_5 rfl (lv_at hl 0 rfl) ?_
    refine lv_goto (tgt := 10) hx hb dX12_least_6 (by decide) ?_
    rw [hQ]
    exact q_i F hr hlk () hP hD hS trivial dX12_least_10 (Nat.le_of_ble_eq_true rfl) (Nat.le_of_ble_eq_true rfl)
set_option maxHeartbeats 4000000 in
set_option maxRecDepth 100000 in
theorem s_X12_bound (l : Launch) (G : Gx) (g q : Nat → Nat) (I0 : Nat → Int32) (J0 : Nat → Int64) (R0 : Nat → Nat → Int32) (L0 : Nat → Nat → Int64) (hvI : InvI Wm_lo Wm_hi I0) (hvR : InvR Wm_rl R0)  (p1 : Int32) (hp1 : ((0 : Int) ≤ p1.toInt ∧ p1.toInt ≤ (1 : Int))) : CtI (S := Unit) l yX12_bound cX12_bound 6 (some .int) (rmD 4 0 0) G [.ref (g 45), .int p1] (Wm G g q I0 J0 R0 L0) (fun r _ => True) (fun _ => (Wm G g q I0 J0 R0 L0)) := by
  refine ctI_of (own := RX12) (by decide +kernel) rfl (Nat.le_of_ble_eq_true rfl) ?_
  intro p e s m below meth c A ls F hr hlk hnm hK hP hD hA hS hl
  have hx := F.1
  have hb := F.2.1
  have hown := F.2.2.2.1
  have hl : lv_has ls 6 [(0, .ref (g 45)), (1, .int p1)] := hl
  obtain ⟨Q, hQ⟩ : ∃ Q : State → Prop, Q = MQ below (va_Qi (S := Unit) (fun r _ => True) (BX G A (fun _ => (Wm G g q I0 J0 R0 L0))) A) [.ref (g 45), .int p1].toArray s 0 0 A := ⟨_, rfl⟩
  rw [show (MQ below (va_Qi (S := Unit) (fun r _ => True) (BX G A (fun _ => (Wm G g q I0 J0 R0 L0))) A) [.ref (g 45), .int p1].toArray s (rmD 4 0 0).cells (rmD 4 0 0).slots A) = Q from hQ.symm]
  have hvI0 := hvI
  have lab_10 : ∀ (k_10 : Nat) (a2_10 : Int32) (a3_10 : Int32) (H : Heap) (locs : List Loc) (ls : Array Slot), ((60 - a3_10.toInt) < (k_10 : Int)) → ((0 : Int) ≤ a3_10.toInt ∧ a3_10.toInt ≤ (60 : Int)) → va_P G.1 vwCl (Wm G g q I0 J0 R0 L0) H → va_D A (Wm G g q I0 J0 R0 L0) → va_S A s.heap H locs → lv_has ls 6 [(0, .ref (g 45)), (1, .int p1), (2, .int a2_10), (3, .int a3_10)] → W p l e (rmD 4 0 0) s m [.ref (g 45), .int p1].toArray below meth c H locs 0 0 Q (F0 m 10 ls []) := by
    intro k_10
    induction k_10 with
    | zero =>
      intro a2_10 a3_10 H locs ls hm y0_10 hP hD hS hl
      exact absurd hm (by omega)
    | succ k_10 ih_10 =>
      intro a2_10 a3_10 H locs ls hm y0_10 hP hD hS hl
      refine lv_iload_n hx hb dX12_bound_10 rfl (lv_at hl 3 rfl) ?_
      refine lv_bipush (v := 30) hx hb dX12_bound_11 (by decide) ?_
      refine lv_aload_n hx hb dX12_bound_13 rfl (lv_at hl 0 rfl) ?_
      refine g_get F hK hP 0 (Wm_at0 G g q I0 J0 R0 L0) clX12 12 (by decide) flX12_48 rfl dX12_bound_14 ?_
      have w_I0_10 := rg (hvI0 10 (by decide)) (0) (1) rfl rfl
      refine lv_imul hx hb dX12_bound_17 ?_
      refine lv_topi (fun x1 ex1 => ?_)
      have fx1 : x1.toInt = 30 * (I0 10).toInt := by rw [ex1]; exact t_mul (by show (-2147483648 : Int) ≤ 30 * (I0 10).toInt; omega) (by show 30 * (I0 10).toInt ≤ 2147483647; omega)
      refine lv_aload_n hx hb dX12_bound_18 rfl (lv_at hl 0 rfl) ?_
      refine g_get F hK hP 0 (Wm_at0 G g q I0 J0 R0 L0) clX12 30 (by decide) flX12_104 rfl dX12_bound_19 ?_
      refine lv_aload_n hx hb dX12_bound_22 rfl (lv_at hl 0 rfl) ?_
      refine g_get F hK hP 0 (Wm_at0 G g q I0 J0 R0 L0) clX12 12 (by decide) flX12_48 rfl dX12_bound_23 ?_
      refine g_iald F hK hP 19 (Wm_at19 G g q I0 J0 R0 L0) (in_of (by omega)) dX12_bound_26 rfl ?_
      refine lv_topi (fun x2 ex2 => ?_)
      have gx2 : x2.toInt = (R0 15 (Int32.toNatClampNeg (I0 10))).toInt := congrArg Int32.toInt (ex2)
      have fx2 : ((0 : Int) ≤ x2.toInt ∧ x2.toInt ≤ (30 : Int)) := by rw [ex2]; exact hvR 15 (by decide) _ (clamp_lt (n := 2) (in_of (by omega)))
      refine lv_iadd hx hb dX12_bound_27 ?_
      refine lv_topi (fun x3 ex3 => ?_)
      have fx3 : x3.toInt = x1.toInt + x2.toInt := by rw [ex3]; exact t_add (by show (-2147483648 : Int) ≤ x1.toInt + x2.toInt; omega) (by show x1.toInt + x2.toInt ≤ 2147483647; omega)
      refine lv_icmp_ge (tgt := 122) hx hb dX12_bound_28 (by decide) (fun c4 => ?_) (fun c4 => ?_)
      · have gc4 : x3.toInt ≤ a3_10.toInt := (tle _ _).mp c4
        refine lv_iload_n hx hb dX12_bound_122 rfl (lv_at hl 1 rfl) ?_
        refine lv_if_eq (tgt := 135) hx hb dX12_bound_123 (by decide) (fun c5 => ?_) (fun c5 => ?_)
        · have gc5 : p1.toInt = 0 := congrArg Int32.toInt c5
          refine lv_iload_n hx hb dX12_bound_135 rfl (lv_at hl 2 rfl) ?_
          rw [hQ]
          exact q_i F hr hlk () hP hD hS trivial dX12_bound_136 (Nat.le_of_ble_eq_true rfl) (Nat.le_of_ble_eq_true rfl)
        · have gc5 : ¬ (p1.toInt = 0) := fun q0 => c5 (Int32.toInt_inj.mp q0)
          refine lv_iload_n hx hb dX12_bound_126 rfl (lv_at hl 2 rfl) ?_
          refine lv_aload_n hx hb dX12_bound_127 rfl (lv_at hl 0 rfl) ?_
          refine wvi (As := []) (rest := [.int a2_10]) (b := (g 45)) (d := 3) F hK hP hD hS hA (s_X12_tied l G g q I0 J0 R0 L0 hvI hvR   ) kmV_X12_tied mlX12_514 clX12 rfl 0 (Wm_at0 G g q I0 J0 R0 L0) ⟨(Nat.le_of_ble_eq_true rfl), (Nat.le_of_ble_eq_true rfl)⟩ hl.1 rfl (Nat.le_of_ble_eq_true rfl) dX12_bound_128 (fun r6 u7 H locs hwr6 hP hD hS => ?_)
          refine lv_isub hx hb dX12_bound_131 ?_
          refine lv_topi (fun x8 ex8 => ?_)
          refine lv_goto (tgt := 136) hx hb dX12_bound_132 (by decide) ?_
          rw [hQ]
          exact q_i F hr hlk () hP hD hS trivial dX12_bound_136 (Nat.le_of_ble_eq_true rfl) (Nat.le_of_ble_eq_true rfl)
      · have gc4 : ¬ (x3.toInt ≤ a3_10.toInt) := fun q0 => c4 ((tle _ _).mpr q0)
        refine lv_bipush (v := 12) hx hb dX12_bound_31 (by decide) ?_
        refine lv_aload_n hx hb dX12_bound_33 rfl (lv_at hl 0 rfl) ?_
        refine g_get F hK hP 0 (Wm_at0 G g q I0 J0 R0 L0) clX12 12 (by decide) flX12_48 rfl dX12_bound_34 ?_
        refine lv_imul hx hb dX12_bound_37 ?_
        refine lv_topi (fun x9 ex9 => ?_)
        have fx9 : x9.toInt = 12 * (I0 10).toInt := by rw [ex9]; exact t_mul (by show (-2147483648 : Int) ≤ 12 * (I0 10).toInt; omega) (by show 12 * (I0 10).toInt ≤ 2147483647; omega)
        refine lv_aload_n hx hb dX12_bound_38 rfl (lv_at hl 0 rfl) ?_
        refine g_get F hK hP 0 (Wm_at0 G g q I0 J0 R0 L0) clX12 31 (by decide) flX12_107 rfl dX12_bound_39 ?_
        refine lv_iload_n hx hb dX12_bound_42 rfl (lv_at hl 3 rfl) ?_
        refine g_iald F hK hP 20 (Wm_at20 G g q I0 J0 R0 L0) (in_of (by omega)) dX12_bound_43 rfl ?_
        refine lv_topi (fun x10 ex10 => ?_)
        have gx10 : x10.toInt = (R0 16 (Int32.toNatClampNeg a3_10)).toInt := congrArg Int32.toInt (ex10)
        have fx10 : ((0 : Int) ≤ x10.toInt ∧ x10.toInt ≤ (11 : Int)) := by rw [ex10]; exact hvR 16 (by decide) _ (clamp_lt (n := 60) (in_of (by omega)))
        refine lv_iadd hx hb dX12_bound_44 ?_
        refine lv_topi (fun x11 ex11 => ?_)
        have fx11 : x11.toInt = x9.toInt + x10.toInt := by rw [ex11]; exact t_add (by show (-2147483648 : Int) ≤ x9.toInt + x10.toInt; omega) (by show x9.toInt + x10.toInt ≤ 2147483647; omega)
        refine lv_istore (lv' := [(4, .int x11), (0, .ref (g 45)), (1, .int p1), (2, .int a2_10), (3, .int a3_10)]) hx hb dX12_bound_45 hl (by decide) rfl (fun ls hl => ?_)
        refine lv_bipush (v := 12) hx hb dX12_bound_47 (by decide) ?_
        refine lv_aload_n hx hb dX12_bound_49 rfl (lv_at hl 1 rfl) ?_
        refine g_get F hK hP 0 (Wm_at0 G g q I0 J0 R0 L0) clX12 12 (by decide) flX12_48 rfl dX12_bound_50 ?_
        refine lv_imul hx hb dX12_bound_53 ?_
        refine lv_topi (fun x12 ex12 => ?_)
        have fx12 : x12.toInt = 12 * (I0 10).toInt := by rw [ex12]; exact t_mul (by show (-2147483648 : Int) ≤ 12 * (I0 10).toInt; omega) (by show 12 * (I0 10).toInt ≤ 2147483647; omega)
        refine lv_aload_n hx hb dX12_bound_54 rfl (lv_at hl 1 rfl) ?_
        refine g_get F hK hP 0 (Wm_at0 G g q I0 J0 R0 L0) clX12 32 (by decide) flX12_110 rfl dX12_bound_55 ?_
        refine lv_iload_n hx hb dX12_bound_58 rfl (lv_at hl 4 rfl) ?_
        refine g_iald F hK hP 21 (Wm_at21 G g q I0 J0 R0 L0) (in_of (by omega)) dX12_bound_59 rfl ?_
        refine lv_topi (fun x13 ex13 => ?_)
        have gx13 : x13.toInt = (R0 17 (Int32.toNatClampNeg a3_10)).toInt := congrArg Int32.toInt (ex13)
        have fx13 : ((0 : Int) ≤ x13.toInt ∧ x13.toInt ≤ (11 : Int)) := by rw [ex13]; exact hvR 17 (by decide) _ (clamp_lt (n := 60) (in_of (by omega)))
        refine lv_iadd hx hb dX12_bound_60 ?_
        refine lv_topi (fun x14 ex14 => ?_)
        have fx14 : x14.toInt = x12.toInt + x13.toInt := by rw [ex14]; exact t_add (by show (-2147483648 : Int) ≤ x12.toInt + x13.toInt; omega) (by show x12.toInt + x13.toInt ≤ 2147483647; omega)
        refine lv_istore (lv' := [(5, .int x14), (4, .int x11), (0, .ref (g 45)), (1, .int p1), (2, .int a2_10), (3, .int a3_10)]) hx hb dX12_bound_61 hl (by decide) rfl (fun ls hl => ?_)
        refine lv_iload_n hx hb dX12_bound_63 rfl (lv_at hl 4 rfl) ?_
        refine lv_aload_n hx hb dX12_bound_64 rfl (lv_at hl 2 rfl) ?_
        refine g_get F hK hP 0 (Wm_at0 G g q I0 J0 R0 L0) clX12 33 (by decide) flX12_113 rfl dX12_bound_65 ?_
        refine lv_iload_n hx hb dX12_bound_68 rfl (lv_at hl 5 rfl) ?_
        refine g_iald F hK hP 22 (Wm_at22 G g q I0 J0 R0 L0) (in_of (by omega)) dX12_bound_69 rfl ?_
        refine lv_topi (fun x15 ex15 => ?_)
        have gx15 : x15.toInt = (R0 18 (Int32.toNatClampNeg a3_10)).toInt := congrArg Int32.toInt (ex15)
        refine lv_aload_n hx hb dX12_bound_70 rfl (lv_at hl 2 rfl) ?_
        refine g_get F hK hP 0 (Wm_at0 G g q I0 J0 R0 L0) clX12 24 (by decide) flX12_86 rfl dX12_bound_71 ?_
        refine lv_iload hx hb dX12_bound_74 (lv_at hl 1 rfl) ?_
        refine g_iald F hK hP 13 (Wm_at13 G g q I0 J0 R0 L0) (in_of (by omega)) dX12_bound_76 rfl ?_
        refine lv_topi (fun x16 ex16 => ?_)
        have gx16 : x16.toInt = (R0 9 (Int32.toNatClampNeg x11)).toInt := congrArg Int32.toInt (ex16)
        refine lv_aload_n hx hb dX12_bound_77 rfl (lv_at hl 2 rfl) ?_
        refine g_get F hK hP 0 (Wm_at0 G g q I0 J0 R0 L0) clX12 24 (by decide) flX12_86 rfl dX12_bound_78 ?_
        refine lv_iload hx hb dX12_bound_81 (lv_at hl 0 rfl) ?_
        refine g_iald F hK hP 13 (Wm_at13 G g q I0 J0 R0 L0) (in_of (by omega)) dX12_bound_83 rfl ?_
        refine lv_topi (fun x17 ex17 => ?_)
        have gx17 : x17.toInt = (R0 9 (Int32.toNatClampNeg x14)).toInt := congrArg Int32.toInt (ex17)
        refine w0i (As := [.int x16, .int x17]) (rest := [.int x15, .int a2_10]) (d := 1) F hK hP hD hS hA (s_X12_least l G  x16 x17 ) kmS_X12_least mlX12_542 ⟨(Nat.le_of_ble_eq_true rfl), (Nat.le_of_ble_eq_true rfl)⟩ hl.1 rfl (Nat.le_of_ble_eq_true rfl) dX12_bound_84 (fun r18 u19 H locs hwr18 hP hD hS => ?_)
        refine lv_bipush (v := 31) hx hb dX12_bound_87 (by decide) ?_
        refine lv_aload_n hx hb dX12_bound_89 rfl (lv_at hl 2 rfl) ?_
        refine g_get F hK hP 0 (Wm_at0 G g q I0 J0 R0 L0) clX12 25 (by decide) flX12_89 rfl dX12_bound_90 ?_
        refine lv_iload hx hb dX12_bound_93 (lv_at hl 1 rfl) ?_
        refine g_iald F hK hP 14 (Wm_at14 G g q I0 J0 R0 L0) (in_of (by omega)) dX12_bound_95 rfl ?_
        refine lv_topi (fun x20 ex20 => ?_)
        have gx20 : x20.toInt = (R0 10 (Int32.toNatClampNeg x11)).toInt := congrArg Int32.toInt (ex20)
        refine lv_aload_n hx hb dX12_bound_96 rfl (lv_at hl 2 rfl) ?_
        refine g_get F hK hP 0 (Wm_at0 G g q I0 J0 R0 L0) clX12 25 (by decide) flX12_89 rfl dX12_bound_97 ?_
        refine lv_iload hx hb dX12_bound_100 (lv_at hl 0 rfl) ?_
        refine g_iald F hK hP 14 (Wm_at14 G g q I0 J0 R0 L0) (in_of (by omega)) dX12_bound_102 rfl ?_
        refine lv_topi (fun x21 ex21 => ?_)
        have gx21 : x21.toInt = (R0 10 (Int32.toNatClampNeg x14)).toInt := congrArg Int32.toInt (ex21)
        refine lv_ior hx hb dX12_bound_103 ?_
        refine lv_topi (fun x22 ex22 => ?_)
        refine lv_iconst (v := (-1)) hx hb dX12_bound_104 (by decide) ?_
        refine lv_ixor hx hb dX12_bound_105 ?_
        refine lv_topi (fun x23 ex23 => ?_)
        refine lv_iand hx hb dX12_bound_106 ?_
        refine lv_topi (fun x24 ex24 => ?_)
        have fx24 : (0 : Int) ≤ x24.toInt ∧ x24.toInt ≤ (31 : Int) := by rw [ex24]; exact t_and2 (a := 31) (by decide)
        refine w0i (As := [.int x24]) (rest := [.int r18, .int x15, .int a2_10]) (d := 1) F hK hP hD hS hA (s_X12_bitsOf l G  x24 ) kmS_X12_bitsOf mlX12_469 ⟨(Nat.le_of_ble_eq_true rfl), (Nat.le_of_ble_eq_true rfl)⟩ hl.1 rfl (Nat.le_of_ble_eq_true rfl) dX12_bound_107 (fun r25 u26 H locs hwr25 hP hD hS => ?_)
        refine w0i (As := [.int r18, .int r25]) (rest := [.int x15, .int a2_10]) (d := 1) F hK hP hD hS hA (s_X12_least l G  r18 r25 ) kmS_X12_least mlX12_542 ⟨(Nat.le_of_ble_eq_true rfl), (Nat.le_of_ble_eq_true rfl)⟩ hl.1 rfl (Nat.le_of_ble_eq_true rfl) dX12_bound_110 (fun r27 u28 H locs hwr27 hP hD hS => ?_)
        refine lv_imul hx hb dX12_bound_113 ?_
        refine lv_topi (fun x29 ex29 => ?_)
        refine lv_iadd hx hb dX12_bound_114 ?_
        refine lv_topi (fun x30 ex30 => ?_)
        refine lv_istore_n (lv' := [(2, .int x30), (5, .int x14), (4, .int x11), (0, .ref (g 45)), (1, .int p1), (3, .int a3_10)]) hx hb dX12_bound_115 rfl hl (by decide) rfl (fun ls hl => ?_)
        obtain ⟨x31, ex31⟩ : ∃ y : Int32, y = a3_10 + 1 := ⟨_, rfl⟩
        have fx31 : x31.toInt = a3_10.toInt + (1 : Int) := by rw [ex31]; exact t_add (by show (-2147483648 : Int) ≤ a3_10.toInt + (1 : Int); omega) (by show a3_10.toInt + (1 : Int) ≤ 2147483647; omega)
        refine lv_iinc (v := x31) (lv' := [(3, .int x31), (2, .int x30), (5, .int x14), (4, .int x11), (0, .ref (g 45)), (1, .int p1)]) hx hb dX12_bound_116 hl (k := 5) rfl (by rw [ex31]; rfl) (by decide) rfl (fun ls hl => ?_)
        refine lv_goto (tgt := 10) hx hb dX12_bound_119 (by decide) ?_
        exact ih_10 x30 x31 _ _ _ (show (60 - x31.toInt) < (k_10 : Int) from by omega) (show ((0 : Int) ≤ x31.toInt ∧ x31.toInt ≤ (60 : Int)) from by omega) hP hD hS (lv_sub hl [4, 5, 1, 0] rfl)
  refine lv_iconst (v := 0) hx hb dX12_bound_0 (by decide) ?_
  refine lv_istore_n (lv' := [(2, .int 0), (0, .ref (g 45)), (1, .int p1)]) hx hb dX12_bound_1 rfl hl (by decide) rfl (fun ls hl => ?_)
  refine lv_bipush (v := 30) hx hb dX12_bound_2 (by decide) ?_
  refine lv_aload_n hx hb dX12_bound_4 rfl (lv_at hl 1 rfl) ?_
  refine g_get F hK hP 0 (Wm_at0 G g q I0 J0 R0 L0) clX12 12 (by decide) flX12_48 rfl dX12_bound_5 ?_
  have w_I0_10 := rg (hvI0 10 (by decide)) (0) (1) rfl rfl
  refine lv_imul hx hb dX12_bound_8 ?_
  refine lv_topi (fun x32 ex32 => ?_)
  have fx32 : x32.toInt = 30 * (I0 10).toInt := by rw [ex32]; exact t_mul (by show (-2147483648 : Int) ≤ 30 * (I0 10).toInt; omega) (by show 30 * (I0 10).toInt ≤ 2147483647; omega)
  refine lv_istore_n (lv' := [(3, .int x32), (2, .int 0), (0, .ref (g 45)), (1, .int p1)]) hx hb dX12_bound_9 rfl hl (by decide) rfl (fun ls hl => ?_)
  exact lab_10 61 0 x32 _ _ _ (show (60 - x32.toInt) < ((61 : Nat) : Int) from by omega) (show ((0 : Int) ≤ x32.toInt ∧ x32.toInt ≤ (60 : Int)) from by omega) hP hD hS (lv_sub hl [2, 3, 1, 0] rfl)
set_option maxHeartbeats 4000000 in
set_option maxRecDepth 100000 in
theorem s_X12_isWord (l : Launch) (G : Gx) (g q : Nat → Nat) (I0 : Nat → Int32) (J0 : Nat → Int64) (R0 : Nat → Nat → Int32) (L0 : Nat → Nat → Int64) (hvI : InvI Wm_lo Wm_hi I0) (hvR : InvR Wm_rl R0)  (p1 : Int64)  : CtI (S := Unit) l yX12_isWord cX12_isWord 3 (some .boolean) (rmD 1 0 0) G [.ref (g 45), .long p1] (Wm G g q I0 J0 R0 L0) (fun r _ => ((0 : Int) ≤ r.toInt ∧ r.toInt ≤ (1 : Int))) (fun _ => (Wm G g q I0 J0 R0 L0)) := by
  refine ctI_of (own := RX12) (by decide +kernel) rfl (Nat.le_of_ble_eq_true rfl) ?_
  intro p e s m below meth c A ls F hr hlk hnm hK hP hD hA hS hl
  have hx := F.1
  have hb := F.2.1
  have hown := F.2.2.2.1
  have hl : lv_has ls 3 [(0, .ref (g 45)), (1, .long p1)] := hl
  obtain ⟨Q, hQ⟩ : ∃ Q : State → Prop, Q = MQ below (va_Qi (S := Unit) (fun r _ => ((0 : Int) ≤ r.toInt ∧ r.toInt ≤ (1 : Int))) (BX G A (fun _ => (Wm G g q I0 J0 R0 L0))) A) [.ref (g 45), .long p1].toArray s 0 0 A := ⟨_, rfl⟩
  rw [show (MQ below (va_Qi (S := Unit) (fun r _ => ((0 : Int) ≤ r.toInt ∧ r.toInt ≤ (1 : Int))) (BX G A (fun _ => (Wm G g q I0 J0 R0 L0))) A) [.ref (g 45), .long p1].toArray s (rmD 1 0 0).cells (rmD 1 0 0).slots A) = Q from hQ.symm]
  have hvI0 := hvI
  refine lv_aload_n hx hb dX12_isWord_0 rfl (lv_at hl 0 rfl) ?_
  refine g_get F hK hP 0 (Wm_at0 G g q I0 J0 R0 L0) clX12 3 (by decide) flX12_20 rfl dX12_isWord_1 ?_
  have w_I0_2 := rg (hvI0 2 (by decide)) (0) (3) rfl rfl
  refine lv_iconst (v := 1) hx hb dX12_isWord_4 (by decide) ?_
  refine lv_icmp_ne (tgt := 21) hx hb dX12_isWord_5 (by decide) (fun c1 => ?_) (fun c1 => ?_)
  · have gc1 : ¬ ((I0 2).toInt = 1) := fun q0 => c1 (Int32.toInt_inj.mp q0)
    refine lv_iconst (v := 0) hx hb dX12_isWord_21 (by decide) ?_
    rw [hQ]
    exact q_z F hr hlk () hP hD hS (show ((0 : Int) ≤ 0 ∧ 0 ≤ (1 : Int)) from by omega) dX12_isWord_22 (Nat.le_of_ble_eq_true rfl) (Nat.le_of_ble_eq_true rfl) (nar01 (by decide))
  · have gc1 : (I0 2).toInt = 1 := congrArg Int32.toInt c1
    refine lv_aload_n hx hb dX12_isWord_8 rfl (lv_at hl 0 rfl) ?_
    refine g_get F hK hP 0 (Wm_at0 G g q I0 J0 R0 L0) clX12 7 (by decide) flX12_32 rfl dX12_isWord_9 ?_
    refine lv_lload_n hx hb dX12_isWord_12 rfl (lv_at hl 1 rfl) ?_
    refine W.lcmp hx hb dX12_isWord_13 ?_
    refine lv_topi (fun x2 ex2 => ?_)
    refine lv_if_ne (tgt := 21) hx hb dX12_isWord_14 (by decide) (fun c3 => ?_) (fun c3 => ?_)
    · have gc3 : ¬ (x2.toInt = 0) := fun q0 => c3 (Int32.toInt_inj.mp q0)
      have nc3 : ¬ (J0 0) = p1 := fun q0 => c3 (by rw [ex2, q0]; exact lcmp_s _)
      refine lv_iconst (v := 0) hx hb dX12_isWord_21 (by decide) ?_
      rw [hQ]
      exact q_z F hr hlk () hP hD hS (show ((0 : Int) ≤ 0 ∧ 0 ≤ (1 : Int)) from by omega) dX12_isWord_22 (Nat.le_of_ble_eq_true rfl) (Nat.le_of_ble_eq_true rfl) (nar01 (by decide))
    · have gc3 : x2.toInt = 0 := congrArg Int32.toInt c3
      refine lv_iconst (v := 1) hx hb dX12_isWord_17 (by decide) ?_
      refine lv_goto (tgt := 22) hx hb dX12_isWord_18 (by decide) ?_
      rw [hQ]
      exact q_z F hr hlk () hP hD hS (show ((0 : Int) ≤ 1 ∧ 1 ≤ (1 : Int)) from by omega) dX12_isWord_22 (Nat.le_of_ble_eq_true rfl) (Nat.le_of_ble_eq_true rfl) (nar01 (by decide))
set_option maxHeartbeats 4000000 in
set_option maxRecDepth 100000 in
theorem s_X12_isDay (l : Launch) (G : Gx)  (p0 : Int32)  : CtI (S := Unit) l yX12_isDay cX12_isDay 1 (some .boolean) (rmD 2 0 0) G [.int p0] [] (fun r _ => ((0 : Int) ≤ r.toInt ∧ r.toInt ≤ (1 : Int)) ∧ (r.toInt = 1 → (0 ≤ p0.toInt ∧ p0.toInt ≤ 4))) (fun _ => []) := by
  refine ctI_of (own := RX12) (by decide +kernel) rfl (Nat.le_of_ble_eq_true rfl) ?_
  intro p e s m below meth c A ls F hr hlk hnm hK hP hD hA hS hl
  have hx := F.1
  have hb := F.2.1
  have hown := F.2.2.2.1
  have hl : lv_has ls 1 [(0, .int p0)] := hl
  obtain ⟨Q, hQ⟩ : ∃ Q : State → Prop, Q = MQ below (va_Qi (S := Unit) (fun r _ => ((0 : Int) ≤ r.toInt ∧ r.toInt ≤ (1 : Int)) ∧ (r.toInt = 1 → (0 ≤ p0.toInt ∧ p0.toInt ≤ 4))) (BX G A (fun _ => [])) A) [.int p0].toArray s 0 0 A := ⟨_, rfl⟩
  rw [show (MQ below (va_Qi (S := Unit) (fun r _ => ((0 : Int) ≤ r.toInt ∧ r.toInt ≤ (1 : Int)) ∧ (r.toInt = 1 → (0 ≤ p0.toInt ∧ p0.toInt ≤ 4))) (BX G A (fun _ => [])) A) [.int p0].toArray s (rmD 2 0 0).cells (rmD 2 0 0).slots A) = Q from hQ.symm]
  refine lv_iload_n hx hb dX12_isDay_0 rfl (lv_at hl 0 rfl) ?_
  refine lv_iconst (v := 0) hx hb dX12_isDay_1 (by decide) ?_
  refine lv_iconst (v := 4) hx hb dX12_isDay_2 (by decide) ?_
  refine w0i (As := [.int p0, .int 0, .int 4]) (rest := []) (d := 1) F hK hP hD hS hA (s_X12_is l G  p0 0 4 (by decide) (by decide)) kmS_X12_is mlX12_316 ⟨(Nat.le_of_ble_eq_true rfl), (Nat.le_of_ble_eq_true rfl)⟩ hl.1 rfl (Nat.le_of_ble_eq_true rfl) dX12_isDay_3 (fun r1 u2 H locs hwr1 hP hD hS => ?_)
  obtain ⟨F0r1, F1r1⟩ := hwr1
  replace F0r1 : ((0 : Int) ≤ r1.toInt ∧ r1.toInt ≤ (1 : Int)) := F0r1
  replace F1r1 : (r1.toInt = 1 → ((0 : Int) ≤ p0.toInt ∧ p0.toInt ≤ (4 : Int))) := F1r1
  rw [hQ]
  exact q_z F hr hlk () hP hD hS ⟨(show ((0 : Int) ≤ r1.toInt ∧ r1.toInt ≤ (1 : Int)) from by omega), (show (r1.toInt = 1 → (0 ≤ p0.toInt ∧ p0.toInt ≤ 4)) from by omega)⟩ dX12_isDay_6 (Nat.le_of_ble_eq_true rfl) (Nat.le_of_ble_eq_true rfl) (nar01 (show ((0 : Int) ≤ r1.toInt ∧ r1.toInt ≤ (1 : Int)) from by omega))
set_option maxHeartbeats 4000000 in
set_option maxRecDepth 100000 in
theorem s_X12_day (l : Launch) (G : Gx) (g q : Nat → Nat) (I0 : Nat → Int32) (J0 : Nat → Int64) (R0 : Nat → Nat → Int32) (L0 : Nat → Nat → Int64) (hvI : InvI Wm_lo Wm_hi I0) (hvR : InvR Wm_rl R0)  (p1 : Int32) (p2 : Int32)  : CtI (S := Unit) l yX12_day cX12_day 3 (some .int) (rmD 5 0 0) G [.ref (g 45), .int p1, .int p2] (Wm G g q I0 J0 R0 L0) (fun r _ => True) (fun _ => (Wm G g q I0 J0 R0 L0)) := by
  refine ctI_of (own := RX12) (by decide +kernel) rfl (Nat.le_of_ble_eq_true rfl) ?_
  intro p e s m below meth c A ls F hr hlk hnm hK hP hD hA hS hl
  have hx := F.1
  have hb := F.2.1
  have hown := F.2.2.2.1
  have hl : lv_has ls 3 [(0, .ref (g 45)), (1, .int p1), (2, .int p2)] := hl
  obtain ⟨Q, hQ⟩ : ∃ Q : State → Prop, Q = MQ below (va_Qi (S := Unit) (fun r _ => True) (BX G A (fun _ => (Wm G g q I0 J0 R0 L0))) A) [.ref (g 45), .int p1, .int p2].toArray s 0 0 A := ⟨_, rfl⟩
  rw [show (MQ below (va_Qi (S := Unit) (fun r _ => True) (BX G A (fun _ => (Wm G g q I0 J0 R0 L0))) A) [.ref (g 45), .int p1, .int p2].toArray s (rmD 5 0 0).cells (rmD 5 0 0).slots A) = Q from hQ.symm]
  have hvI0 := hvI
  refine lv_iload_n hx hb dX12_day_0 rfl (lv_at hl 1 rfl) ?_
  refine w0i (As := [.int p1]) (rest := []) (d := 2) F hK hP hD hS hA (s_X12_isDay l G  p1 ) kmS_X12_isDay mlX12_488 ⟨(Nat.le_of_ble_eq_true rfl), (Nat.le_of_ble_eq_true rfl)⟩ hl.1 rfl (Nat.le_of_ble_eq_true rfl) dX12_day_1 (fun r1 u2 H locs hwr1 hP hD hS => ?_)
  obtain ⟨F0r1, F1r1⟩ := hwr1
  replace F0r1 : ((0 : Int) ≤ r1.toInt ∧ r1.toInt ≤ (1 : Int)) := F0r1
  replace F1r1 : (r1.toInt = 1 → (0 ≤ p1.toInt ∧ p1.toInt ≤ 4)) := F1r1
  refine lv_if_ne (tgt := 11) hx hb dX12_day_4 (by decide) (fun c3 => ?_) (fun c3 => ?_)
  · have gc3 : ¬ (r1.toInt = 0) := fun q0 => c3 (Int32.toInt_inj.mp q0)
    refine lv_iload_n hx hb dX12_day_11 rfl (lv_at hl 2 rfl) ?_
    refine lv_if_ne (tgt := 23) hx hb dX12_day_12 (by decide) (fun c4 => ?_) (fun c4 => ?_)
    · have gc4 : ¬ (p2.toInt = 0) := fun q0 => c4 (Int32.toInt_inj.mp q0)
      refine lv_iload_n hx hb dX12_day_23 rfl (lv_at hl 2 rfl) ?_
      refine lv_iconst (v := 1) hx hb dX12_day_24 (by decide) ?_
      refine lv_icmp_ne (tgt := 36) hx hb dX12_day_25 (by decide) (fun c5 => ?_) (fun c5 => ?_)
      · have gc5 : ¬ (p2.toInt = 1) := fun q0 => c5 (Int32.toInt_inj.mp q0)
        refine lv_iload_n hx hb dX12_day_36 rfl (lv_at hl 2 rfl) ?_
        refine lv_iconst (v := 2) hx hb dX12_day_37 (by decide) ?_
        refine lv_icmp_ne (tgt := 57) hx hb dX12_day_38 (by decide) (fun c6 => ?_) (fun c6 => ?_)
        · have gc6 : ¬ (p2.toInt = 2) := fun q0 => c6 (Int32.toInt_inj.mp q0)
          refine lv_iconst (v := (-1)) hx hb dX12_day_57 (by decide) ?_
          rw [hQ]
          exact q_i F hr hlk () hP hD hS trivial dX12_day_58 (Nat.le_of_ble_eq_true rfl) (Nat.le_of_ble_eq_true rfl)
        · have gc6 : p2.toInt = 2 := congrArg Int32.toInt c6
          refine lv_aload_n hx hb dX12_day_41 rfl (lv_at hl 0 rfl) ?_
          refine g_get F hK hP 0 (Wm_at0 G g q I0 J0 R0 L0) clX12 34 (by decide) flX12_116 rfl dX12_day_42 ?_
          refine lv_iconst (v := 5) hx hb dX12_day_45 (by decide) ?_
          refine lv_aload_n hx hb dX12_day_46 rfl (lv_at hl 0 rfl) ?_
          refine g_get F hK hP 0 (Wm_at0 G g q I0 J0 R0 L0) clX12 12 (by decide) flX12_48 rfl dX12_day_47 ?_
          have w_I0_10 := rg (hvI0 10 (by decide)) (0) (1) rfl rfl
          refine lv_imul hx hb dX12_day_50 ?_
          refine lv_topi (fun x7 ex7 => ?_)
          have fx7 : x7.toInt = 5 * (I0 10).toInt := by rw [ex7]; exact t_mul (by show (-2147483648 : Int) ≤ 5 * (I0 10).toInt; omega) (by show 5 * (I0 10).toInt ≤ 2147483647; omega)
          refine lv_iload_n hx hb dX12_day_51 rfl (lv_at hl 1 rfl) ?_
          refine lv_iadd hx hb dX12_day_52 ?_
          refine lv_topi (fun x8 ex8 => ?_)
          have fx8 : x8.toInt = x7.toInt + p1.toInt := by rw [ex8]; exact t_add (by show (-2147483648 : Int) ≤ x7.toInt + p1.toInt; omega) (by show x7.toInt + p1.toInt ≤ 2147483647; omega)
          refine g_iald F hK hP 23 (Wm_at23 G g q I0 J0 R0 L0) (in_of (by omega)) dX12_day_53 rfl ?_
          refine lv_topi (fun x9 ex9 => ?_)
          have gx9 : x9.toInt = (R0 19 (Int32.toNatClampNeg x8)).toInt := congrArg Int32.toInt (ex9)
          refine lv_goto (tgt := 58) hx hb dX12_day_54 (by decide) ?_
          rw [hQ]
          exact q_i F hr hlk () hP hD hS trivial dX12_day_58 (Nat.le_of_ble_eq_true rfl) (Nat.le_of_ble_eq_true rfl)
      · have gc5 : p2.toInt = 1 := congrArg Int32.toInt c5
        refine lv_aload_n hx hb dX12_day_28 rfl (lv_at hl 0 rfl) ?_
        refine lv_iload_n hx hb dX12_day_29 rfl (lv_at hl 1 rfl) ?_
        refine wvi (As := [.int p1]) (rest := []) (b := (g 45)) (d := 4) F hK hP hD hS hA (s_X12_standOn l G g q I0 J0 R0 L0 hvI hvR  p1 (show ((0 : Int) ≤ p1.toInt ∧ p1.toInt ≤ (4 : Int)) from by omega)) kmV_X12_standOn mlX12_494 clX12 rfl 0 (Wm_at0 G g q I0 J0 R0 L0) ⟨(Nat.le_of_ble_eq_true rfl), (Nat.le_of_ble_eq_true rfl)⟩ hl.1 rfl (Nat.le_of_ble_eq_true rfl) dX12_day_30 (fun r10 u11 H locs hwr10 hP hD hS => ?_)
        refine lv_goto (tgt := 58) hx hb dX12_day_33 (by decide) ?_
        rw [hQ]
        exact q_i F hr hlk () hP hD hS trivial dX12_day_58 (Nat.le_of_ble_eq_true rfl) (Nat.le_of_ble_eq_true rfl)
    · have gc4 : p2.toInt = 0 := congrArg Int32.toInt c4
      refine lv_aload_n hx hb dX12_day_15 rfl (lv_at hl 0 rfl) ?_
      refine lv_iload_n hx hb dX12_day_16 rfl (lv_at hl 1 rfl) ?_
      refine wvi (As := [.int p1]) (rest := []) (b := (g 45)) (d := 2) F hK hP hD hS hA (s_X12_inOn l G g q I0 J0 R0 L0 hvI hvR  p1 (show ((0 : Int) ≤ p1.toInt ∧ p1.toInt ≤ (4 : Int)) from by omega)) kmV_X12_inOn mlX12_491 clX12 rfl 0 (Wm_at0 G g q I0 J0 R0 L0) ⟨(Nat.le_of_ble_eq_true rfl), (Nat.le_of_ble_eq_true rfl)⟩ hl.1 rfl (Nat.le_of_ble_eq_true rfl) dX12_day_17 (fun r12 u13 H locs hwr12 hP hD hS => ?_)
      refine lv_goto (tgt := 58) hx hb dX12_day_20 (by decide) ?_
      rw [hQ]
      exact q_i F hr hlk () hP hD hS trivial dX12_day_58 (Nat.le_of_ble_eq_true rfl) (Nat.le_of_ble_eq_true rfl)
  · have gc3 : r1.toInt = 0 := congrArg Int32.toInt c3
    refine lv_iconst (v := (-1)) hx hb dX12_day_7 (by decide) ?_
    refine lv_goto (tgt := 58) hx hb dX12_day_8 (by decide) ?_
    rw [hQ]
    exact q_i F hr hlk () hP hD hS trivial dX12_day_58 (Nat.le_of_ble_eq_true rfl) (Nat.le_of_ble_eq_true rfl)
set_option maxHeartbeats 4000000 in
set_option maxRecDepth 100000 in
theorem s_X12_fitOf (l : Launch) (G : Gx) (g q : Nat → Nat) (I0 : Nat → Int32) (J0 : Nat → Int64) (R0 : Nat → Nat → Int32) (L0 : Nat → Nat → Int64) (hvI : InvI Wm_lo Wm_hi I0) (hvR : InvR Wm_rl R0)    : CtI (S := Unit) l yX12_fitOf cX12_fitOf 3 (some .int) (rmD 1 0 0) G [.ref (g 45)] (Wm G g q I0 J0 R0 L0) (fun r _ => True) (fun _ => (Wm G g q I0 J0 R0 L0)) := by
  refine ctI_of (own := RX12) (by decide +kernel) rfl (Nat.le_of_ble_eq_true rfl) ?_
  intro p e s m below meth c A ls F hr hlk hnm hK hP hD hA hS hl
  have hx := F.1
  have hb := F.2.1
  have hown := F.2.2.2.1
  have hl : lv_has ls 3 [(0, .ref (g 45))] := hl
  obtain ⟨Q, hQ⟩ : ∃ Q : State → Prop, Q = MQ below (va_Qi (S := Unit) (fun r _ => True) (BX G A (fun _ => (Wm G g q I0 J0 R0 L0))) A) [.ref (g 45)].toArray s 0 0 A := ⟨_, rfl⟩
  rw [show (MQ below (va_Qi (S := Unit) (fun r _ => True) (BX G A (fun _ => (Wm G g q I0 J0 R0 L0))) A) [.ref (g 45)].toArray s (rmD 1 0 0).cells (rmD 1 0 0).slots A) = Q from hQ.symm]
  have hvI0 := hvI
  have lab_92 : ∀ (k_92 : Nat) (a1_92 : Int32) (a2_92 : Int32) (H : Heap) (locs : List Loc) (ls : Array Slot), ((12 - a2_92.toInt) < (k_92 : Int)) → ((0 : Int) ≤ a2_92.toInt ∧ a2_92.toInt ≤ (12 : Int)) → va_P G.1 vwCl (Wm G g q I0 J0 R0 L0) H → va_D A (Wm G g q I0 J0 R0 L0) → va_S A s.heap H locs → lv_has ls 3 [(0, .ref (g 45)), (1, .int a1_92), (2, .int a2_92)] → W p l e (rmD 1 0 0) s m [.ref (g 45)].toArray below meth c H locs 0 0 Q (F0 m 92 ls []) := by
    intro k_92
    induction k_92 with
    | zero =>
      intro a1_92 a2_92 H locs ls hm y0_92 hP hD hS hl
      exact absurd hm (by omega)
    | succ k_92 ih_92 =>
      intro a1_92 a2_92 H locs ls hm y0_92 hP hD hS hl
      have lab_138 : ∀ (b0_138 : Int32) (b1_138 : Int32) (H : Heap) (locs : List Loc) (ls : Array Slot), ((0 : Int) ≤ a2_92.toInt ∧ a2_92.toInt ≤ (11 : Int)) → va_P G.1 vwCl (Wm G g q I0 J0 R0 L0) H → va_D A (Wm G g q I0 J0 R0 L0) → va_S A s.heap H locs → lv_has ls 3 [(0, .ref (g 45)), (2, .int a2_92)] → W p l e (rmD 1 0 0) s m [.ref (g 45)].toArray below meth c H locs 0 0 Q (F0 m 138 ls [.int b0_138, .int b1_138]) := by
        intro b0_138 b1_138 H locs ls y0_138 hP hD hS hl
        refine lv_isub hx hb dX12_fitOf_138 ?_
        refine lv_topi (fun x1 ex1 => ?_)
        refine lv_istore_n (lv' := [(1, .int x1), (0, .ref (g 45)), (2, .int a2_92)]) hx hb dX12_fitOf_139 rfl hl (by decide) rfl (fun ls hl => ?_)
        obtain ⟨x2, ex2⟩ : ∃ y : Int32, y = a2_92 + 1 := ⟨_, rfl⟩
        have fx2 : x2.toInt = a2_92.toInt + (1 : Int) := by rw [ex2]; exact t_add (by show (-2147483648 : Int) ≤ a2_92.toInt + (1 : Int); omega) (by show a2_92.toInt + (1 : Int) ≤ 2147483647; omega)
        refine lv_iinc (v := x2) (lv' := [(2, .int x2), (1, .int x1), (0, .ref (g 45))]) hx hb dX12_fitOf_140 hl (k := 2) rfl (by rw [ex2]; rfl) (by decide) rfl (fun ls hl => ?_)
        refine lv_goto (tgt := 92) hx hb dX12_fitOf_143 (by decide) ?_
        exact ih_92 x1 x2 _ _ _ (show (12 - x2.toInt) < (k_92 : Int) from by omega) (show ((0 : Int) ≤ x2.toInt ∧ x2.toInt ≤ (12 : Int)) from by omega) hP hD hS (lv_sub hl [2, 1, 0] rfl)
      refine lv_iload_n hx hb dX12_fitOf_92 rfl (lv_at hl 2 rfl) ?_
      refine lv_aload_n hx hb dX12_fitOf_93 rfl (lv_at hl 0 rfl) ?_
      refine g_get F hK hP 0 (Wm_at0 G g q I0 J0 R0 L0) clX12 21 (by decide) flX12_77 rfl dX12_fitOf_94 ?_
      refine lv_aload_n hx hb dX12_fitOf_97 rfl (lv_at hl 0 rfl) ?_
      refine g_get F hK hP 0 (Wm_at0 G g q I0 J0 R0 L0) clX12 12 (by decide) flX12_48 rfl dX12_fitOf_98 ?_
      have w_I0_10 := rg (hvI0 10 (by decide)) (0) (1) rfl rfl
      refine g_iald F hK hP 10 (Wm_at10 G g q I0 J0 R0 L0) (in_of (by omega)) dX12_fitOf_101 rfl ?_
      refine lv_topi (fun x3 ex3 => ?_)
      have gx3 : x3.toInt = (R0 7 (Int32.toNatClampNeg (I0 10))).toInt := congrArg Int32.toInt (ex3)
      have fx3 : ((0 : Int) ≤ x3.toInt ∧ x3.toInt ≤ (12 : Int)) := by rw [ex3]; exact hvR 7 (by decide) _ (clamp_lt (n := 2) (in_of (by omega)))
      refine lv_icmp_ge (tgt := 146) hx hb dX12_fitOf_102 (by decide) (fun c4 => ?_) (fun c4 => ?_)
      · have gc4 : x3.toInt ≤ a2_92.toInt := (tle _ _).mp c4
        refine lv_iload_n hx hb dX12_fitOf_146 rfl (lv_at hl 1 rfl) ?_
        rw [hQ]
        exact q_i F hr hlk () hP hD hS trivial dX12_fitOf_147 (Nat.le_of_ble_eq_true rfl) (Nat.le_of_ble_eq_true rfl)
      · have gc4 : ¬ (x3.toInt ≤ a2_92.toInt) := fun q0 => c4 ((tle _ _).mpr q0)
        refine lv_iload_n hx hb dX12_fitOf_105 rfl (lv_at hl 1 rfl) ?_
        refine lv_aload_n hx hb dX12_fitOf_106 rfl (lv_at hl 0 rfl) ?_
        refine g_get F hK hP 0 (Wm_at0 G g q I0 J0 R0 L0) clX12 67 (by decide) flX12_216 rfl dX12_fitOf_107 ?_
        refine lv_iload_n hx hb dX12_fitOf_110 rfl (lv_at hl 2 rfl) ?_
        refine g_iald F hK hP 44 (Wm_at44 G g q I0 J0 R0 L0) (in_of (by omega)) dX12_fitOf_111 rfl ?_
        refine lv_topi (fun x5 ex5 => ?_)
        have gx5 : x5.toInt = (R0 38 (Int32.toNatClampNeg a2_92)).toInt := congrArg Int32.toInt (ex5)
        have fx5 : ((-1 : Int) ≤ x5.toInt ∧ x5.toInt ≤ (4 : Int)) := by rw [ex5]; exact hvR 38 (by decide) _ (clamp_lt (n := 12) (in_of (by omega)))
        refine lv_iconst (v := (-1)) hx hb dX12_fitOf_112 (by decide) ?_
        refine lv_icmp_eq (tgt := 137) hx hb dX12_fitOf_113 (by decide) (fun c6 => ?_) (fun c6 => ?_)
        · have gc6 : x5.toInt = (-1) := congrArg Int32.toInt c6
          refine lv_iconst (v := 0) hx hb dX12_fitOf_137 (by decide) ?_
          exact lab_138 0 a1_92 _ _ _ (show ((0 : Int) ≤ a2_92.toInt ∧ a2_92.toInt ≤ (11 : Int)) from by omega) hP hD hS (lv_sub hl [0, 2] rfl)
        · have gc6 : ¬ (x5.toInt = (-1)) := fun q0 => c6 (Int32.toInt_inj.mp q0)
          refine lv_aload_n hx hb dX12_fitOf_116 rfl (lv_at hl 0 rfl) ?_
          refine g_get F hK hP 0 (Wm_at0 G g q I0 J0 R0 L0) clX12 16 (by decide) flX12_61 rfl dX12_fitOf_117 ?_
          refine lv_iconst (v := 5) hx hb dX12_fitOf_120 (by decide) ?_
          refine lv_aload_n hx hb dX12_fitOf_121 rfl (lv_at hl 0 rfl) ?_
          refine g_get F hK hP 0 (Wm_at0 G g q I0 J0 R0 L0) clX12 12 (by decide) flX12_48 rfl dX12_fitOf_122 ?_
          refine lv_imul hx hb dX12_fitOf_125 ?_
          refine lv_topi (fun x7 ex7 => ?_)
          have fx7 : x7.toInt = 5 * (I0 10).toInt := by rw [ex7]; exact t_mul (by show (-2147483648 : Int) ≤ 5 * (I0 10).toInt; omega) (by show 5 * (I0 10).toInt ≤ 2147483647; omega)
          refine lv_aload_n hx hb dX12_fitOf_126 rfl (lv_at hl 0 rfl) ?_
          refine g_get F hK hP 0 (Wm_at0 G g q I0 J0 R0 L0) clX12 67 (by decide) flX12_216 rfl dX12_fitOf_127 ?_
          refine lv_iload_n hx hb dX12_fitOf_130 rfl (lv_at hl 2 rfl) ?_
          refine g_iald F hK hP 44 (Wm_at44 G g q I0 J0 R0 L0) (in_of (by omega)) dX12_fitOf_131 rfl ?_
          refine lv_topi (fun x8 ex8 => ?_)
          have gx8 : x8.toInt = (R0 38 (Int32.toNatClampNeg a2_92)).toInt := congrArg Int32.toInt (ex8)
          have fx8 : ((-1 : Int) ≤ x8.toInt ∧ x8.toInt ≤ (4 : Int)) := by rw [ex8]; exact hvR 38 (by decide) _ (clamp_lt (n := 12) (in_of (by omega)))
          refine lv_iadd hx hb dX12_fitOf_132 ?_
          refine lv_topi (fun x9 ex9 => ?_)
          have fx9 : x9.toInt = x7.toInt + x8.toInt := by rw [ex9]; exact t_add (by show (-2147483648 : Int) ≤ x7.toInt + x8.toInt; omega) (by show x7.toInt + x8.toInt ≤ 2147483647; omega)
          refine g_iald F hK hP 5 (Wm_at5 G g q I0 J0 R0 L0) (in_of (by omega)) dX12_fitOf_133 rfl ?_
          refine lv_topi (fun x10 ex10 => ?_)
          have gx10 : x10.toInt = (R0 3 (Int32.toNatClampNeg x9)).toInt := congrArg Int32.toInt (ex10)
          refine lv_goto (tgt := 138) hx hb dX12_fitOf_134 (by decide) ?_
          exact lab_138 x10 a1_92 _ _ _ (show ((0 : Int) ≤ a2_92.toInt ∧ a2_92.toInt ≤ (11 : Int)) from by omega) hP hD hS (lv_sub hl [0, 2] rfl)
  have lab_10 : ∀ (k_10 : Nat) (a1_10 : Int32) (a2_10 : Int32) (H : Heap) (locs : List Loc) (ls : Array Slot), ((60 - a2_10.toInt) < (k_10 : Int)) → ((0 : Int) ≤ a2_10.toInt ∧ a2_10.toInt ≤ (60 : Int)) → va_P G.1 vwCl (Wm G g q I0 J0 R0 L0) H → va_D A (Wm G g q I0 J0 R0 L0) → va_S A s.heap H locs → lv_has ls 3 [(0, .ref (g 45)), (1, .int a1_10), (2, .int a2_10)] → W p l e (rmD 1 0 0) s m [.ref (g 45)].toArray below meth c H locs 0 0 Q (F0 m 10 ls []) := by
    intro k_10
    induction k_10 with
    | zero =>
      intro a1_10 a2_10 H locs ls hm y0_10 hP hD hS hl
      exact absurd hm (by omega)
    | succ k_10 ih_10 =>
      intro a1_10 a2_10 H locs ls hm y0_10 hP hD hS hl
      have lab_82 : ∀ (b0_82 : Int32) (b1_82 : Int32) (H : Heap) (locs : List Loc) (ls : Array Slot), ((0 : Int) ≤ a2_10.toInt ∧ a2_10.toInt ≤ (59 : Int)) → va_P G.1 vwCl (Wm G g q I0 J0 R0 L0) H → va_D A (Wm G g q I0 J0 R0 L0) → va_S A s.heap H locs → lv_has ls 3 [(0, .ref (g 45)), (2, .int a2_10)] → W p l e (rmD 1 0 0) s m [.ref (g 45)].toArray below meth c H locs 0 0 Q (F0 m 82 ls [.int b0_82, .int b1_82]) := by
        intro b0_82 b1_82 H locs ls y0_82 hP hD hS hl
        refine lv_iadd hx hb dX12_fitOf_82 ?_
        refine lv_topi (fun x11 ex11 => ?_)
        refine lv_istore_n (lv' := [(1, .int x11), (0, .ref (g 45)), (2, .int a2_10)]) hx hb dX12_fitOf_83 rfl hl (by decide) rfl (fun ls hl => ?_)
        obtain ⟨x12, ex12⟩ : ∃ y : Int32, y = a2_10 + 1 := ⟨_, rfl⟩
        have fx12 : x12.toInt = a2_10.toInt + (1 : Int) := by rw [ex12]; exact t_add (by show (-2147483648 : Int) ≤ a2_10.toInt + (1 : Int); omega) (by show a2_10.toInt + (1 : Int) ≤ 2147483647; omega)
        refine lv_iinc (v := x12) (lv' := [(2, .int x12), (1, .int x11), (0, .ref (g 45))]) hx hb dX12_fitOf_84 hl (k := 2) rfl (by rw [ex12]; rfl) (by decide) rfl (fun ls hl => ?_)
        refine lv_goto (tgt := 10) hx hb dX12_fitOf_87 (by decide) ?_
        exact ih_10 x11 x12 _ _ _ (show (60 - x12.toInt) < (k_10 : Int) from by omega) (show ((0 : Int) ≤ x12.toInt ∧ x12.toInt ≤ (60 : Int)) from by omega) hP hD hS (lv_sub hl [2, 1, 0] rfl)
      have lab_81 : ∀ (b0_81 : Int32) (H : Heap) (locs : List Loc) (ls : Array Slot), ((0 : Int) ≤ a2_10.toInt ∧ a2_10.toInt ≤ (59 : Int)) → va_P G.1 vwCl (Wm G g q I0 J0 R0 L0) H → va_D A (Wm G g q I0 J0 R0 L0) → va_S A s.heap H locs → lv_has ls 3 [(0, .ref (g 45)), (2, .int a2_10)] → W p l e (rmD 1 0 0) s m [.ref (g 45)].toArray below meth c H locs 0 0 Q (F0 m 81 ls [.int b0_81]) := by
        intro b0_81 H locs ls y0_81 hP hD hS hl
        refine lv_iconst (v := 0) hx hb dX12_fitOf_81 (by decide) ?_
        exact lab_82 0 b0_81 _ _ _ (show ((0 : Int) ≤ a2_10.toInt ∧ a2_10.toInt ≤ (59 : Int)) from by omega) hP hD hS (lv_sub hl [0, 1] rfl)
      refine lv_iload_n hx hb dX12_fitOf_10 rfl (lv_at hl 2 rfl) ?_
      refine lv_bipush (v := 30) hx hb dX12_fitOf_11 (by decide) ?_
      refine lv_aload_n hx hb dX12_fitOf_13 rfl (lv_at hl 0 rfl) ?_
      refine g_get F hK hP 0 (Wm_at0 G g q I0 J0 R0 L0) clX12 12 (by decide) flX12_48 rfl dX12_fitOf_14 ?_
      have w_I0_10 := rg (hvI0 10 (by decide)) (0) (1) rfl rfl
      refine lv_imul hx hb dX12_fitOf_17 ?_
      refine lv_topi (fun x13 ex13 => ?_)
      have fx13 : x13.toInt = 30 * (I0 10).toInt := by rw [ex13]; exact t_mul (by show (-2147483648 : Int) ≤ 30 * (I0 10).toInt; omega) (by show 30 * (I0 10).toInt ≤ 2147483647; omega)
      refine lv_aload_n hx hb dX12_fitOf_18 rfl (lv_at hl 0 rfl) ?_
      refine g_get F hK hP 0 (Wm_at0 G g q I0 J0 R0 L0) clX12 30 (by decide) flX12_104 rfl dX12_fitOf_19 ?_
      refine lv_aload_n hx hb dX12_fitOf_22 rfl (lv_at hl 0 rfl) ?_
      refine g_get F hK hP 0 (Wm_at0 G g q I0 J0 R0 L0) clX12 12 (by decide) flX12_48 rfl dX12_fitOf_23 ?_
      refine g_iald F hK hP 19 (Wm_at19 G g q I0 J0 R0 L0) (in_of (by omega)) dX12_fitOf_26 rfl ?_
      refine lv_topi (fun x14 ex14 => ?_)
      have gx14 : x14.toInt = (R0 15 (Int32.toNatClampNeg (I0 10))).toInt := congrArg Int32.toInt (ex14)
      have fx14 : ((0 : Int) ≤ x14.toInt ∧ x14.toInt ≤ (30 : Int)) := by rw [ex14]; exact hvR 15 (by decide) _ (clamp_lt (n := 2) (in_of (by omega)))
      refine lv_iadd hx hb dX12_fitOf_27 ?_
      refine lv_topi (fun x15 ex15 => ?_)
      have fx15 : x15.toInt = x13.toInt + x14.toInt := by rw [ex15]; exact t_add (by show (-2147483648 : Int) ≤ x13.toInt + x14.toInt; omega) (by show x13.toInt + x14.toInt ≤ 2147483647; omega)
      refine lv_icmp_ge (tgt := 90) hx hb dX12_fitOf_28 (by decide) (fun c16 => ?_) (fun c16 => ?_)
      · have gc16 : x15.toInt ≤ a2_10.toInt := (tle _ _).mp c16
        refine lv_iconst (v := 0) hx hb dX12_fitOf_90 (by decide) ?_
        refine lv_istore_n (lv' := [(2, .int 0), (0, .ref (g 45)), (1, .int a1_10)]) hx hb dX12_fitOf_91 rfl hl (by decide) rfl (fun ls hl => ?_)
        exact lab_92 13 a1_10 0 _ _ _ (show (12 - 0) < ((13 : Nat) : Int) from by omega) (by decide) hP hD hS (lv_sub hl [1, 2, 0] rfl)
      · have gc16 : ¬ (x15.toInt ≤ a2_10.toInt) := fun q0 => c16 ((tle _ _).mpr q0)
        refine lv_iload_n hx hb dX12_fitOf_31 rfl (lv_at hl 1 rfl) ?_
        refine lv_aload_n hx hb dX12_fitOf_32 rfl (lv_at hl 0 rfl) ?_
        refine g_get F hK hP 0 (Wm_at0 G g q I0 J0 R0 L0) clX12 67 (by decide) flX12_216 rfl dX12_fitOf_33 ?_
        refine lv_aload_n hx hb dX12_fitOf_36 rfl (lv_at hl 0 rfl) ?_
        refine g_get F hK hP 0 (Wm_at0 G g q I0 J0 R0 L0) clX12 31 (by decide) flX12_107 rfl dX12_fitOf_37 ?_
        refine lv_iload_n hx hb dX12_fitOf_40 rfl (lv_at hl 2 rfl) ?_
        refine g_iald F hK hP 20 (Wm_at20 G g q I0 J0 R0 L0) (in_of (by omega)) dX12_fitOf_41 rfl ?_
        refine lv_topi (fun x17 ex17 => ?_)
        have gx17 : x17.toInt = (R0 16 (Int32.toNatClampNeg a2_10)).toInt := congrArg Int32.toInt (ex17)
        have fx17 : ((0 : Int) ≤ x17.toInt ∧ x17.toInt ≤ (11 : Int)) := by rw [ex17]; exact hvR 16 (by decide) _ (clamp_lt (n := 60) (in_of (by omega)))
        refine g_iald F hK hP 44 (Wm_at44 G g q I0 J0 R0 L0) (in_of (by omega)) dX12_fitOf_42 rfl ?_
        refine lv_topi (fun x18 ex18 => ?_)
        have gx18 : x18.toInt = (R0 38 (Int32.toNatClampNeg x17)).toInt := congrArg Int32.toInt (ex18)
        have fx18 : ((-1 : Int) ≤ x18.toInt ∧ x18.toInt ≤ (4 : Int)) := by rw [ex18]; exact hvR 38 (by decide) _ (clamp_lt (n := 12) (in_of (by omega)))
        refine lv_iconst (v := (-1)) hx hb dX12_fitOf_43 (by decide) ?_
        refine lv_icmp_eq (tgt := 81) hx hb dX12_fitOf_44 (by decide) (fun c19 => ?_) (fun c19 => ?_)
        · have gc19 : x18.toInt = (-1) := congrArg Int32.toInt c19
          exact lab_81 a1_10 _ _ _ (show ((0 : Int) ≤ a2_10.toInt ∧ a2_10.toInt ≤ (59 : Int)) from by omega) hP hD hS (lv_sub hl [0, 2] rfl)
        · have gc19 : ¬ (x18.toInt = (-1)) := fun q0 => c19 (Int32.toInt_inj.mp q0)
          refine lv_aload_n hx hb dX12_fitOf_47 rfl (lv_at hl 0 rfl) ?_
          refine g_get F hK hP 0 (Wm_at0 G g q I0 J0 R0 L0) clX12 67 (by decide) flX12_216 rfl dX12_fitOf_48 ?_
          refine lv_aload_n hx hb dX12_fitOf_51 rfl (lv_at hl 0 rfl) ?_
          refine g_get F hK hP 0 (Wm_at0 G g q I0 J0 R0 L0) clX12 31 (by decide) flX12_107 rfl dX12_fitOf_52 ?_
          refine lv_iload_n hx hb dX12_fitOf_55 rfl (lv_at hl 2 rfl) ?_
          refine g_iald F hK hP 20 (Wm_at20 G g q I0 J0 R0 L0) (in_of (by omega)) dX12_fitOf_56 rfl ?_
          refine lv_topi (fun x20 ex20 => ?_)
          have gx20 : x20.toInt = (R0 16 (Int32.toNatClampNeg a2_10)).toInt := congrArg Int32.toInt (ex20)
          have fx20 : ((0 : Int) ≤ x20.toInt ∧ x20.toInt ≤ (11 : Int)) := by rw [ex20]; exact hvR 16 (by decide) _ (clamp_lt (n := 60) (in_of (by omega)))
          refine g_iald F hK hP 44 (Wm_at44 G g q I0 J0 R0 L0) (in_of (by omega)) dX12_fitOf_57 rfl ?_
          refine lv_topi (fun x21 ex21 => ?_)
          have gx21 : x21.toInt = (R0 38 (Int32.toNatClampNeg x20)).toInt := congrArg Int32.toInt (ex21)
          have fx21 : ((-1 : Int) ≤ x21.toInt ∧ x21.toInt ≤ (4 : Int)) := by rw [ex21]; exact hvR 38 (by decide) _ (clamp_lt (n := 12) (in_of (by omega)))
          refine lv_aload_n hx hb dX12_fitOf_58 rfl (lv_at hl 0 rfl) ?_
          refine g_get F hK hP 0 (Wm_at0 G g q I0 J0 R0 L0) clX12 67 (by decide) flX12_216 rfl dX12_fitOf_59 ?_
          refine lv_aload_n hx hb dX12_fitOf_62 rfl (lv_at hl 0 rfl) ?_
          refine g_get F hK hP 0 (Wm_at0 G g q I0 J0 R0 L0) clX12 32 (by decide) flX12_110 rfl dX12_fitOf_63 ?_
          refine lv_iload_n hx hb dX12_fitOf_66 rfl (lv_at hl 2 rfl) ?_
          refine g_iald F hK hP 21 (Wm_at21 G g q I0 J0 R0 L0) (in_of (by omega)) dX12_fitOf_67 rfl ?_
          refine lv_topi (fun x22 ex22 => ?_)
          have gx22 : x22.toInt = (R0 17 (Int32.toNatClampNeg a2_10)).toInt := congrArg Int32.toInt (ex22)
          have fx22 : ((0 : Int) ≤ x22.toInt ∧ x22.toInt ≤ (11 : Int)) := by rw [ex22]; exact hvR 17 (by decide) _ (clamp_lt (n := 60) (in_of (by omega)))
          refine g_iald F hK hP 44 (Wm_at44 G g q I0 J0 R0 L0) (in_of (by omega)) dX12_fitOf_68 rfl ?_
          refine lv_topi (fun x23 ex23 => ?_)
          have gx23 : x23.toInt = (R0 38 (Int32.toNatClampNeg x22)).toInt := congrArg Int32.toInt (ex23)
          have fx23 : ((-1 : Int) ≤ x23.toInt ∧ x23.toInt ≤ (4 : Int)) := by rw [ex23]; exact hvR 38 (by decide) _ (clamp_lt (n := 12) (in_of (by omega)))
          refine lv_icmp_ne (tgt := 81) hx hb dX12_fitOf_69 (by decide) (fun c24 => ?_) (fun c24 => ?_)
          · have gc24 : ¬ (x21.toInt = x23.toInt) := fun q0 => c24 (Int32.toInt_inj.mp q0)
            exact lab_81 a1_10 _ _ _ (show ((0 : Int) ≤ a2_10.toInt ∧ a2_10.toInt ≤ (59 : Int)) from by omega) hP hD hS (lv_sub hl [0, 2] rfl)
          · have gc24 : x21.toInt = x23.toInt := congrArg Int32.toInt c24
            refine lv_aload_n hx hb dX12_fitOf_72 rfl (lv_at hl 0 rfl) ?_
            refine g_get F hK hP 0 (Wm_at0 G g q I0 J0 R0 L0) clX12 33 (by decide) flX12_113 rfl dX12_fitOf_73 ?_
            refine lv_iload_n hx hb dX12_fitOf_76 rfl (lv_at hl 2 rfl) ?_
            refine g_iald F hK hP 22 (Wm_at22 G g q I0 J0 R0 L0) (in_of (by omega)) dX12_fitOf_77 rfl ?_
            refine lv_topi (fun x25 ex25 => ?_)
            have gx25 : x25.toInt = (R0 18 (Int32.toNatClampNeg a2_10)).toInt := congrArg Int32.toInt (ex25)
            refine lv_goto (tgt := 82) hx hb dX12_fitOf_78 (by decide) ?_
            exact lab_82 x25 a1_10 _ _ _ (show ((0 : Int) ≤ a2_10.toInt ∧ a2_10.toInt ≤ (59 : Int)) from by omega) hP hD hS (lv_sub hl [0, 2] rfl)
  refine lv_iconst (v := 0) hx hb dX12_fitOf_0 (by decide) ?_
  refine lv_istore_n (lv' := [(1, .int 0), (0, .ref (g 45))]) hx hb dX12_fitOf_1 rfl hl (by decide) rfl (fun ls hl => ?_)
  refine lv_bipush (v := 30) hx hb dX12_fitOf_2 (by decide) ?_
  refine lv_aload_n hx hb dX12_fitOf_4 rfl (lv_at hl 1 rfl) ?_
  refine g_get F hK hP 0 (Wm_at0 G g q I0 J0 R0 L0) clX12 12 (by decide) flX12_48 rfl dX12_fitOf_5 ?_
  have w_I0_10 := rg (hvI0 10 (by decide)) (0) (1) rfl rfl
  refine lv_imul hx hb dX12_fitOf_8 ?_
  refine lv_topi (fun x26 ex26 => ?_)
  have fx26 : x26.toInt = 30 * (I0 10).toInt := by rw [ex26]; exact t_mul (by show (-2147483648 : Int) ≤ 30 * (I0 10).toInt; omega) (by show 30 * (I0 10).toInt ≤ 2147483647; omega)
  refine lv_istore_n (lv' := [(2, .int x26), (1, .int 0), (0, .ref (g 45))]) hx hb dX12_fitOf_9 rfl hl (by decide) rfl (fun ls hl => ?_)
  exact lab_10 61 0 x26 _ _ _ (show (60 - x26.toInt) < ((61 : Nat) : Int) from by omega) (show ((0 : Int) ≤ x26.toInt ∧ x26.toInt ≤ (60 : Int)) from by omega) hP hD hS (lv_sub hl [2, 1, 0] rfl)
set_option maxHeartbeats 4000000 in
set_option maxRecDepth 100000 in
theorem s_X12_isMovable (l : Launch) (G : Gx) (g q : Nat → Nat) (I0 : Nat → Int32) (J0 : Nat → Int64) (R0 : Nat → Nat → Int32) (L0 : Nat → Nat → Int64) (hvI : InvI Wm_lo Wm_hi I0) (hvR : InvR Wm_rl R0)  (p1 : Int32) (hp1 : ((0 : Int) ≤ p1.toInt ∧ p1.toInt ≤ (11 : Int))) : CtI (S := Unit) l yX12_isMovable cX12_isMovable 2 (some .boolean) (rmD 2 0 0) G [.ref (g 45), .int p1] (Wm G g q I0 J0 R0 L0) (fun r _ => ((0 : Int) ≤ r.toInt ∧ r.toInt ≤ (1 : Int))) (fun _ => (Wm G g q I0 J0 R0 L0)) := by
  refine ctI_of (own := RX12) (by decide +kernel) rfl (Nat.le_of_ble_eq_true rfl) ?_
  intro p e s m below meth c A ls F hr hlk hnm hK hP hD hA hS hl
  have hx := F.1
  have hb := F.2.1
  have hown := F.2.2.2.1
  have hl : lv_has ls 2 [(0, .ref (g 45)), (1, .int p1)] := hl
  obtain ⟨Q, hQ⟩ : ∃ Q : State → Prop, Q = MQ below (va_Qi (S := Unit) (fun r _ => ((0 : Int) ≤ r.toInt ∧ r.toInt ≤ (1 : Int))) (BX G A (fun _ => (Wm G g q I0 J0 R0 L0))) A) [.ref (g 45), .int p1].toArray s 0 0 A := ⟨_, rfl⟩
  rw [show (MQ below (va_Qi (S := Unit) (fun r _ => ((0 : Int) ≤ r.toInt ∧ r.toInt ≤ (1 : Int))) (BX G A (fun _ => (Wm G g q I0 J0 R0 L0))) A) [.ref (g 45), .int p1].toArray s (rmD 2 0 0).cells (rmD 2 0 0).slots A) = Q from hQ.symm]
  have hvI0 := hvI
  refine lv_aload_n hx hb dX12_isMovable_0 rfl (lv_at hl 0 rfl) ?_
  refine g_get F hK hP 0 (Wm_at0 G g q I0 J0 R0 L0) clX12 67 (by decide) flX12_216 rfl dX12_isMovable_1 ?_
  refine lv_iload_n hx hb dX12_isMovable_4 rfl (lv_at hl 1 rfl) ?_
  refine g_iald F hK hP 44 (Wm_at44 G g q I0 J0 R0 L0) (in_of (by omega)) dX12_isMovable_5 rfl ?_
  refine lv_topi (fun x1 ex1 => ?_)
  have gx1 : x1.toInt = (R0 38 (Int32.toNatClampNeg p1)).toInt := congrArg Int32.toInt (ex1)
  have fx1 : ((-1 : Int) ≤ x1.toInt ∧ x1.toInt ≤ (4 : Int)) := by rw [ex1]; exact hvR 38 (by decide) _ (clamp_lt (n := 12) (in_of (by omega)))
  refine lv_iconst (v := (-1)) hx hb dX12_isMovable_6 (by decide) ?_
  refine lv_icmp_eq (tgt := 23) hx hb dX12_isMovable_7 (by decide) (fun c2 => ?_) (fun c2 => ?_)
  · have gc2 : x1.toInt = (-1) := congrArg Int32.toInt c2
    refine lv_iconst (v := 0) hx hb dX12_isMovable_23 (by decide) ?_
    rw [hQ]
    exact q_z F hr hlk () hP hD hS (show ((0 : Int) ≤ 0 ∧ 0 ≤ (1 : Int)) from by omega) dX12_isMovable_24 (Nat.le_of_ble_eq_true rfl) (Nat.le_of_ble_eq_true rfl) (nar01 (by decide))
  · have gc2 : ¬ (x1.toInt = (-1)) := fun q0 => c2 (Int32.toInt_inj.mp q0)
    refine lv_aload_n hx hb dX12_isMovable_10 rfl (lv_at hl 0 rfl) ?_
    refine lv_iload_n hx hb dX12_isMovable_11 rfl (lv_at hl 1 rfl) ?_
    refine wvi (As := [.int p1]) (rest := []) (b := (g 45)) (d := 1) F hK hP hD hS hA (s_X12_floorOf l G g q I0 J0 R0 L0 hvI hvR  p1 (show ((0 : Int) ≤ p1.toInt ∧ p1.toInt ≤ (11 : Int)) from by omega)) kmV_X12_floorOf mlX12_451 clX12 rfl 0 (Wm_at0 G g q I0 J0 R0 L0) ⟨(Nat.le_of_ble_eq_true rfl), (Nat.le_of_ble_eq_true rfl)⟩ hl.1 rfl (Nat.le_of_ble_eq_true rfl) dX12_isMovable_12 (fun r3 u4 H locs hwr3 hP hD hS => ?_)
    have F0r3 := hwr3
    replace F0r3 : ((-1 : Int) ≤ r3.toInt ∧ r3.toInt ≤ (4 : Int)) := F0r3
    refine lv_iconst (v := (-1)) hx hb dX12_isMovable_15 (by decide) ?_
    refine lv_icmp_ne (tgt := 23) hx hb dX12_isMovable_16 (by decide) (fun c5 => ?_) (fun c5 => ?_)
    · have gc5 : ¬ (r3.toInt = (-1)) := fun q0 => c5 (Int32.toInt_inj.mp q0)
      refine lv_iconst (v := 0) hx hb dX12_isMovable_23 (by decide) ?_
      rw [hQ]
      exact q_z F hr hlk () hP hD hS (show ((0 : Int) ≤ 0 ∧ 0 ≤ (1 : Int)) from by omega) dX12_isMovable_24 (Nat.le_of_ble_eq_true rfl) (Nat.le_of_ble_eq_true rfl) (nar01 (by decide))
    · have gc5 : r3.toInt = (-1) := congrArg Int32.toInt c5
      refine lv_iconst (v := 1) hx hb dX12_isMovable_19 (by decide) ?_
      refine lv_goto (tgt := 24) hx hb dX12_isMovable_20 (by decide) ?_
      rw [hQ]
      exact q_z F hr hlk () hP hD hS (show ((0 : Int) ≤ 1 ∧ 1 ≤ (1 : Int)) from by omega) dX12_isMovable_24 (Nat.le_of_ble_eq_true rfl) (Nat.le_of_ble_eq_true rfl) (nar01 (by decide))
set_option maxHeartbeats 4000000 in
set_option maxRecDepth 100000 in
theorem s_X12_fault (l : Launch) (G : Gx) (g q : Nat → Nat) (I0 : Nat → Int32) (J0 : Nat → Int64) (R0 : Nat → Nat → Int32) (L0 : Nat → Nat → Int64) (hvI : InvI Wm_lo Wm_hi I0) (hvR : InvR Wm_rl R0)  (p1 : Int32)  : CtI (S := Unit) l yX12_fault cX12_fault 2 (some .int) (rmD 1 0 0) G [.ref (g 45), .int p1] (Wm G g q I0 J0 R0 L0) (fun r _ => True) (fun _ => (Wm G g q I0 J0 R0 L0)) := by
  refine ctI_of (own := RX12) (by decide +kernel) rfl (Nat.le_of_ble_eq_true rfl) ?_
  intro p e s m below meth c A ls F hr hlk hnm hK hP hD hA hS hl
  have hx := F.1
  have hb := F.2.1
  have hown := F.2.2.2.1
  have hl : lv_has ls 2 [(0, .ref (g 45)), (1, .int p1)] := hl
  obtain ⟨Q, hQ⟩ : ∃ Q : State → Prop, Q = MQ below (va_Qi (S := Unit) (fun r _ => True) (BX G A (fun _ => (Wm G g q I0 J0 R0 L0))) A) [.ref (g 45), .int p1].toArray s 0 0 A := ⟨_, rfl⟩
  rw [show (MQ below (va_Qi (S := Unit) (fun r _ => True) (BX G A (fun _ => (Wm G g q I0 J0 R0 L0))) A) [.ref (g 45), .int p1].toArray s (rmD 1 0 0).cells (rmD 1 0 0).slots A) = Q from hQ.symm]
  have hvI0 := hvI
  refine lv_iload_n hx hb dX12_fault_0 rfl (lv_at hl 1 rfl) ?_
  refine lv_if_ne (tgt := 11) hx hb dX12_fault_1 (by decide) (fun c1 => ?_) (fun c1 => ?_)
  · have gc1 : ¬ (p1.toInt = 0) := fun q0 => c1 (Int32.toInt_inj.mp q0)
    refine lv_iload_n hx hb dX12_fault_11 rfl (lv_at hl 1 rfl) ?_
    refine lv_iconst (v := 1) hx hb dX12_fault_12 (by decide) ?_
    refine lv_icmp_ne (tgt := 23) hx hb dX12_fault_13 (by decide) (fun c2 => ?_) (fun c2 => ?_)
    · have gc2 : ¬ (p1.toInt = 1) := fun q0 => c2 (Int32.toInt_inj.mp q0)
      refine lv_iconst (v := (-1)) hx hb dX12_fault_23 (by decide) ?_
      rw [hQ]
      exact q_i F hr hlk () hP hD hS trivial dX12_fault_24 (Nat.le_of_ble_eq_true rfl) (Nat.le_of_ble_eq_true rfl)
    · have gc2 : p1.toInt = 1 := congrArg Int32.toInt c2
      refine lv_aload_n hx hb dX12_fault_16 rfl (lv_at hl 0 rfl) ?_
      refine g_get F hK hP 0 (Wm_at0 G g q I0 J0 R0 L0) clX12 11 (by decide) flX12_45 rfl dX12_fault_17 ?_
      refine lv_goto (tgt := 24) hx hb dX12_fault_20 (by decide) ?_
      rw [hQ]
      exact q_i F hr hlk () hP hD hS trivial dX12_fault_24 (Nat.le_of_ble_eq_true rfl) (Nat.le_of_ble_eq_true rfl)
  · have gc1 : p1.toInt = 0 := congrArg Int32.toInt c1
    refine lv_aload_n hx hb dX12_fault_4 rfl (lv_at hl 0 rfl) ?_
    refine g_get F hK hP 0 (Wm_at0 G g q I0 J0 R0 L0) clX12 10 (by decide) flX12_42 rfl dX12_fault_5 ?_
    refine lv_goto (tgt := 24) hx hb dX12_fault_8 (by decide) ?_
    rw [hQ]
    exact q_i F hr hlk () hP hD hS trivial dX12_fault_24 (Nat.le_of_ble_eq_true rfl) (Nat.le_of_ble_eq_true rfl)
set_option maxHeartbeats 4000000 in
set_option maxRecDepth 100000 in
theorem s_X12_isLastOf (l : Launch) (G : Gx) (g q : Nat → Nat) (I0 : Nat → Int32) (J0 : Nat → Int64) (R0 : Nat → Nat → Int32) (L0 : Nat → Nat → Int64) (hvI : InvI Wm_lo Wm_hi I0) (hvR : InvR Wm_rl R0)  (p1 : Int32) (hp1 : ((0 : Int) ≤ p1.toInt ∧ p1.toInt ≤ (11 : Int))) : CtI (S := Unit) l yX12_isLastOf cX12_isLastOf 3 (some .boolean) (rmD 1 0 0) G [.ref (g 45), .int p1] (Wm G g q I0 J0 R0 L0) (fun r _ => ((0 : Int) ≤ r.toInt ∧ r.toInt ≤ (1 : Int))) (fun _ => (Wm G g q I0 J0 R0 L0)) := by
  refine ctI_of (own := RX12) (by decide +kernel) rfl (Nat.le_of_ble_eq_true rfl) ?_
  intro p e s m below meth c A ls F hr hlk hnm hK hP hD hA hS hl
  have hx := F.1
  have hb := F.2.1
  have hown := F.2.2.2.1
  have hl : lv_has ls 3 [(0, .ref (g 45)), (1, .int p1)] := hl
  obtain ⟨Q, hQ⟩ : ∃ Q : State → Prop, Q = MQ below (va_Qi (S := Unit) (fun r _ => ((0 : Int) ≤ r.toInt ∧ r.toInt ≤ (1 : Int))) (BX G A (fun _ => (Wm G g q I0 J0 R0 L0))) A) [.ref (g 45), .int p1].toArray s 0 0 A := ⟨_, rfl⟩
  rw [show (MQ below (va_Qi (S := Unit) (fun r _ => ((0 : Int) ≤ r.toInt ∧ r.toInt ≤ (1 : Int))) (BX G A (fun _ => (Wm G g q I0 J0 R0 L0))) A) [.ref (g 45), .int p1].toArray s (rmD 1 0 0).cells (rmD 1 0 0).slots A) = Q from hQ.symm]
  have hvI0 := hvI
  have lab_4 : ∀ (k_4 : Nat) (a2_4 : Int32) (H : Heap) (locs : List Loc) (ls : Array Slot), ((12 - a2_4.toInt) < (k_4 : Int)) → ((1 : Int) ≤ a2_4.toInt ∧ a2_4.toInt ≤ (12 : Int)) → va_P G.1 vwCl (Wm G g q I0 J0 R0 L0) H → va_D A (Wm G g q I0 J0 R0 L0) → va_S A s.heap H locs → lv_has ls 3 [(0, .ref (g 45)), (1, .int p1), (2, .int a2_4)] → W p l e (rmD 1 0 0) s m [.ref (g 45), .int p1].toArray below meth c H locs 0 0 Q (F0 m 4 ls []) := by
    intro k_4
    induction k_4 with
    | zero =>
      intro a2_4 H locs ls hm y0_4 hP hD hS hl
      exact absurd hm (by omega)
    | succ k_4 ih_4 =>
      intro a2_4 H locs ls hm y0_4 hP hD hS hl
      refine lv_iload_n hx hb dX12_isLastOf_4 rfl (lv_at hl 2 rfl) ?_
      refine lv_aload_n hx hb dX12_isLastOf_5 rfl (lv_at hl 0 rfl) ?_
      refine g_get F hK hP 0 (Wm_at0 G g q I0 J0 R0 L0) clX12 21 (by decide) flX12_77 rfl dX12_isLastOf_6 ?_
      refine lv_aload_n hx hb dX12_isLastOf_9 rfl (lv_at hl 0 rfl) ?_
      refine g_get F hK hP 0 (Wm_at0 G g q I0 J0 R0 L0) clX12 12 (by decide) flX12_48 rfl dX12_isLastOf_10 ?_
      have w_I0_10 := rg (hvI0 10 (by decide)) (0) (1) rfl rfl
      refine g_iald F hK hP 10 (Wm_at10 G g q I0 J0 R0 L0) (in_of (by omega)) dX12_isLastOf_13 rfl ?_
      refine lv_topi (fun x1 ex1 => ?_)
      have gx1 : x1.toInt = (R0 7 (Int32.toNatClampNeg (I0 10))).toInt := congrArg Int32.toInt (ex1)
      have fx1 : ((0 : Int) ≤ x1.toInt ∧ x1.toInt ≤ (12 : Int)) := by rw [ex1]; exact hvR 7 (by decide) _ (clamp_lt (n := 2) (in_of (by omega)))
      refine lv_icmp_ge (tgt := 56) hx hb dX12_isLastOf_14 (by decide) (fun c2 => ?_) (fun c2 => ?_)
      · have gc2 : x1.toInt ≤ a2_4.toInt := (tle _ _).mp c2
        refine lv_iconst (v := 1) hx hb dX12_isLastOf_56 (by decide) ?_
        rw [hQ]
        exact q_z F hr hlk () hP hD hS (show ((0 : Int) ≤ 1 ∧ 1 ≤ (1 : Int)) from by omega) dX12_isLastOf_57 (Nat.le_of_ble_eq_true rfl) (Nat.le_of_ble_eq_true rfl) (nar01 (by decide))
      · have gc2 : ¬ (x1.toInt ≤ a2_4.toInt) := fun q0 => c2 ((tle _ _).mpr q0)
        refine lv_aload_n hx hb dX12_isLastOf_17 rfl (lv_at hl 0 rfl) ?_
        refine g_get F hK hP 0 (Wm_at0 G g q I0 J0 R0 L0) clX12 23 (by decide) flX12_83 rfl dX12_isLastOf_18 ?_
        refine lv_bipush (v := 12) hx hb dX12_isLastOf_21 (by decide) ?_
        refine lv_aload_n hx hb dX12_isLastOf_23 rfl (lv_at hl 0 rfl) ?_
        refine g_get F hK hP 0 (Wm_at0 G g q I0 J0 R0 L0) clX12 12 (by decide) flX12_48 rfl dX12_isLastOf_24 ?_
        refine lv_imul hx hb dX12_isLastOf_27 ?_
        refine lv_topi (fun x3 ex3 => ?_)
        have fx3 : x3.toInt = 12 * (I0 10).toInt := by rw [ex3]; exact t_mul (by show (-2147483648 : Int) ≤ 12 * (I0 10).toInt; omega) (by show 12 * (I0 10).toInt ≤ 2147483647; omega)
        refine lv_iload_n hx hb dX12_isLastOf_28 rfl (lv_at hl 2 rfl) ?_
        refine lv_iadd hx hb dX12_isLastOf_29 ?_
        refine lv_topi (fun x4 ex4 => ?_)
        have fx4 : x4.toInt = x3.toInt + a2_4.toInt := by rw [ex4]; exact t_add (by show (-2147483648 : Int) ≤ x3.toInt + a2_4.toInt; omega) (by show x3.toInt + a2_4.toInt ≤ 2147483647; omega)
        refine g_iald F hK hP 12 (Wm_at12 G g q I0 J0 R0 L0) (in_of (by omega)) dX12_isLastOf_30 rfl ?_
        refine lv_topi (fun x5 ex5 => ?_)
        have gx5 : x5.toInt = (R0 8 (Int32.toNatClampNeg x4)).toInt := congrArg Int32.toInt (ex5)
        have fx5 : ((0 : Int) ≤ x5.toInt ∧ x5.toInt ≤ (5 : Int)) := by rw [ex5]; exact hvR 8 (by decide) _ (clamp_lt (n := 24) (in_of (by omega)))
        refine lv_aload_n hx hb dX12_isLastOf_31 rfl (lv_at hl 0 rfl) ?_
        refine g_get F hK hP 0 (Wm_at0 G g q I0 J0 R0 L0) clX12 23 (by decide) flX12_83 rfl dX12_isLastOf_32 ?_
        refine lv_bipush (v := 12) hx hb dX12_isLastOf_35 (by decide) ?_
        refine lv_aload_n hx hb dX12_isLastOf_37 rfl (lv_at hl 0 rfl) ?_
        refine g_get F hK hP 0 (Wm_at0 G g q I0 J0 R0 L0) clX12 12 (by decide) flX12_48 rfl dX12_isLastOf_38 ?_
        refine lv_imul hx hb dX12_isLastOf_41 ?_
        refine lv_topi (fun x6 ex6 => ?_)
        have fx6 : x6.toInt = 12 * (I0 10).toInt := by rw [ex6]; exact t_mul (by show (-2147483648 : Int) ≤ 12 * (I0 10).toInt; omega) (by show 12 * (I0 10).toInt ≤ 2147483647; omega)
        refine lv_iload_n hx hb dX12_isLastOf_42 rfl (lv_at hl 1 rfl) ?_
        refine lv_iadd hx hb dX12_isLastOf_43 ?_
        refine lv_topi (fun x7 ex7 => ?_)
        have fx7 : x7.toInt = x6.toInt + p1.toInt := by rw [ex7]; exact t_add (by show (-2147483648 : Int) ≤ x6.toInt + p1.toInt; omega) (by show x6.toInt + p1.toInt ≤ 2147483647; omega)
        refine g_iald F hK hP 12 (Wm_at12 G g q I0 J0 R0 L0) (in_of (by omega)) dX12_isLastOf_44 rfl ?_
        refine lv_topi (fun x8 ex8 => ?_)
        have gx8 : x8.toInt = (R0 8 (Int32.toNatClampNeg x7)).toInt := congrArg Int32.toInt (ex8)
        have fx8 : ((0 : Int) ≤ x8.toInt ∧ x8.toInt ≤ (5 : Int)) := by rw [ex8]; exact hvR 8 (by decide) _ (clamp_lt (n := 24) (in_of (by omega)))
        refine lv_icmp_ne (tgt := 50) hx hb dX12_isLastOf_45 (by decide) (fun c9 => ?_) (fun c9 => ?_)
        · have gc9 : ¬ (x5.toInt = x8.toInt) := fun q0 => c9 (Int32.toInt_inj.mp q0)
          obtain ⟨x10, ex10⟩ : ∃ y : Int32, y = a2_4 + 1 := ⟨_, rfl⟩
          have fx10 : x10.toInt = a2_4.toInt + (1 : Int) := by rw [ex10]; exact t_add (by show (-2147483648 : Int) ≤ a2_4.toInt + (1 : Int); omega) (by show a2_4.toInt + (1 : Int) ≤ 2147483647; omega)
          refine lv_iinc (v := x10) (lv' := [(2, .int x10), (0, .ref (g 45)), (1, .int p1)]) hx hb dX12_isLastOf_50 hl (k := 2) rfl (by rw [ex10]; rfl) (by decide) rfl (fun ls hl => ?_)
          refine lv_goto (tgt := 4) hx hb dX12_isLastOf_53 (by decide) ?_
          exact ih_4 x10 _ _ _ (show (12 - x10.toInt) < (k_4 : Int) from by omega) (show ((1 : Int) ≤ x10.toInt ∧ x10.toInt ≤ (12 : Int)) from by omega) hP hD hS (lv_sub hl [1, 2, 0] rfl)
        · have gc9 : x5.toInt = x8.toInt := congrArg Int32.toInt c9
          refine lv_iconst (v := 0) hx hb dX12_isLastOf_48 (by decide) ?_
          rw [hQ]
          exact q_z F hr hlk () hP hD hS (show ((0 : Int) ≤ 0 ∧ 0 ≤ (1 : Int)) from by omega) dX12_isLastOf_49 (Nat.le_of_ble_eq_true rfl) (Nat.le_of_ble_eq_true rfl) (nar01 (by decide))
  refine lv_iload_n hx hb dX12_isLastOf_0 rfl (lv_at hl 1 rfl) ?_
  refine lv_iconst (v := 1) hx hb dX12_isLastOf_1 (by decide) ?_
  refine lv_iadd hx hb dX12_isLastOf_2 ?_
  refine lv_topi (fun x11 ex11 => ?_)
  have fx11 : x11.toInt = p1.toInt + 1 := by rw [ex11]; exact t_add (by show (-2147483648 : Int) ≤ p1.toInt + 1; omega) (by show p1.toInt + 1 ≤ 2147483647; omega)
  refine lv_istore_n (lv' := [(2, .int x11), (0, .ref (g 45)), (1, .int p1)]) hx hb dX12_isLastOf_3 rfl hl (by decide) rfl (fun ls hl => ?_)
  exact lab_4 12 x11 _ _ _ (show (12 - x11.toInt) < ((12 : Nat) : Int) from by omega) (show ((1 : Int) ≤ x11.toInt ∧ x11.toInt ≤ (12 : Int)) from by omega) hP hD hS (lv_sub hl [1, 2, 0] rfl)
set_option maxHeartbeats 4000000 in
set_option maxRecDepth 100000 in
theorem s_X12_triedOn (l : Launch) (G : Gx) (g q : Nat → Nat) (I0 : Nat → Int32) (J0 : Nat → Int64) (R0 : Nat → Nat → Int32) (L0 : Nat → Nat → Int64) (hvI : InvI Wm_lo Wm_hi I0) (hvR : InvR Wm_rl R0)  (p1 : Int32) (p2 : Int32) (hp1 : ((0 : Int) ≤ p1.toInt ∧ p1.toInt ≤ (11 : Int))) (hp2 : ((0 : Int) ≤ p2.toInt ∧ p2.toInt ≤ (4 : Int))) : CtI (S := Unit) l yX12_triedOn cX12_triedOn 5 (some .int) (rmD 2 0 0) G [.ref (g 45), .int p1, .int p2] (Wm G g q I0 J0 R0 L0) (fun r _ => True) (fun _ => (Wm G g q I0 J0 R0 L0)) := by
  refine ctI_of (own := RX12) (by decide +kernel) rfl (Nat.le_of_ble_eq_true rfl) ?_
  intro p e s m below meth c A ls F hr hlk hnm hK hP hD hA hS hl
  have hx := F.1
  have hb := F.2.1
  have hown := F.2.2.2.1
  have hl : lv_has ls 5 [(0, .ref (g 45)), (1, .int p1), (2, .int p2)] := hl
  obtain ⟨Q, hQ⟩ : ∃ Q : State → Prop, Q = MQ below (va_Qi (S := Unit) (fun r _ => True) (BX G A (fun _ => (Wm G g q I0 J0 R0 L0))) A) [.ref (g 45), .int p1, .int p2].toArray s 0 0 A := ⟨_, rfl⟩
  rw [show (MQ below (va_Qi (S := Unit) (fun r _ => True) (BX G A (fun _ => (Wm G g q I0 J0 R0 L0))) A) [.ref (g 45), .int p1, .int p2].toArray s (rmD 2 0 0).cells (rmD 2 0 0).slots A) = Q from hQ.symm]
  have hvI0 := hvI
  have lab_5 : ∀ (k_5 : Nat) (a3_5 : Int32) (a4_5 : Int32) (H : Heap) (locs : List Loc) (ls : Array Slot), ((12 - a4_5.toInt) < (k_5 : Int)) → ((0 : Int) ≤ a4_5.toInt ∧ a4_5.toInt ≤ (12 : Int)) → va_P G.1 vwCl (Wm G g q I0 J0 R0 L0) H → va_D A (Wm G g q I0 J0 R0 L0) → va_S A s.heap H locs → lv_has ls 5 [(0, .ref (g 45)), (1, .int p1), (2, .int p2), (3, .int a3_5), (4, .int a4_5)] → W p l e (rmD 2 0 0) s m [.ref (g 45), .int p1, .int p2].toArray below meth c H locs 0 0 Q (F0 m 5 ls []) := by
    intro k_5
    induction k_5 with
    | zero =>
      intro a3_5 a4_5 H locs ls hm y0_5 hP hD hS hl
      exact absurd hm (by omega)
    | succ k_5 ih_5 =>
      intro a3_5 a4_5 H locs ls hm y0_5 hP hD hS hl
      have lab_42 : ∀ (b0_42 : Int32) (b1_42 : Int32) (H : Heap) (locs : List Loc) (ls : Array Slot), ((0 : Int) ≤ a4_5.toInt ∧ a4_5.toInt ≤ (11 : Int)) → ((0 : Int) ≤ b0_42.toInt ∧ b0_42.toInt ≤ (1 : Int)) → va_P G.1 vwCl (Wm G g q I0 J0 R0 L0) H → va_D A (Wm G g q I0 J0 R0 L0) → va_S A s.heap H locs → lv_has ls 5 [(0, .ref (g 45)), (1, .int p1), (2, .int p2), (4, .int a4_5)] → W p l e (rmD 2 0 0) s m [.ref (g 45), .int p1, .int p2].toArray below meth c H locs 0 0 Q (F0 m 42 ls [.int b0_42, .int b1_42]) := by
        intro b0_42 b1_42 H locs ls y0_42 y1_42 hP hD hS hl
        refine lv_iadd hx hb dX12_triedOn_42 ?_
        refine lv_topi (fun x1 ex1 => ?_)
        refine lv_istore_n (lv' := [(3, .int x1), (0, .ref (g 45)), (1, .int p1), (2, .int p2), (4, .int a4_5)]) hx hb dX12_triedOn_43 rfl hl (by decide) rfl (fun ls hl => ?_)
        obtain ⟨x2, ex2⟩ : ∃ y : Int32, y = a4_5 + 1 := ⟨_, rfl⟩
        have fx2 : x2.toInt = a4_5.toInt + (1 : Int) := by rw [ex2]; exact t_add (by show (-2147483648 : Int) ≤ a4_5.toInt + (1 : Int); omega) (by show a4_5.toInt + (1 : Int) ≤ 2147483647; omega)
        refine lv_iinc (v := x2) (lv' := [(4, .int x2), (3, .int x1), (0, .ref (g 45)), (1, .int p1), (2, .int p2)]) hx hb dX12_triedOn_44 hl (k := 4) rfl (by rw [ex2]; rfl) (by decide) rfl (fun ls hl => ?_)
        refine lv_goto (tgt := 5) hx hb dX12_triedOn_47 (by decide) ?_
        exact ih_5 x1 x2 _ _ _ (show (12 - x2.toInt) < (k_5 : Int) from by omega) (show ((0 : Int) ≤ x2.toInt ∧ x2.toInt ≤ (12 : Int)) from by omega) hP hD hS (lv_sub hl [2, 3, 4, 1, 0] rfl)
      have lab_41 : ∀ (b0_41 : Int32) (H : Heap) (locs : List Loc) (ls : Array Slot), ((0 : Int) ≤ a4_5.toInt ∧ a4_5.toInt ≤ (11 : Int)) → va_P G.1 vwCl (Wm G g q I0 J0 R0 L0) H → va_D A (Wm G g q I0 J0 R0 L0) → va_S A s.heap H locs → lv_has ls 5 [(0, .ref (g 45)), (1, .int p1), (2, .int p2), (4, .int a4_5)] → W p l e (rmD 2 0 0) s m [.ref (g 45), .int p1, .int p2].toArray below meth c H locs 0 0 Q (F0 m 41 ls [.int b0_41]) := by
        intro b0_41 H locs ls y0_41 hP hD hS hl
        refine lv_iconst (v := 0) hx hb dX12_triedOn_41 (by decide) ?_
        exact lab_42 0 b0_41 _ _ _ (show ((0 : Int) ≤ a4_5.toInt ∧ a4_5.toInt ≤ (11 : Int)) from by omega) (by decide) hP hD hS (lv_sub hl [0, 1, 2, 3] rfl)
      refine lv_iload hx hb dX12_triedOn_5 (lv_at hl 4 rfl) ?_
      refine lv_iload_n hx hb dX12_triedOn_7 rfl (lv_at hl 1 rfl) ?_
      refine lv_icmp_gt (tgt := 50) hx hb dX12_triedOn_8 (by decide) (fun c3 => ?_) (fun c3 => ?_)
      · have gc3 : p1.toInt < a4_5.toInt := (tlt _ _).mp c3
        refine lv_iload_n hx hb dX12_triedOn_50 rfl (lv_at hl 3 rfl) ?_
        rw [hQ]
        exact q_i F hr hlk () hP hD hS trivial dX12_triedOn_51 (Nat.le_of_ble_eq_true rfl) (Nat.le_of_ble_eq_true rfl)
      · have gc3 : ¬ (p1.toInt < a4_5.toInt) := fun q0 => c3 ((tlt _ _).mpr q0)
        refine lv_iload_n hx hb dX12_triedOn_11 rfl (lv_at hl 3 rfl) ?_
        refine lv_aload_n hx hb dX12_triedOn_12 rfl (lv_at hl 0 rfl) ?_
        refine g_get F hK hP 0 (Wm_at0 G g q I0 J0 R0 L0) clX12 63 (by decide) flX12_204 rfl dX12_triedOn_13 ?_
        refine lv_iload hx hb dX12_triedOn_16 (lv_at hl 4 rfl) ?_
        refine g_iald F hK hP 42 (Wm_at42 G g q I0 J0 R0 L0) (in_of (by omega)) dX12_triedOn_18 rfl ?_
        refine lv_topi (fun x4 ex4 => ?_)
        have gx4 : x4.toInt = (R0 37 (Int32.toNatClampNeg a4_5)).toInt := congrArg Int32.toInt (ex4)
        have fx4 : ((-1 : Int) ≤ x4.toInt ∧ x4.toInt ≤ (32 : Int)) := by rw [ex4]; exact hvR 37 (by decide) _ (clamp_lt (n := 13) (in_of (by omega)))
        refine lv_iload_n hx hb dX12_triedOn_19 rfl (lv_at hl 2 rfl) ?_
        refine lv_ishr hx hb dX12_triedOn_20 ?_
        refine lv_topi (fun x5 ex5 => ?_)
        refine lv_iconst (v := 1) hx hb dX12_triedOn_21 (by decide) ?_
        refine lv_iand hx hb dX12_triedOn_22 ?_
        refine lv_topi (fun x6 ex6 => ?_)
        have fx6 : (0 : Int) ≤ x6.toInt ∧ x6.toInt ≤ (1 : Int) := by rw [ex6]; exact t_and (b := 1) (by decide)
        refine lv_iconst (v := 1) hx hb dX12_triedOn_23 (by decide) ?_
        refine lv_icmp_ne (tgt := 41) hx hb dX12_triedOn_24 (by decide) (fun c7 => ?_) (fun c7 => ?_)
        · have gc7 : ¬ (x6.toInt = 1) := fun q0 => c7 (Int32.toInt_inj.mp q0)
          exact lab_41 a3_5 _ _ _ (show ((0 : Int) ≤ a4_5.toInt ∧ a4_5.toInt ≤ (11 : Int)) from by omega) hP hD hS (lv_sub hl [0, 1, 2, 4] rfl)
        · have gc7 : x6.toInt = 1 := congrArg Int32.toInt c7
          refine lv_aload_n hx hb dX12_triedOn_27 rfl (lv_at hl 0 rfl) ?_
          refine lv_iload hx hb dX12_triedOn_28 (lv_at hl 4 rfl) ?_
          refine wvi (As := [.int a4_5]) (rest := [.int a3_5]) (b := (g 45)) (d := 1) F hK hP hD hS hA (s_X12_floorOf l G g q I0 J0 R0 L0 hvI hvR  a4_5 (show ((0 : Int) ≤ a4_5.toInt ∧ a4_5.toInt ≤ (11 : Int)) from by omega)) kmV_X12_floorOf mlX12_451 clX12 rfl 0 (Wm_at0 G g q I0 J0 R0 L0) ⟨(Nat.le_of_ble_eq_true rfl), (Nat.le_of_ble_eq_true rfl)⟩ hl.1 rfl (Nat.le_of_ble_eq_true rfl) dX12_triedOn_30 (fun r8 u9 H locs hwr8 hP hD hS => ?_)
          have F0r8 := hwr8
          replace F0r8 : ((-1 : Int) ≤ r8.toInt ∧ r8.toInt ≤ (4 : Int)) := F0r8
          refine lv_iconst (v := (-1)) hx hb dX12_triedOn_33 (by decide) ?_
          refine lv_icmp_ne (tgt := 41) hx hb dX12_triedOn_34 (by decide) (fun c10 => ?_) (fun c10 => ?_)
          · have gc10 : ¬ (r8.toInt = (-1)) := fun q0 => c10 (Int32.toInt_inj.mp q0)
            exact lab_41 a3_5 _ _ _ (show ((0 : Int) ≤ a4_5.toInt ∧ a4_5.toInt ≤ (11 : Int)) from by omega) hP hD hS (lv_sub hl [0, 1, 2, 4] rfl)
          · have gc10 : r8.toInt = (-1) := congrArg Int32.toInt c10
            refine lv_iconst (v := 1) hx hb dX12_triedOn_37 (by decide) ?_
            refine lv_goto (tgt := 42) hx hb dX12_triedOn_38 (by decide) ?_
            exact lab_42 1 a3_5 _ _ _ (show ((0 : Int) ≤ a4_5.toInt ∧ a4_5.toInt ≤ (11 : Int)) from by omega) (by decide) hP hD hS (lv_sub hl [0, 1, 2, 4] rfl)
  refine lv_iconst (v := 0) hx hb dX12_triedOn_0 (by decide) ?_
  refine lv_istore_n (lv' := [(3, .int 0), (0, .ref (g 45)), (1, .int p1), (2, .int p2)]) hx hb dX12_triedOn_1 rfl hl (by decide) rfl (fun ls hl => ?_)
  refine lv_iconst (v := 0) hx hb dX12_triedOn_2 (by decide) ?_
  refine lv_istore (lv' := [(4, .int 0), (3, .int 0), (0, .ref (g 45)), (1, .int p1), (2, .int p2)]) hx hb dX12_triedOn_3 hl (by decide) rfl (fun ls hl => ?_)
  exact lab_5 13 0 0 _ _ _ (show (12 - 0) < ((13 : Nat) : Int) from by omega) (by decide) hP hD hS (lv_sub hl [2, 3, 4, 1, 0] rfl)
set_option maxHeartbeats 4000000 in
set_option maxRecDepth 100000 in
theorem s_X12_may (l : Launch) (G : Gx) (g q : Nat → Nat) (I0 : Nat → Int32) (J0 : Nat → Int64) (R0 : Nat → Nat → Int32) (L0 : Nat → Nat → Int64) (hvI : InvI Wm_lo Wm_hi I0) (hvR : InvR Wm_rl R0)  (p1 : Int32) (p2 : Int32) (hp1 : ((0 : Int) ≤ p1.toInt ∧ p1.toInt ≤ (11 : Int))) : CtI (S := Unit) l yX12_may cX12_may 6 (some .boolean) (rmD 3 0 0) G [.ref (g 45), .int p1, .int p2] (Wm G g q I0 J0 R0 L0) (fun r _ => ((0 : Int) ≤ r.toInt ∧ r.toInt ≤ (1 : Int))) (fun _ => (Wm G g q I0 J0 R0 L0)) := by
  refine ctI_of (own := RX12) (by decide +kernel) rfl (Nat.le_of_ble_eq_true rfl) ?_
  intro p e s m below meth c A ls F hr hlk hnm hK hP hD hA hS hl
  have hx := F.1
  have hb := F.2.1
  have hown := F.2.2.2.1
  have hl : lv_has ls 6 [(0, .ref (g 45)), (1, .int p1), (2, .int p2)] := hl
  obtain ⟨Q, hQ⟩ : ∃ Q : State → Prop, Q = MQ below (va_Qi (S := Unit) (fun r _ => ((0 : Int) ≤ r.toInt ∧ r.toInt ≤ (1 : Int))) (BX G A (fun _ => (Wm G g q I0 J0 R0 L0))) A) [.ref (g 45), .int p1, .int p2].toArray s 0 0 A := ⟨_, rfl⟩
  rw [show (MQ below (va_Qi (S := Unit) (fun r _ => ((0 : Int) ≤ r.toInt ∧ r.toInt ≤ (1 : Int))) (BX G A (fun _ => (Wm G g q I0 J0 R0 L0))) A) [.ref (g 45), .int p1, .int p2].toArray s (rmD 3 0 0).cells (rmD 3 0 0).slots A) = Q from hQ.symm]
  have hvI0 := hvI
  have lab_74 : ∀ (k_74 : Nat) (a3_74 : Int32) (a4_74 : Int32) (a5_74 : Int32) (H : Heap) (locs : List Loc) (ls : Array Slot), ((12 - a5_74.toInt) < (k_74 : Int)) → ((0 : Int) ≤ a3_74.toInt ∧ a3_74.toInt ≤ (5 : Int)) → ((0 : Int) ≤ a5_74.toInt ∧ a5_74.toInt ≤ (12 : Int)) → va_P G.1 vwCl (Wm G g q I0 J0 R0 L0) H → va_D A (Wm G g q I0 J0 R0 L0) → va_S A s.heap H locs → lv_has ls 6 [(0, .ref (g 45)), (1, .int p1), (3, .int a3_74), (4, .int a4_74), (5, .int a5_74)] → W p l e (rmD 3 0 0) s m [.ref (g 45), .int p1, .int p2].toArray below meth c H locs 0 0 Q (F0 m 74 ls []) := by
    intro k_74
    induction k_74 with
    | zero =>
      intro a3_74 a4_74 a5_74 H locs ls hm y0_74 y1_74 hP hD hS hl
      exact absurd hm (by omega)
    | succ k_74 ih_74 =>
      intro a3_74 a4_74 a5_74 H locs ls hm y0_74 y1_74 hP hD hS hl
      have lab_114 : ∀ (b0_114 : Int32) (H : Heap) (locs : List Loc) (ls : Array Slot), ((0 : Int) ≤ a5_74.toInt ∧ a5_74.toInt ≤ (11 : Int)) → va_P G.1 vwCl (Wm G g q I0 J0 R0 L0) H → va_D A (Wm G g q I0 J0 R0 L0) → va_S A s.heap H locs → lv_has ls 6 [(0, .ref (g 45)), (1, .int p1), (3, .int a3_74), (5, .int a5_74)] → W p l e (rmD 3 0 0) s m [.ref (g 45), .int p1, .int p2].toArray below meth c H locs 0 0 Q (F0 m 114 ls [.int b0_114]) := by
        intro b0_114 H locs ls y0_114 hP hD hS hl
        refine lv_istore (lv' := [(4, .int b0_114), (0, .ref (g 45)), (1, .int p1), (3, .int a3_74), (5, .int a5_74)]) hx hb dX12_may_114 hl (by decide) rfl (fun ls hl => ?_)
        obtain ⟨x1, ex1⟩ : ∃ y : Int32, y = a5_74 + 1 := ⟨_, rfl⟩
        have fx1 : x1.toInt = a5_74.toInt + (1 : Int) := by rw [ex1]; exact t_add (by show (-2147483648 : Int) ≤ a5_74.toInt + (1 : Int); omega) (by show a5_74.toInt + (1 : Int) ≤ 2147483647; omega)
        refine lv_iinc (v := x1) (lv' := [(5, .int x1), (4, .int b0_114), (0, .ref (g 45)), (1, .int p1), (3, .int a3_74)]) hx hb dX12_may_116 hl (k := 4) rfl (by rw [ex1]; rfl) (by decide) rfl (fun ls hl => ?_)
        refine lv_goto (tgt := 74) hx hb dX12_may_119 (by decide) ?_
        exact ih_74 a3_74 b0_114 x1 _ _ _ (show (12 - x1.toInt) < (k_74 : Int) from by omega) (show ((0 : Int) ≤ a3_74.toInt ∧ a3_74.toInt ≤ (5 : Int)) from by omega) (show ((0 : Int) ≤ x1.toInt ∧ x1.toInt ≤ (12 : Int)) from by omega) hP hD hS (lv_sub hl [2, 3, 4, 1, 0] rfl)
      refine lv_iload hx hb dX12_may_74 (lv_at hl 4 rfl) ?_
      refine lv_iload_n hx hb dX12_may_76 rfl (lv_at hl 1 rfl) ?_
      refine lv_icmp_gt (tgt := 122) hx hb dX12_may_77 (by decide) (fun c2 => ?_) (fun c2 => ?_)
      · have gc2 : p1.toInt < a5_74.toInt := (tlt _ _).mp c2
        refine lv_iload hx hb dX12_may_122 (lv_at hl 3 rfl) ?_
        refine lv_if_eq (tgt := 131) hx hb dX12_may_124 (by decide) (fun c3 => ?_) (fun c3 => ?_)
        · have gc3 : a4_74.toInt = 0 := congrArg Int32.toInt c3
          refine lv_iconst (v := 0) hx hb dX12_may_131 (by decide) ?_
          rw [hQ]
          exact q_z F hr hlk () hP hD hS (show ((0 : Int) ≤ 0 ∧ 0 ≤ (1 : Int)) from by omega) dX12_may_132 (Nat.le_of_ble_eq_true rfl) (Nat.le_of_ble_eq_true rfl) (nar01 (by decide))
        · have gc3 : ¬ (a4_74.toInt = 0) := fun q0 => c3 (Int32.toInt_inj.mp q0)
          refine lv_iconst (v := 1) hx hb dX12_may_127 (by decide) ?_
          refine lv_goto (tgt := 132) hx hb dX12_may_128 (by decide) ?_
          rw [hQ]
          exact q_z F hr hlk () hP hD hS (show ((0 : Int) ≤ 1 ∧ 1 ≤ (1 : Int)) from by omega) dX12_may_132 (Nat.le_of_ble_eq_true rfl) (Nat.le_of_ble_eq_true rfl) (nar01 (by decide))
      · have gc2 : ¬ (p1.toInt < a5_74.toInt) := fun q0 => c2 ((tlt _ _).mpr q0)
        refine lv_aload_n hx hb dX12_may_80 rfl (lv_at hl 0 rfl) ?_
        refine g_get F hK hP 0 (Wm_at0 G g q I0 J0 R0 L0) clX12 23 (by decide) flX12_83 rfl dX12_may_81 ?_
        refine lv_bipush (v := 12) hx hb dX12_may_84 (by decide) ?_
        refine lv_aload_n hx hb dX12_may_86 rfl (lv_at hl 0 rfl) ?_
        refine g_get F hK hP 0 (Wm_at0 G g q I0 J0 R0 L0) clX12 12 (by decide) flX12_48 rfl dX12_may_87 ?_
        have w_I0_10 := rg (hvI0 10 (by decide)) (0) (1) rfl rfl
        refine lv_imul hx hb dX12_may_90 ?_
        refine lv_topi (fun x4 ex4 => ?_)
        have fx4 : x4.toInt = 12 * (I0 10).toInt := by rw [ex4]; exact t_mul (by show (-2147483648 : Int) ≤ 12 * (I0 10).toInt; omega) (by show 12 * (I0 10).toInt ≤ 2147483647; omega)
        refine lv_iload hx hb dX12_may_91 (lv_at hl 4 rfl) ?_
        refine lv_iadd hx hb dX12_may_93 ?_
        refine lv_topi (fun x5 ex5 => ?_)
        have fx5 : x5.toInt = x4.toInt + a5_74.toInt := by rw [ex5]; exact t_add (by show (-2147483648 : Int) ≤ x4.toInt + a5_74.toInt; omega) (by show x4.toInt + a5_74.toInt ≤ 2147483647; omega)
        refine g_iald F hK hP 12 (Wm_at12 G g q I0 J0 R0 L0) (in_of (by omega)) dX12_may_94 rfl ?_
        refine lv_topi (fun x6 ex6 => ?_)
        have gx6 : x6.toInt = (R0 8 (Int32.toNatClampNeg x5)).toInt := congrArg Int32.toInt (ex6)
        have fx6 : ((0 : Int) ≤ x6.toInt ∧ x6.toInt ≤ (5 : Int)) := by rw [ex6]; exact hvR 8 (by decide) _ (clamp_lt (n := 24) (in_of (by omega)))
        refine lv_iload_n hx hb dX12_may_95 rfl (lv_at hl 2 rfl) ?_
        refine lv_icmp_ne (tgt := 112) hx hb dX12_may_96 (by decide) (fun c7 => ?_) (fun c7 => ?_)
        · have gc7 : ¬ (x6.toInt = a3_74.toInt) := fun q0 => c7 (Int32.toInt_inj.mp q0)
          refine lv_iload hx hb dX12_may_112 (lv_at hl 3 rfl) ?_
          exact lab_114 a4_74 _ _ _ (show ((0 : Int) ≤ a5_74.toInt ∧ a5_74.toInt ≤ (11 : Int)) from by omega) hP hD hS (lv_sub hl [0, 1, 2, 4] rfl)
        · have gc7 : x6.toInt = a3_74.toInt := congrArg Int32.toInt c7
          refine lv_iload hx hb dX12_may_99 (lv_at hl 3 rfl) ?_
          refine lv_aload_n hx hb dX12_may_101 rfl (lv_at hl 0 rfl) ?_
          refine g_get F hK hP 0 (Wm_at0 G g q I0 J0 R0 L0) clX12 63 (by decide) flX12_204 rfl dX12_may_102 ?_
          refine lv_iload hx hb dX12_may_105 (lv_at hl 4 rfl) ?_
          refine g_iald F hK hP 42 (Wm_at42 G g q I0 J0 R0 L0) (in_of (by omega)) dX12_may_107 rfl ?_
          refine lv_topi (fun x8 ex8 => ?_)
          have gx8 : x8.toInt = (R0 37 (Int32.toNatClampNeg a5_74)).toInt := congrArg Int32.toInt (ex8)
          have fx8 : ((-1 : Int) ≤ x8.toInt ∧ x8.toInt ≤ (32 : Int)) := by rw [ex8]; exact hvR 37 (by decide) _ (clamp_lt (n := 13) (in_of (by omega)))
          refine lv_iand hx hb dX12_may_108 ?_
          refine lv_topi (fun x9 ex9 => ?_)
          refine lv_goto (tgt := 114) hx hb dX12_may_109 (by decide) ?_
          exact lab_114 x9 _ _ _ (show ((0 : Int) ≤ a5_74.toInt ∧ a5_74.toInt ≤ (11 : Int)) from by omega) hP hD hS (lv_sub hl [0, 1, 2, 4] rfl)
  have lab_2 : ∀ (k_2 : Nat) (a3_2 : Int32) (H : Heap) (locs : List Loc) (ls : Array Slot), ((5 - a3_2.toInt) < (k_2 : Int)) → ((0 : Int) ≤ a3_2.toInt ∧ a3_2.toInt ≤ (5 : Int)) → va_P G.1 vwCl (Wm G g q I0 J0 R0 L0) H → va_D A (Wm G g q I0 J0 R0 L0) → va_S A s.heap H locs → lv_has ls 6 [(0, .ref (g 45)), (1, .int p1), (2, .int p2), (3, .int a3_2)] → W p l e (rmD 3 0 0) s m [.ref (g 45), .int p1, .int p2].toArray below meth c H locs 0 0 Q (F0 m 2 ls []) := by
    intro k_2
    induction k_2 with
    | zero =>
      intro a3_2 H locs ls hm y0_2 hP hD hS hl
      exact absurd hm (by omega)
    | succ k_2 ih_2 =>
      intro a3_2 H locs ls hm y0_2 hP hD hS hl
      refine lv_iload_n hx hb dX12_may_2 rfl (lv_at hl 3 rfl) ?_
      refine lv_iconst (v := 5) hx hb dX12_may_3 (by decide) ?_
      refine lv_icmp_ge (tgt := 25) hx hb dX12_may_4 (by decide) (fun c10 => ?_) (fun c10 => ?_)
      · have gc10 : 5 ≤ a3_2.toInt := (tle _ _).mp c10
        refine lv_aload_n hx hb dX12_may_25 rfl (lv_at hl 0 rfl) ?_
        refine g_get F hK hP 0 (Wm_at0 G g q I0 J0 R0 L0) clX12 23 (by decide) flX12_83 rfl dX12_may_26 ?_
        refine lv_bipush (v := 12) hx hb dX12_may_29 (by decide) ?_
        refine lv_aload_n hx hb dX12_may_31 rfl (lv_at hl 0 rfl) ?_
        refine g_get F hK hP 0 (Wm_at0 G g q I0 J0 R0 L0) clX12 12 (by decide) flX12_48 rfl dX12_may_32 ?_
        have w_I0_10 := rg (hvI0 10 (by decide)) (0) (1) rfl rfl
        refine lv_imul hx hb dX12_may_35 ?_
        refine lv_topi (fun x11 ex11 => ?_)
        have fx11 : x11.toInt = 12 * (I0 10).toInt := by rw [ex11]; exact t_mul (by show (-2147483648 : Int) ≤ 12 * (I0 10).toInt; omega) (by show 12 * (I0 10).toInt ≤ 2147483647; omega)
        refine lv_iload_n hx hb dX12_may_36 rfl (lv_at hl 1 rfl) ?_
        refine lv_iadd hx hb dX12_may_37 ?_
        refine lv_topi (fun x12 ex12 => ?_)
        have fx12 : x12.toInt = x11.toInt + p1.toInt := by rw [ex12]; exact t_add (by show (-2147483648 : Int) ≤ x11.toInt + p1.toInt; omega) (by show x11.toInt + p1.toInt ≤ 2147483647; omega)
        refine g_iald F hK hP 12 (Wm_at12 G g q I0 J0 R0 L0) (in_of (by omega)) dX12_may_38 rfl ?_
        refine lv_topi (fun x13 ex13 => ?_)
        have gx13 : x13.toInt = (R0 8 (Int32.toNatClampNeg x12)).toInt := congrArg Int32.toInt (ex13)
        have fx13 : ((0 : Int) ≤ x13.toInt ∧ x13.toInt ≤ (5 : Int)) := by rw [ex13]; exact hvR 8 (by decide) _ (clamp_lt (n := 24) (in_of (by omega)))
        refine lv_istore_n (lv' := [(3, .int x13), (0, .ref (g 45)), (1, .int p1), (2, .int p2)]) hx hb dX12_may_39 rfl hl (by decide) rfl (fun ls hl => ?_)
        refine lv_aload_n hx hb dX12_may_40 rfl (lv_at hl 1 rfl) ?_
        refine g_get F hK hP 0 (Wm_at0 G g q I0 J0 R0 L0) clX12 20 (by decide) flX12_73 rfl dX12_may_41 ?_
        refine lv_bipush (v := 6) hx hb dX12_may_44 (by decide) ?_
        refine lv_aload_n hx hb dX12_may_46 rfl (lv_at hl 1 rfl) ?_
        refine g_get F hK hP 0 (Wm_at0 G g q I0 J0 R0 L0) clX12 12 (by decide) flX12_48 rfl dX12_may_47 ?_
        refine lv_imul hx hb dX12_may_50 ?_
        refine lv_topi (fun x14 ex14 => ?_)
        have fx14 : x14.toInt = 6 * (I0 10).toInt := by rw [ex14]; exact t_mul (by show (-2147483648 : Int) ≤ 6 * (I0 10).toInt; omega) (by show 6 * (I0 10).toInt ≤ 2147483647; omega)
        refine lv_iload_n hx hb dX12_may_51 rfl (lv_at hl 0 rfl) ?_
        refine lv_iadd hx hb dX12_may_52 ?_
        refine lv_topi (fun x15 ex15 => ?_)
        have fx15 : x15.toInt = x14.toInt + x13.toInt := by rw [ex15]; exact t_add (by show (-2147483648 : Int) ≤ x14.toInt + x13.toInt; omega) (by show x14.toInt + x13.toInt ≤ 2147483647; omega)
        refine g_zald F hK hP 9 (Wm_at9 G g q I0 J0 R0 L0) (in_of (by omega)) dX12_may_53 rfl ?_
        refine lv_topi (fun x16 ex16 => ?_)
        have gx16 : x16.toInt = (R0 6 (Int32.toNatClampNeg x15)).toInt := congrArg Int32.toInt (ex16)
        have fx16 : ((0 : Int) ≤ x16.toInt ∧ x16.toInt ≤ (1 : Int)) := by rw [ex16]; exact hvR 6 (by decide) _ (clamp_lt (n := 12) (in_of (by omega)))
        refine lv_if_eq (tgt := 65) hx hb dX12_may_54 (by decide) (fun c17 => ?_) (fun c17 => ?_)
        · have gc17 : x16.toInt = 0 := congrArg Int32.toInt c17
          refine lv_iconst (v := 1) hx hb dX12_may_65 (by decide) ?_
          rw [hQ]
          exact q_z F hr hlk () hP hD hS (show ((0 : Int) ≤ 1 ∧ 1 ≤ (1 : Int)) from by omega) dX12_may_66 (Nat.le_of_ble_eq_true rfl) (Nat.le_of_ble_eq_true rfl) (nar01 (by decide))
        · have gc17 : ¬ (x16.toInt = 0) := fun q0 => c17 (Int32.toInt_inj.mp q0)
          refine lv_aload_n hx hb dX12_may_57 rfl (lv_at hl 1 rfl) ?_
          refine lv_iload_n hx hb dX12_may_58 rfl (lv_at hl 2 rfl) ?_
          refine wvi (As := [.int p1]) (rest := []) (b := (g 45)) (d := 1) F hK hP hD hS hA (s_X12_isLastOf l G g q I0 J0 R0 L0 hvI hvR  p1 (show ((0 : Int) ≤ p1.toInt ∧ p1.toInt ≤ (11 : Int)) from by omega)) kmV_X12_isLastOf mlX12_523 clX12 rfl 0 (Wm_at0 G g q I0 J0 R0 L0) ⟨(Nat.le_of_ble_eq_true rfl), (Nat.le_of_ble_eq_true rfl)⟩ hl.1 rfl (Nat.le_of_ble_eq_true rfl) dX12_may_59 (fun r18 u19 H locs hwr18 hP hD hS => ?_)
          have F0r18 := hwr18
          replace F0r18 : ((0 : Int) ≤ r18.toInt ∧ r18.toInt ≤ (1 : Int)) := F0r18
          refine lv_if_ne (tgt := 67) hx hb dX12_may_62 (by decide) (fun c20 => ?_) (fun c20 => ?_)
          · have gc20 : ¬ (r18.toInt = 0) := fun q0 => c20 (Int32.toInt_inj.mp q0)
            refine lv_bipush (v := 31) hx hb dX12_may_67 (by decide) ?_
            refine lv_istore (lv' := [(4, .int 31), (3, .int x13), (0, .ref (g 45)), (1, .int p1), (2, .int p2)]) hx hb dX12_may_69 hl (by decide) rfl (fun ls hl => ?_)
            refine lv_iconst (v := 0) hx hb dX12_may_71 (by decide) ?_
            refine lv_istore (lv' := [(5, .int 0), (4, .int 31), (3, .int x13), (0, .ref (g 45)), (1, .int p1), (2, .int p2)]) hx hb dX12_may_72 hl (by decide) rfl (fun ls hl => ?_)
            exact lab_74 13 x13 31 0 _ _ _ (show (12 - 0) < ((13 : Nat) : Int) from by omega) (show ((0 : Int) ≤ x13.toInt ∧ x13.toInt ≤ (5 : Int)) from by omega) (by decide) hP hD hS (lv_sub hl [3, 4, 2, 1, 0] rfl)
          · have gc20 : r18.toInt = 0 := congrArg Int32.toInt c20
            refine lv_iconst (v := 1) hx hb dX12_may_65 (by decide) ?_
            rw [hQ]
            exact q_z F hr hlk () hP hD hS (show ((0 : Int) ≤ 1 ∧ 1 ≤ (1 : Int)) from by omega) dX12_may_66 (Nat.le_of_ble_eq_true rfl) (Nat.le_of_ble_eq_true rfl) (nar01 (by decide))
      · have gc10 : ¬ (5 ≤ a3_2.toInt) := fun q0 => c10 ((tle _ _).mpr q0)
        refine lv_aload_n hx hb dX12_may_7 rfl (lv_at hl 0 rfl) ?_
        refine lv_iload_n hx hb dX12_may_8 rfl (lv_at hl 1 rfl) ?_
        refine lv_iload_n hx hb dX12_may_9 rfl (lv_at hl 3 rfl) ?_
        refine wvi (As := [.int p1, .int a3_2]) (rest := []) (b := (g 45)) (d := 2) F hK hP hD hS hA (s_X12_triedOn l G g q I0 J0 R0 L0 hvI hvR  p1 a3_2 (show ((0 : Int) ≤ p1.toInt ∧ p1.toInt ≤ (11 : Int)) from by omega) (show ((0 : Int) ≤ a3_2.toInt ∧ a3_2.toInt ≤ (4 : Int)) from by omega)) kmV_X12_triedOn mlX12_520 clX12 rfl 0 (Wm_at0 G g q I0 J0 R0 L0) ⟨(Nat.le_of_ble_eq_true rfl), (Nat.le_of_ble_eq_true rfl)⟩ hl.1 rfl (Nat.le_of_ble_eq_true rfl) dX12_may_10 (fun r21 u22 H locs hwr21 hP hD hS => ?_)
        refine lv_iload_n hx hb dX12_may_13 rfl (lv_at hl 2 rfl) ?_
        refine lv_icmp_le (tgt := 19) hx hb dX12_may_14 (by decide) (fun c23 => ?_) (fun c23 => ?_)
        · have gc23 : r21.toInt ≤ p2.toInt := (tle _ _).mp c23
          obtain ⟨x24, ex24⟩ : ∃ y : Int32, y = a3_2 + 1 := ⟨_, rfl⟩
          have fx24 : x24.toInt = a3_2.toInt + (1 : Int) := by rw [ex24]; exact t_add (by show (-2147483648 : Int) ≤ a3_2.toInt + (1 : Int); omega) (by show a3_2.toInt + (1 : Int) ≤ 2147483647; omega)
          refine lv_iinc (v := x24) (lv' := [(3, .int x24), (0, .ref (g 45)), (1, .int p1), (2, .int p2)]) hx hb dX12_may_19 hl (k := 3) rfl (by rw [ex24]; rfl) (by decide) rfl (fun ls hl => ?_)
          refine lv_goto (tgt := 2) hx hb dX12_may_22 (by decide) ?_
          exact ih_2 x24 _ _ _ (show (5 - x24.toInt) < (k_2 : Int) from by omega) (show ((0 : Int) ≤ x24.toInt ∧ x24.toInt ≤ (5 : Int)) from by omega) hP hD hS (lv_sub hl [1, 2, 3, 0] rfl)
        · have gc23 : ¬ (r21.toInt ≤ p2.toInt) := fun q0 => c23 ((tle _ _).mpr q0)
          refine lv_iconst (v := 0) hx hb dX12_may_17 (by decide) ?_
          rw [hQ]
          exact q_z F hr hlk () hP hD hS (show ((0 : Int) ≤ 0 ∧ 0 ≤ (1 : Int)) from by omega) dX12_may_18 (Nat.le_of_ble_eq_true rfl) (Nat.le_of_ble_eq_true rfl) (nar01 (by decide))
  refine lv_iconst (v := 0) hx hb dX12_may_0 (by decide) ?_
  refine lv_istore_n (lv' := [(3, .int 0), (0, .ref (g 45)), (1, .int p1), (2, .int p2)]) hx hb dX12_may_1 rfl hl (by decide) rfl (fun ls hl => ?_)
  exact lab_2 6 0 _ _ _ (show (5 - 0) < ((6 : Nat) : Int) from by omega) (by decide) hP hD hS (lv_sub hl [1, 2, 3, 0] rfl)
set_option maxHeartbeats 4000000 in
set_option maxRecDepth 100000 in
theorem s_X12_ownedOn (l : Launch) (G : Gx) (g q : Nat → Nat) (I0 : Nat → Int32) (J0 : Nat → Int64) (R0 : Nat → Nat → Int32) (L0 : Nat → Nat → Int64) (hvI : InvI Wm_lo Wm_hi I0) (hvR : InvR Wm_rl R0)  (p1 : Int32) (p2 : Int32) (hp1 : ((0 : Int) ≤ p1.toInt ∧ p1.toInt ≤ (1 : Int))) (hp2 : ((0 : Int) ≤ p2.toInt ∧ p2.toInt ≤ (11 : Int))) : CtI (S := Unit) l yX12_ownedOn cX12_ownedOn 5 (some .int) (rmD 1 0 0) G [.ref (g 45), .int p1, .int p2] (Wm G g q I0 J0 R0 L0) (fun r _ => True) (fun _ => (Wm G g q I0 J0 R0 L0)) := by
  refine ctI_of (own := RX12) (by decide +kernel) rfl (Nat.le_of_ble_eq_true rfl) ?_
  intro p e s m below meth c A ls F hr hlk hnm hK hP hD hA hS hl
  have hx := F.1
  have hb := F.2.1
  have hown := F.2.2.2.1
  have hl : lv_has ls 5 [(0, .ref (g 45)), (1, .int p1), (2, .int p2)] := hl
  obtain ⟨Q, hQ⟩ : ∃ Q : State → Prop, Q = MQ below (va_Qi (S := Unit) (fun r _ => True) (BX G A (fun _ => (Wm G g q I0 J0 R0 L0))) A) [.ref (g 45), .int p1, .int p2].toArray s 0 0 A := ⟨_, rfl⟩
  rw [show (MQ below (va_Qi (S := Unit) (fun r _ => True) (BX G A (fun _ => (Wm G g q I0 J0 R0 L0))) A) [.ref (g 45), .int p1, .int p2].toArray s (rmD 1 0 0).cells (rmD 1 0 0).slots A) = Q from hQ.symm]
  have hvI0 := hvI
  have lab_5 : ∀ (k_5 : Nat) (a3_5 : Int32) (a4_5 : Int32) (H : Heap) (locs : List Loc) (ls : Array Slot), ((12 - a4_5.toInt) < (k_5 : Int)) → ((0 : Int) ≤ a4_5.toInt ∧ a4_5.toInt ≤ (12 : Int)) → va_P G.1 vwCl (Wm G g q I0 J0 R0 L0) H → va_D A (Wm G g q I0 J0 R0 L0) → va_S A s.heap H locs → lv_has ls 5 [(0, .ref (g 45)), (1, .int p1), (2, .int p2), (3, .int a3_5), (4, .int a4_5)] → W p l e (rmD 1 0 0) s m [.ref (g 45), .int p1, .int p2].toArray below meth c H locs 0 0 Q (F0 m 5 ls []) := by
    intro k_5
    induction k_5 with
    | zero =>
      intro a3_5 a4_5 H locs ls hm y0_5 hP hD hS hl
      exact absurd hm (by omega)
    | succ k_5 ih_5 =>
      intro a3_5 a4_5 H locs ls hm y0_5 hP hD hS hl
      have lab_38 : ∀ (b0_38 : Int32) (b1_38 : Int32) (H : Heap) (locs : List Loc) (ls : Array Slot), ((0 : Int) ≤ a4_5.toInt ∧ a4_5.toInt ≤ (11 : Int)) → ((0 : Int) ≤ b0_38.toInt ∧ b0_38.toInt ≤ (1 : Int)) → va_P G.1 vwCl (Wm G g q I0 J0 R0 L0) H → va_D A (Wm G g q I0 J0 R0 L0) → va_S A s.heap H locs → lv_has ls 5 [(0, .ref (g 45)), (1, .int p1), (2, .int p2), (4, .int a4_5)] → W p l e (rmD 1 0 0) s m [.ref (g 45), .int p1, .int p2].toArray below meth c H locs 0 0 Q (F0 m 38 ls [.int b0_38, .int b1_38]) := by
        intro b0_38 b1_38 H locs ls y0_38 y1_38 hP hD hS hl
        refine lv_iadd hx hb dX12_ownedOn_38 ?_
        refine lv_topi (fun x1 ex1 => ?_)
        refine lv_istore_n (lv' := [(3, .int x1), (0, .ref (g 45)), (1, .int p1), (2, .int p2), (4, .int a4_5)]) hx hb dX12_ownedOn_39 rfl hl (by decide) rfl (fun ls hl => ?_)
        obtain ⟨x2, ex2⟩ : ∃ y : Int32, y = a4_5 + 1 := ⟨_, rfl⟩
        have fx2 : x2.toInt = a4_5.toInt + (1 : Int) := by rw [ex2]; exact t_add (by show (-2147483648 : Int) ≤ a4_5.toInt + (1 : Int); omega) (by show a4_5.toInt + (1 : Int) ≤ 2147483647; omega)
        refine lv_iinc (v := x2) (lv' := [(4, .int x2), (3, .int x1), (0, .ref (g 45)), (1, .int p1), (2, .int p2)]) hx hb dX12_ownedOn_40 hl (k := 4) rfl (by rw [ex2]; rfl) (by decide) rfl (fun ls hl => ?_)
        refine lv_goto (tgt := 5) hx hb dX12_ownedOn_43 (by decide) ?_
        exact ih_5 x1 x2 _ _ _ (show (12 - x2.toInt) < (k_5 : Int) from by omega) (show ((0 : Int) ≤ x2.toInt ∧ x2.toInt ≤ (12 : Int)) from by omega) hP hD hS (lv_sub hl [2, 3, 4, 1, 0] rfl)
      refine lv_iload hx hb dX12_ownedOn_5 (lv_at hl 4 rfl) ?_
      refine lv_aload_n hx hb dX12_ownedOn_7 rfl (lv_at hl 0 rfl) ?_
      refine g_get F hK hP 0 (Wm_at0 G g q I0 J0 R0 L0) clX12 21 (by decide) flX12_77 rfl dX12_ownedOn_8 ?_
      refine lv_iload_n hx hb dX12_ownedOn_11 rfl (lv_at hl 1 rfl) ?_
      refine g_iald F hK hP 10 (Wm_at10 G g q I0 J0 R0 L0) (in_of (by omega)) dX12_ownedOn_12 rfl ?_
      refine lv_topi (fun x3 ex3 => ?_)
      have gx3 : x3.toInt = (R0 7 (Int32.toNatClampNeg p1)).toInt := congrArg Int32.toInt (ex3)
      have fx3 : ((0 : Int) ≤ x3.toInt ∧ x3.toInt ≤ (12 : Int)) := by rw [ex3]; exact hvR 7 (by decide) _ (clamp_lt (n := 2) (in_of (by omega)))
      refine lv_icmp_ge (tgt := 46) hx hb dX12_ownedOn_13 (by decide) (fun c4 => ?_) (fun c4 => ?_)
      · have gc4 : x3.toInt ≤ a4_5.toInt := (tle _ _).mp c4
        refine lv_iload_n hx hb dX12_ownedOn_46 rfl (lv_at hl 3 rfl) ?_
        rw [hQ]
        exact q_i F hr hlk () hP hD hS trivial dX12_ownedOn_47 (Nat.le_of_ble_eq_true rfl) (Nat.le_of_ble_eq_true rfl)
      · have gc4 : ¬ (x3.toInt ≤ a4_5.toInt) := fun q0 => c4 ((tle _ _).mpr q0)
        refine lv_iload_n hx hb dX12_ownedOn_16 rfl (lv_at hl 3 rfl) ?_
        refine lv_aload_n hx hb dX12_ownedOn_17 rfl (lv_at hl 0 rfl) ?_
        refine g_get F hK hP 0 (Wm_at0 G g q I0 J0 R0 L0) clX12 28 (by decide) flX12_98 rfl dX12_ownedOn_18 ?_
        refine lv_bipush (v := 12) hx hb dX12_ownedOn_21 (by decide) ?_
        refine lv_iload_n hx hb dX12_ownedOn_23 rfl (lv_at hl 1 rfl) ?_
        refine lv_imul hx hb dX12_ownedOn_24 ?_
        refine lv_topi (fun x5 ex5 => ?_)
        have fx5 : x5.toInt = 12 * p1.toInt := by rw [ex5]; exact t_mul (by show (-2147483648 : Int) ≤ 12 * p1.toInt; omega) (by show 12 * p1.toInt ≤ 2147483647; omega)
        refine lv_iload hx hb dX12_ownedOn_25 (lv_at hl 4 rfl) ?_
        refine lv_iadd hx hb dX12_ownedOn_27 ?_
        refine lv_topi (fun x6 ex6 => ?_)
        have fx6 : x6.toInt = x5.toInt + a4_5.toInt := by rw [ex6]; exact t_add (by show (-2147483648 : Int) ≤ x5.toInt + a4_5.toInt; omega) (by show x5.toInt + a4_5.toInt ≤ 2147483647; omega)
        refine g_iald F hK hP 17 (Wm_at17 G g q I0 J0 R0 L0) (in_of (by omega)) dX12_ownedOn_28 rfl ?_
        refine lv_topi (fun x7 ex7 => ?_)
        have gx7 : x7.toInt = (R0 13 (Int32.toNatClampNeg x6)).toInt := congrArg Int32.toInt (ex7)
        have fx7 : ((-1 : Int) ≤ x7.toInt ∧ x7.toInt ≤ (4 : Int)) := by rw [ex7]; exact hvR 13 (by decide) _ (clamp_lt (n := 24) (in_of (by omega)))
        refine lv_iload_n hx hb dX12_ownedOn_29 rfl (lv_at hl 2 rfl) ?_
        refine lv_icmp_ne (tgt := 37) hx hb dX12_ownedOn_30 (by decide) (fun c8 => ?_) (fun c8 => ?_)
        · have gc8 : ¬ (x7.toInt = p2.toInt) := fun q0 => c8 (Int32.toInt_inj.mp q0)
          refine lv_iconst (v := 0) hx hb dX12_ownedOn_37 (by decide) ?_
          exact lab_38 0 a3_5 _ _ _ (show ((0 : Int) ≤ a4_5.toInt ∧ a4_5.toInt ≤ (11 : Int)) from by omega) (by decide) hP hD hS (lv_sub hl [0, 1, 2, 4] rfl)
        · have gc8 : x7.toInt = p2.toInt := congrArg Int32.toInt c8
          refine lv_iconst (v := 1) hx hb dX12_ownedOn_33 (by decide) ?_
          refine lv_goto (tgt := 38) hx hb dX12_ownedOn_34 (by decide) ?_
          exact lab_38 1 a3_5 _ _ _ (show ((0 : Int) ≤ a4_5.toInt ∧ a4_5.toInt ≤ (11 : Int)) from by omega) (by decide) hP hD hS (lv_sub hl [0, 1, 2, 4] rfl)
  refine lv_iconst (v := 0) hx hb dX12_ownedOn_0 (by decide) ?_
  refine lv_istore_n (lv' := [(3, .int 0), (0, .ref (g 45)), (1, .int p1), (2, .int p2)]) hx hb dX12_ownedOn_1 rfl hl (by decide) rfl (fun ls hl => ?_)
  refine lv_iconst (v := 0) hx hb dX12_ownedOn_2 (by decide) ?_
  refine lv_istore (lv' := [(4, .int 0), (3, .int 0), (0, .ref (g 45)), (1, .int p1), (2, .int p2)]) hx hb dX12_ownedOn_3 hl (by decide) rfl (fun ls hl => ?_)
  exact lab_5 13 0 0 _ _ _ (show (12 - 0) < ((13 : Nat) : Int) from by omega) (by decide) hP hD hS (lv_sub hl [2, 3, 4, 1, 0] rfl)
set_option maxHeartbeats 4000000 in
set_option maxRecDepth 100000 in
theorem s_X12_sitting (l : Launch) (G : Gx) (g q : Nat → Nat) (I0 : Nat → Int32) (J0 : Nat → Int64) (R0 : Nat → Nat → Int32) (L0 : Nat → Nat → Int64) (hvI : InvI Wm_lo Wm_hi I0) (hvR : InvR Wm_rl R0)  (p1 : Int32) (p2 : Int32) (hp1 : ((0 : Int) ≤ p1.toInt ∧ p1.toInt ≤ (4 : Int))) (hp2 : ((0 : Int) ≤ p2.toInt ∧ p2.toInt ≤ (1 : Int))) : CtI (S := Unit) l yX12_sitting cX12_sitting 5 (some .int) (rmD 2 0 0) G [.ref (g 45), .int p1, .int p2] (Wm G g q I0 J0 R0 L0) (fun r _ => True) (fun _ => (Wm G g q I0 J0 R0 L0)) := by
  refine ctI_of (own := RX12) (by decide +kernel) rfl (Nat.le_of_ble_eq_true rfl) ?_
  intro p e s m below meth c A ls F hr hlk hnm hK hP hD hA hS hl
  have hx := F.1
  have hb := F.2.1
  have hown := F.2.2.2.1
  have hl : lv_has ls 5 [(0, .ref (g 45)), (1, .int p1), (2, .int p2)] := hl
  obtain ⟨Q, hQ⟩ : ∃ Q : State → Prop, Q = MQ below (va_Qi (S := Unit) (fun r _ => True) (BX G A (fun _ => (Wm G g q I0 J0 R0 L0))) A) [.ref (g 45), .int p1, .int p2].toArray s 0 0 A := ⟨_, rfl⟩
  rw [show (MQ below (va_Qi (S := Unit) (fun r _ => True) (BX G A (fun _ => (Wm G g q I0 J0 R0 L0))) A) [.ref (g 45), .int p1, .int p2].toArray s (rmD 2 0 0).cells (rmD 2 0 0).slots A) = Q from hQ.symm]
  have hvI0 := hvI
  have lab_5 : ∀ (k_5 : Nat) (a3_5 : Int32) (a4_5 : Int32) (H : Heap) (locs : List Loc) (ls : Array Slot), ((12 - a4_5.toInt) < (k_5 : Int)) → ((0 : Int) ≤ a4_5.toInt ∧ a4_5.toInt ≤ (12 : Int)) → va_P G.1 vwCl (Wm G g q I0 J0 R0 L0) H → va_D A (Wm G g q I0 J0 R0 L0) → va_S A s.heap H locs → lv_has ls 5 [(0, .ref (g 45)), (1, .int p1), (2, .int p2), (3, .int a3_5), (4, .int a4_5)] → W p l e (rmD 2 0 0) s m [.ref (g 45), .int p1, .int p2].toArray below meth c H locs 0 0 Q (F0 m 5 ls []) := by
    intro k_5
    induction k_5 with
    | zero =>
      intro a3_5 a4_5 H locs ls hm y0_5 hP hD hS hl
      exact absurd hm (by omega)
    | succ k_5 ih_5 =>
      intro a3_5 a4_5 H locs ls hm y0_5 hP hD hS hl
      have lab_50 : ∀ (b0_50 : Int32) (b1_50 : Int32) (H : Heap) (locs : List Loc) (ls : Array Slot), ((0 : Int) ≤ a4_5.toInt ∧ a4_5.toInt ≤ (11 : Int)) → ((0 : Int) ≤ b0_50.toInt ∧ b0_50.toInt ≤ (1 : Int)) → va_P G.1 vwCl (Wm G g q I0 J0 R0 L0) H → va_D A (Wm G g q I0 J0 R0 L0) → va_S A s.heap H locs → lv_has ls 5 [(0, .ref (g 45)), (1, .int p1), (2, .int p2), (4, .int a4_5)] → W p l e (rmD 2 0 0) s m [.ref (g 45), .int p1, .int p2].toArray below meth c H locs 0 0 Q (F0 m 50 ls [.int b0_50, .int b1_50]) := by
        intro b0_50 b1_50 H locs ls y0_50 y1_50 hP hD hS hl
        refine lv_iadd hx hb dX12_sitting_50 ?_
        refine lv_topi (fun x1 ex1 => ?_)
        refine lv_istore_n (lv' := [(3, .int x1), (0, .ref (g 45)), (1, .int p1), (2, .int p2), (4, .int a4_5)]) hx hb dX12_sitting_51 rfl hl (by decide) rfl (fun ls hl => ?_)
        obtain ⟨x2, ex2⟩ : ∃ y : Int32, y = a4_5 + 1 := ⟨_, rfl⟩
        have fx2 : x2.toInt = a4_5.toInt + (1 : Int) := by rw [ex2]; exact t_add (by show (-2147483648 : Int) ≤ a4_5.toInt + (1 : Int); omega) (by show a4_5.toInt + (1 : Int) ≤ 2147483647; omega)
        refine lv_iinc (v := x2) (lv' := [(4, .int x2), (3, .int x1), (0, .ref (g 45)), (1, .int p1), (2, .int p2)]) hx hb dX12_sitting_52 hl (k := 4) rfl (by rw [ex2]; rfl) (by decide) rfl (fun ls hl => ?_)
        refine lv_goto (tgt := 5) hx hb dX12_sitting_55 (by decide) ?_
        exact ih_5 x1 x2 _ _ _ (show (12 - x2.toInt) < (k_5 : Int) from by omega) (show ((0 : Int) ≤ x2.toInt ∧ x2.toInt ≤ (12 : Int)) from by omega) hP hD hS (lv_sub hl [2, 3, 4, 1, 0] rfl)
      have lab_45 : ∀ (b0_45 : Int32) (H : Heap) (locs : List Loc) (ls : Array Slot), ((0 : Int) ≤ a4_5.toInt ∧ a4_5.toInt ≤ (11 : Int)) → va_P G.1 vwCl (Wm G g q I0 J0 R0 L0) H → va_D A (Wm G g q I0 J0 R0 L0) → va_S A s.heap H locs → lv_has ls 5 [(0, .ref (g 45)), (1, .int p1), (2, .int p2), (4, .int a4_5)] → W p l e (rmD 2 0 0) s m [.ref (g 45), .int p1, .int p2].toArray below meth c H locs 0 0 Q (F0 m 45 ls [.int b0_45]) := by
        intro b0_45 H locs ls y0_45 hP hD hS hl
        refine lv_iconst (v := 1) hx hb dX12_sitting_45 (by decide) ?_
        refine lv_goto (tgt := 50) hx hb dX12_sitting_46 (by decide) ?_
        exact lab_50 1 b0_45 _ _ _ (show ((0 : Int) ≤ a4_5.toInt ∧ a4_5.toInt ≤ (11 : Int)) from by omega) (by decide) hP hD hS (lv_sub hl [0, 1, 2, 3] rfl)
      have lab_49 : ∀ (b0_49 : Int32) (H : Heap) (locs : List Loc) (ls : Array Slot), ((0 : Int) ≤ a4_5.toInt ∧ a4_5.toInt ≤ (11 : Int)) → va_P G.1 vwCl (Wm G g q I0 J0 R0 L0) H → va_D A (Wm G g q I0 J0 R0 L0) → va_S A s.heap H locs → lv_has ls 5 [(0, .ref (g 45)), (1, .int p1), (2, .int p2), (4, .int a4_5)] → W p l e (rmD 2 0 0) s m [.ref (g 45), .int p1, .int p2].toArray below meth c H locs 0 0 Q (F0 m 49 ls [.int b0_49]) := by
        intro b0_49 H locs ls y0_49 hP hD hS hl
        refine lv_iconst (v := 0) hx hb dX12_sitting_49 (by decide) ?_
        exact lab_50 0 b0_49 _ _ _ (show ((0 : Int) ≤ a4_5.toInt ∧ a4_5.toInt ≤ (11 : Int)) from by omega) (by decide) hP hD hS (lv_sub hl [0, 1, 2, 3] rfl)
      refine lv_iload hx hb dX12_sitting_5 (lv_at hl 4 rfl) ?_
      refine lv_aload_n hx hb dX12_sitting_7 rfl (lv_at hl 0 rfl) ?_
      refine g_get F hK hP 0 (Wm_at0 G g q I0 J0 R0 L0) clX12 21 (by decide) flX12_77 rfl dX12_sitting_8 ?_
      refine lv_aload_n hx hb dX12_sitting_11 rfl (lv_at hl 0 rfl) ?_
      refine g_get F hK hP 0 (Wm_at0 G g q I0 J0 R0 L0) clX12 12 (by decide) flX12_48 rfl dX12_sitting_12 ?_
      have w_I0_10 := rg (hvI0 10 (by decide)) (0) (1) rfl rfl
      refine g_iald F hK hP 10 (Wm_at10 G g q I0 J0 R0 L0) (in_of (by omega)) dX12_sitting_15 rfl ?_
      refine lv_topi (fun x3 ex3 => ?_)
      have gx3 : x3.toInt = (R0 7 (Int32.toNatClampNeg (I0 10))).toInt := congrArg Int32.toInt (ex3)
      have fx3 : ((0 : Int) ≤ x3.toInt ∧ x3.toInt ≤ (12 : Int)) := by rw [ex3]; exact hvR 7 (by decide) _ (clamp_lt (n := 2) (in_of (by omega)))
      refine lv_icmp_ge (tgt := 58) hx hb dX12_sitting_16 (by decide) (fun c4 => ?_) (fun c4 => ?_)
      · have gc4 : x3.toInt ≤ a4_5.toInt := (tle _ _).mp c4
        refine lv_iload_n hx hb dX12_sitting_58 rfl (lv_at hl 3 rfl) ?_
        rw [hQ]
        exact q_i F hr hlk () hP hD hS trivial dX12_sitting_59 (Nat.le_of_ble_eq_true rfl) (Nat.le_of_ble_eq_true rfl)
      · have gc4 : ¬ (x3.toInt ≤ a4_5.toInt) := fun q0 => c4 ((tle _ _).mpr q0)
        refine lv_iload_n hx hb dX12_sitting_19 rfl (lv_at hl 3 rfl) ?_
        refine lv_aload_n hx hb dX12_sitting_20 rfl (lv_at hl 0 rfl) ?_
        refine g_get F hK hP 0 (Wm_at0 G g q I0 J0 R0 L0) clX12 67 (by decide) flX12_216 rfl dX12_sitting_21 ?_
        refine lv_iload hx hb dX12_sitting_24 (lv_at hl 4 rfl) ?_
        refine g_iald F hK hP 44 (Wm_at44 G g q I0 J0 R0 L0) (in_of (by omega)) dX12_sitting_26 rfl ?_
        refine lv_topi (fun x5 ex5 => ?_)
        have gx5 : x5.toInt = (R0 38 (Int32.toNatClampNeg a4_5)).toInt := congrArg Int32.toInt (ex5)
        have fx5 : ((-1 : Int) ≤ x5.toInt ∧ x5.toInt ≤ (4 : Int)) := by rw [ex5]; exact hvR 38 (by decide) _ (clamp_lt (n := 12) (in_of (by omega)))
        refine lv_iload_n hx hb dX12_sitting_27 rfl (lv_at hl 1 rfl) ?_
        refine lv_icmp_ne (tgt := 49) hx hb dX12_sitting_28 (by decide) (fun c6 => ?_) (fun c6 => ?_)
        · have gc6 : ¬ (x5.toInt = p1.toInt) := fun q0 => c6 (Int32.toInt_inj.mp q0)
          exact lab_49 a3_5 _ _ _ (show ((0 : Int) ≤ a4_5.toInt ∧ a4_5.toInt ≤ (11 : Int)) from by omega) hP hD hS (lv_sub hl [0, 1, 2, 4] rfl)
        · have gc6 : x5.toInt = p1.toInt := congrArg Int32.toInt c6
          refine lv_iload_n hx hb dX12_sitting_31 rfl (lv_at hl 2 rfl) ?_
          refine lv_if_eq (tgt := 45) hx hb dX12_sitting_32 (by decide) (fun c7 => ?_) (fun c7 => ?_)
          · have gc7 : p2.toInt = 0 := congrArg Int32.toInt c7
            exact lab_45 a3_5 _ _ _ (show ((0 : Int) ≤ a4_5.toInt ∧ a4_5.toInt ≤ (11 : Int)) from by omega) hP hD hS (lv_sub hl [0, 1, 2, 4] rfl)
          · have gc7 : ¬ (p2.toInt = 0) := fun q0 => c7 (Int32.toInt_inj.mp q0)
            refine lv_aload_n hx hb dX12_sitting_35 rfl (lv_at hl 0 rfl) ?_
            refine lv_iload hx hb dX12_sitting_36 (lv_at hl 4 rfl) ?_
            refine wvi (As := [.int a4_5]) (rest := [.int a3_5]) (b := (g 45)) (d := 1) F hK hP hD hS hA (s_X12_floorOf l G g q I0 J0 R0 L0 hvI hvR  a4_5 (show ((0 : Int) ≤ a4_5.toInt ∧ a4_5.toInt ≤ (11 : Int)) from by omega)) kmV_X12_floorOf mlX12_451 clX12 rfl 0 (Wm_at0 G g q I0 J0 R0 L0) ⟨(Nat.le_of_ble_eq_true rfl), (Nat.le_of_ble_eq_true rfl)⟩ hl.1 rfl (Nat.le_of_ble_eq_true rfl) dX12_sitting_38 (fun r8 u9 H locs hwr8 hP hD hS => ?_)
            have F0r8 := hwr8
            replace F0r8 : ((-1 : Int) ≤ r8.toInt ∧ r8.toInt ≤ (4 : Int)) := F0r8
            refine lv_iconst (v := (-1)) hx hb dX12_sitting_41 (by decide) ?_
            refine lv_icmp_ne (tgt := 49) hx hb dX12_sitting_42 (by decide) (fun c10 => ?_) (fun c10 => ?_)
            · have gc10 : ¬ (r8.toInt = (-1)) := fun q0 => c10 (Int32.toInt_inj.mp q0)
              exact lab_49 a3_5 _ _ _ (show ((0 : Int) ≤ a4_5.toInt ∧ a4_5.toInt ≤ (11 : Int)) from by omega) hP hD hS (lv_sub hl [0, 1, 2, 4] rfl)
            · have gc10 : r8.toInt = (-1) := congrArg Int32.toInt c10
              exact lab_45 a3_5 _ _ _ (show ((0 : Int) ≤ a4_5.toInt ∧ a4_5.toInt ≤ (11 : Int)) from by omega) hP hD hS (lv_sub hl [0, 1, 2, 4] rfl)
  refine lv_iconst (v := 0) hx hb dX12_sitting_0 (by decide) ?_
  refine lv_istore_n (lv' := [(3, .int 0), (0, .ref (g 45)), (1, .int p1), (2, .int p2)]) hx hb dX12_sitting_1 rfl hl (by decide) rfl (fun ls hl => ?_)
  refine lv_iconst (v := 0) hx hb dX12_sitting_2 (by decide) ?_
  refine lv_istore (lv' := [(4, .int 0), (3, .int 0), (0, .ref (g 45)), (1, .int p1), (2, .int p2)]) hx hb dX12_sitting_3 hl (by decide) rfl (fun ls hl => ?_)
  exact lab_5 13 0 0 _ _ _ (show (12 - 0) < ((13 : Nat) : Int) from by omega) (by decide) hP hD hS (lv_sub hl [2, 3, 4, 1, 0] rfl)
set_option maxHeartbeats 4000000 in
set_option maxRecDepth 100000 in
theorem s_X12_tiesWith (l : Launch) (G : Gx) (g q : Nat → Nat) (I0 : Nat → Int32) (J0 : Nat → Int64) (R0 : Nat → Nat → Int32) (L0 : Nat → Nat → Int64) (hvI : InvI Wm_lo Wm_hi I0) (hvR : InvR Wm_rl R0)  (p1 : Int32) (p2 : Int32) (hp1 : ((0 : Int) ≤ p1.toInt ∧ p1.toInt ≤ (11 : Int))) (hp2 : ((0 : Int) ≤ p2.toInt ∧ p2.toInt ≤ (4 : Int))) : CtI (S := Unit) l yX12_tiesWith cX12_tiesWith 6 (some .int) (rmD 1 0 0) G [.ref (g 45), .int p1, .int p2] (Wm G g q I0 J0 R0 L0) (fun r _ => True) (fun _ => (Wm G g q I0 J0 R0 L0)) := by
  refine ctI_of (own := RX12) (by decide +kernel) rfl (Nat.le_of_ble_eq_true rfl) ?_
  intro p e s m below meth c A ls F hr hlk hnm hK hP hD hA hS hl
  have hx := F.1
  have hb := F.2.1
  have hown := F.2.2.2.1
  have hl : lv_has ls 6 [(0, .ref (g 45)), (1, .int p1), (2, .int p2)] := hl
  obtain ⟨Q, hQ⟩ : ∃ Q : State → Prop, Q = MQ below (va_Qi (S := Unit) (fun r _ => True) (BX G A (fun _ => (Wm G g q I0 J0 R0 L0))) A) [.ref (g 45), .int p1, .int p2].toArray s 0 0 A := ⟨_, rfl⟩
  rw [show (MQ below (va_Qi (S := Unit) (fun r _ => True) (BX G A (fun _ => (Wm G g q I0 J0 R0 L0))) A) [.ref (g 45), .int p1, .int p2].toArray s (rmD 1 0 0).cells (rmD 1 0 0).slots A) = Q from hQ.symm]
  have hvI0 := hvI
  have lab_11 : ∀ (k_11 : Nat) (a3_11 : Int32) (a4_11 : Int32) (H : Heap) (locs : List Loc) (ls : Array Slot), ((60 - a4_11.toInt) < (k_11 : Int)) → ((0 : Int) ≤ a4_11.toInt ∧ a4_11.toInt ≤ (60 : Int)) → va_P G.1 vwCl (Wm G g q I0 J0 R0 L0) H → va_D A (Wm G g q I0 J0 R0 L0) → va_S A s.heap H locs → lv_has ls 6 [(0, .ref (g 45)), (1, .int p1), (2, .int p2), (3, .int a3_11), (4, .int a4_11)] → W p l e (rmD 1 0 0) s m [.ref (g 45), .int p1, .int p2].toArray below meth c H locs 0 0 Q (F0 m 11 ls []) := by
    intro k_11
    induction k_11 with
    | zero =>
      intro a3_11 a4_11 H locs ls hm y0_11 hP hD hS hl
      exact absurd hm (by omega)
    | succ k_11 ih_11 =>
      intro a3_11 a4_11 H locs ls hm y0_11 hP hD hS hl
      have lab_107 : ∀ (b0_107 : Int32) (b1_107 : Int32) (H : Heap) (locs : List Loc) (ls : Array Slot), ((0 : Int) ≤ a4_11.toInt ∧ a4_11.toInt ≤ (59 : Int)) → va_P G.1 vwCl (Wm G g q I0 J0 R0 L0) H → va_D A (Wm G g q I0 J0 R0 L0) → va_S A s.heap H locs → lv_has ls 6 [(0, .ref (g 45)), (1, .int p1), (2, .int p2), (4, .int a4_11)] → W p l e (rmD 1 0 0) s m [.ref (g 45), .int p1, .int p2].toArray below meth c H locs 0 0 Q (F0 m 107 ls [.int b0_107, .int b1_107]) := by
        intro b0_107 b1_107 H locs ls y0_107 hP hD hS hl
        refine lv_iadd hx hb dX12_tiesWith_107 ?_
        refine lv_topi (fun x1 ex1 => ?_)
        refine lv_istore_n (lv' := [(3, .int x1), (0, .ref (g 45)), (1, .int p1), (2, .int p2), (4, .int a4_11)]) hx hb dX12_tiesWith_108 rfl hl (by decide) rfl (fun ls hl => ?_)
        obtain ⟨x2, ex2⟩ : ∃ y : Int32, y = a4_11 + 1 := ⟨_, rfl⟩
        have fx2 : x2.toInt = a4_11.toInt + (1 : Int) := by rw [ex2]; exact t_add (by show (-2147483648 : Int) ≤ a4_11.toInt + (1 : Int); omega) (by show a4_11.toInt + (1 : Int) ≤ 2147483647; omega)
        refine lv_iinc (v := x2) (lv' := [(4, .int x2), (3, .int x1), (0, .ref (g 45)), (1, .int p1), (2, .int p2)]) hx hb dX12_tiesWith_109 hl (k := 4) rfl (by rw [ex2]; rfl) (by decide) rfl (fun ls hl => ?_)
        refine lv_goto (tgt := 11) hx hb dX12_tiesWith_112 (by decide) ?_
        exact ih_11 x1 x2 _ _ _ (show (60 - x2.toInt) < (k_11 : Int) from by omega) (show ((0 : Int) ≤ x2.toInt ∧ x2.toInt ≤ (60 : Int)) from by omega) hP hD hS (lv_sub hl [2, 3, 4, 1, 0] rfl)
      have lab_106 : ∀ (b0_106 : Int32) (H : Heap) (locs : List Loc) (ls : Array Slot), ((0 : Int) ≤ a4_11.toInt ∧ a4_11.toInt ≤ (59 : Int)) → va_P G.1 vwCl (Wm G g q I0 J0 R0 L0) H → va_D A (Wm G g q I0 J0 R0 L0) → va_S A s.heap H locs → lv_has ls 6 [(0, .ref (g 45)), (1, .int p1), (2, .int p2), (4, .int a4_11)] → W p l e (rmD 1 0 0) s m [.ref (g 45), .int p1, .int p2].toArray below meth c H locs 0 0 Q (F0 m 106 ls [.int b0_106]) := by
        intro b0_106 H locs ls y0_106 hP hD hS hl
        refine lv_iconst (v := 0) hx hb dX12_tiesWith_106 (by decide) ?_
        exact lab_107 0 b0_106 _ _ _ (show ((0 : Int) ≤ a4_11.toInt ∧ a4_11.toInt ≤ (59 : Int)) from by omega) hP hD hS (lv_sub hl [0, 1, 2, 3] rfl)
      have lab_76 : ∀ (b0_76 : Int32) (H : Heap) (locs : List Loc) (ls : Array Slot), ((0 : Int) ≤ a4_11.toInt ∧ a4_11.toInt ≤ (59 : Int)) → ((-1 : Int) ≤ b0_76.toInt ∧ b0_76.toInt ≤ (11 : Int)) → va_P G.1 vwCl (Wm G g q I0 J0 R0 L0) H → va_D A (Wm G g q I0 J0 R0 L0) → va_S A s.heap H locs → lv_has ls 6 [(0, .ref (g 45)), (1, .int p1), (2, .int p2), (3, .int a3_11), (4, .int a4_11)] → W p l e (rmD 1 0 0) s m [.ref (g 45), .int p1, .int p2].toArray below meth c H locs 0 0 Q (F0 m 76 ls [.int b0_76]) := by
        intro b0_76 H locs ls y0_76 y1_76 hP hD hS hl
        refine lv_istore (lv' := [(5, .int b0_76), (0, .ref (g 45)), (1, .int p1), (2, .int p2), (3, .int a3_11), (4, .int a4_11)]) hx hb dX12_tiesWith_76 hl (by decide) rfl (fun ls hl => ?_)
        refine lv_iload_n hx hb dX12_tiesWith_78 rfl (lv_at hl 4 rfl) ?_
        refine lv_iload hx hb dX12_tiesWith_79 (lv_at hl 0 rfl) ?_
        refine lv_iconst (v := (-1)) hx hb dX12_tiesWith_81 (by decide) ?_
        refine lv_icmp_eq (tgt := 106) hx hb dX12_tiesWith_82 (by decide) (fun c3 => ?_) (fun c3 => ?_)
        · have gc3 : b0_76.toInt = (-1) := congrArg Int32.toInt c3
          exact lab_106 a3_11 _ _ _ (show ((0 : Int) ≤ a4_11.toInt ∧ a4_11.toInt ≤ (59 : Int)) from by omega) hP hD hS (lv_sub hl [1, 2, 3, 5] rfl)
        · have gc3 : ¬ (b0_76.toInt = (-1)) := fun q0 => c3 (Int32.toInt_inj.mp q0)
          refine lv_aload_n hx hb dX12_tiesWith_85 rfl (lv_at hl 1 rfl) ?_
          refine g_get F hK hP 0 (Wm_at0 G g q I0 J0 R0 L0) clX12 67 (by decide) flX12_216 rfl dX12_tiesWith_86 ?_
          refine lv_iload hx hb dX12_tiesWith_89 (lv_at hl 0 rfl) ?_
          refine g_iald F hK hP 44 (Wm_at44 G g q I0 J0 R0 L0) (in_of (by omega)) dX12_tiesWith_91 rfl ?_
          refine lv_topi (fun x4 ex4 => ?_)
          have gx4 : x4.toInt = (R0 38 (Int32.toNatClampNeg b0_76)).toInt := congrArg Int32.toInt (ex4)
          have fx4 : ((-1 : Int) ≤ x4.toInt ∧ x4.toInt ≤ (4 : Int)) := by rw [ex4]; exact hvR 38 (by decide) _ (clamp_lt (n := 12) (in_of (by omega)))
          refine lv_iload_n hx hb dX12_tiesWith_92 rfl (lv_at hl 3 rfl) ?_
          refine lv_icmp_ne (tgt := 106) hx hb dX12_tiesWith_93 (by decide) (fun c5 => ?_) (fun c5 => ?_)
          · have gc5 : ¬ (x4.toInt = p2.toInt) := fun q0 => c5 (Int32.toInt_inj.mp q0)
            exact lab_106 a3_11 _ _ _ (show ((0 : Int) ≤ a4_11.toInt ∧ a4_11.toInt ≤ (59 : Int)) from by omega) hP hD hS (lv_sub hl [1, 2, 3, 5] rfl)
          · have gc5 : x4.toInt = p2.toInt := congrArg Int32.toInt c5
            refine lv_aload_n hx hb dX12_tiesWith_96 rfl (lv_at hl 1 rfl) ?_
            refine g_get F hK hP 0 (Wm_at0 G g q I0 J0 R0 L0) clX12 33 (by decide) flX12_113 rfl dX12_tiesWith_97 ?_
            refine lv_iload hx hb dX12_tiesWith_100 (lv_at hl 5 rfl) ?_
            refine g_iald F hK hP 22 (Wm_at22 G g q I0 J0 R0 L0) (in_of (by omega)) dX12_tiesWith_102 rfl ?_
            refine lv_topi (fun x6 ex6 => ?_)
            have gx6 : x6.toInt = (R0 18 (Int32.toNatClampNeg a4_11)).toInt := congrArg Int32.toInt (ex6)
            refine lv_goto (tgt := 107) hx hb dX12_tiesWith_103 (by decide) ?_
            exact lab_107 x6 a3_11 _ _ _ (show ((0 : Int) ≤ a4_11.toInt ∧ a4_11.toInt ≤ (59 : Int)) from by omega) hP hD hS (lv_sub hl [1, 2, 3, 5] rfl)
      refine lv_iload hx hb dX12_tiesWith_11 (lv_at hl 4 rfl) ?_
      refine lv_bipush (v := 30) hx hb dX12_tiesWith_13 (by decide) ?_
      refine lv_aload_n hx hb dX12_tiesWith_15 rfl (lv_at hl 0 rfl) ?_
      refine g_get F hK hP 0 (Wm_at0 G g q I0 J0 R0 L0) clX12 12 (by decide) flX12_48 rfl dX12_tiesWith_16 ?_
      have w_I0_10 := rg (hvI0 10 (by decide)) (0) (1) rfl rfl
      refine lv_imul hx hb dX12_tiesWith_19 ?_
      refine lv_topi (fun x7 ex7 => ?_)
      have fx7 : x7.toInt = 30 * (I0 10).toInt := by rw [ex7]; exact t_mul (by show (-2147483648 : Int) ≤ 30 * (I0 10).toInt; omega) (by show 30 * (I0 10).toInt ≤ 2147483647; omega)
      refine lv_aload_n hx hb dX12_tiesWith_20 rfl (lv_at hl 0 rfl) ?_
      refine g_get F hK hP 0 (Wm_at0 G g q I0 J0 R0 L0) clX12 30 (by decide) flX12_104 rfl dX12_tiesWith_21 ?_
      refine lv_aload_n hx hb dX12_tiesWith_24 rfl (lv_at hl 0 rfl) ?_
      refine g_get F hK hP 0 (Wm_at0 G g q I0 J0 R0 L0) clX12 12 (by decide) flX12_48 rfl dX12_tiesWith_25 ?_
      refine g_iald F hK hP 19 (Wm_at19 G g q I0 J0 R0 L0) (in_of (by omega)) dX12_tiesWith_28 rfl ?_
      refine lv_topi (fun x8 ex8 => ?_)
      have gx8 : x8.toInt = (R0 15 (Int32.toNatClampNeg (I0 10))).toInt := congrArg Int32.toInt (ex8)
      have fx8 : ((0 : Int) ≤ x8.toInt ∧ x8.toInt ≤ (30 : Int)) := by rw [ex8]; exact hvR 15 (by decide) _ (clamp_lt (n := 2) (in_of (by omega)))
      refine lv_iadd hx hb dX12_tiesWith_29 ?_
      refine lv_topi (fun x9 ex9 => ?_)
      have fx9 : x9.toInt = x7.toInt + x8.toInt := by rw [ex9]; exact t_add (by show (-2147483648 : Int) ≤ x7.toInt + x8.toInt; omega) (by show x7.toInt + x8.toInt ≤ 2147483647; omega)
      refine lv_icmp_ge (tgt := 115) hx hb dX12_tiesWith_30 (by decide) (fun c10 => ?_) (fun c10 => ?_)
      · have gc10 : x9.toInt ≤ a4_11.toInt := (tle _ _).mp c10
        refine lv_iload_n hx hb dX12_tiesWith_115 rfl (lv_at hl 3 rfl) ?_
        rw [hQ]
        exact q_i F hr hlk () hP hD hS trivial dX12_tiesWith_116 (Nat.le_of_ble_eq_true rfl) (Nat.le_of_ble_eq_true rfl)
      · have gc10 : ¬ (x9.toInt ≤ a4_11.toInt) := fun q0 => c10 ((tle _ _).mpr q0)
        refine lv_aload_n hx hb dX12_tiesWith_33 rfl (lv_at hl 0 rfl) ?_
        refine g_get F hK hP 0 (Wm_at0 G g q I0 J0 R0 L0) clX12 31 (by decide) flX12_107 rfl dX12_tiesWith_34 ?_
        refine lv_iload hx hb dX12_tiesWith_37 (lv_at hl 4 rfl) ?_
        refine g_iald F hK hP 20 (Wm_at20 G g q I0 J0 R0 L0) (in_of (by omega)) dX12_tiesWith_39 rfl ?_
        refine lv_topi (fun x11 ex11 => ?_)
        have gx11 : x11.toInt = (R0 16 (Int32.toNatClampNeg a4_11)).toInt := congrArg Int32.toInt (ex11)
        have fx11 : ((0 : Int) ≤ x11.toInt ∧ x11.toInt ≤ (11 : Int)) := by rw [ex11]; exact hvR 16 (by decide) _ (clamp_lt (n := 60) (in_of (by omega)))
        refine lv_iload_n hx hb dX12_tiesWith_40 rfl (lv_at hl 1 rfl) ?_
        refine lv_icmp_ne (tgt := 54) hx hb dX12_tiesWith_41 (by decide) (fun c12 => ?_) (fun c12 => ?_)
        · have gc12 : ¬ (x11.toInt = p1.toInt) := fun q0 => c12 (Int32.toInt_inj.mp q0)
          refine lv_aload_n hx hb dX12_tiesWith_54 rfl (lv_at hl 0 rfl) ?_
          refine g_get F hK hP 0 (Wm_at0 G g q I0 J0 R0 L0) clX12 32 (by decide) flX12_110 rfl dX12_tiesWith_55 ?_
          refine lv_iload hx hb dX12_tiesWith_58 (lv_at hl 4 rfl) ?_
          refine g_iald F hK hP 21 (Wm_at21 G g q I0 J0 R0 L0) (in_of (by omega)) dX12_tiesWith_60 rfl ?_
          refine lv_topi (fun x13 ex13 => ?_)
          have gx13 : x13.toInt = (R0 17 (Int32.toNatClampNeg a4_11)).toInt := congrArg Int32.toInt (ex13)
          have fx13 : ((0 : Int) ≤ x13.toInt ∧ x13.toInt ≤ (11 : Int)) := by rw [ex13]; exact hvR 17 (by decide) _ (clamp_lt (n := 60) (in_of (by omega)))
          refine lv_iload_n hx hb dX12_tiesWith_61 rfl (lv_at hl 1 rfl) ?_
          refine lv_icmp_ne (tgt := 75) hx hb dX12_tiesWith_62 (by decide) (fun c14 => ?_) (fun c14 => ?_)
          · have gc14 : ¬ (x13.toInt = p1.toInt) := fun q0 => c14 (Int32.toInt_inj.mp q0)
            refine lv_iconst (v := (-1)) hx hb dX12_tiesWith_75 (by decide) ?_
            exact lab_76 ((-1)) _ _ _ (show ((0 : Int) ≤ a4_11.toInt ∧ a4_11.toInt ≤ (59 : Int)) from by omega) (by decide) hP hD hS (lv_sub hl [0, 1, 2, 3, 4] rfl)
          · have gc14 : x13.toInt = p1.toInt := congrArg Int32.toInt c14
            refine lv_aload_n hx hb dX12_tiesWith_65 rfl (lv_at hl 0 rfl) ?_
            refine g_get F hK hP 0 (Wm_at0 G g q I0 J0 R0 L0) clX12 31 (by decide) flX12_107 rfl dX12_tiesWith_66 ?_
            refine lv_iload hx hb dX12_tiesWith_69 (lv_at hl 4 rfl) ?_
            refine g_iald F hK hP 20 (Wm_at20 G g q I0 J0 R0 L0) (in_of (by omega)) dX12_tiesWith_71 rfl ?_
            refine lv_topi (fun x15 ex15 => ?_)
            have gx15 : x15.toInt = (R0 16 (Int32.toNatClampNeg a4_11)).toInt := congrArg Int32.toInt (ex15)
            have fx15 : ((0 : Int) ≤ x15.toInt ∧ x15.toInt ≤ (11 : Int)) := by rw [ex15]; exact hvR 16 (by decide) _ (clamp_lt (n := 60) (in_of (by omega)))
            refine lv_goto (tgt := 76) hx hb dX12_tiesWith_72 (by decide) ?_
            exact lab_76 x15 _ _ _ (show ((0 : Int) ≤ a4_11.toInt ∧ a4_11.toInt ≤ (59 : Int)) from by omega) (show ((-1 : Int) ≤ x15.toInt ∧ x15.toInt ≤ (11 : Int)) from by omega) hP hD hS (lv_sub hl [0, 1, 2, 3, 4] rfl)
        · have gc12 : x11.toInt = p1.toInt := congrArg Int32.toInt c12
          refine lv_aload_n hx hb dX12_tiesWith_44 rfl (lv_at hl 0 rfl) ?_
          refine g_get F hK hP 0 (Wm_at0 G g q I0 J0 R0 L0) clX12 32 (by decide) flX12_110 rfl dX12_tiesWith_45 ?_
          refine lv_iload hx hb dX12_tiesWith_48 (lv_at hl 4 rfl) ?_
          refine g_iald F hK hP 21 (Wm_at21 G g q I0 J0 R0 L0) (in_of (by omega)) dX12_tiesWith_50 rfl ?_
          refine lv_topi (fun x16 ex16 => ?_)
          have gx16 : x16.toInt = (R0 17 (Int32.toNatClampNeg a4_11)).toInt := congrArg Int32.toInt (ex16)
          have fx16 : ((0 : Int) ≤ x16.toInt ∧ x16.toInt ≤ (11 : Int)) := by rw [ex16]; exact hvR 17 (by decide) _ (clamp_lt (n := 60) (in_of (by omega)))
          refine lv_goto (tgt := 76) hx hb dX12_tiesWith_51 (by decide) ?_
          exact lab_76 x16 _ _ _ (show ((0 : Int) ≤ a4_11.toInt ∧ a4_11.toInt ≤ (59 : Int)) from by omega) (show ((-1 : Int) ≤ x16.toInt ∧ x16.toInt ≤ (11 : Int)) from by omega) hP hD hS (lv_sub hl [0, 1, 2, 3, 4] rfl)
  refine lv_iconst (v := 0) hx hb dX12_tiesWith_0 (by decide) ?_
  refine lv_istore_n (lv' := [(3, .int 0), (0, .ref (g 45)), (1, .int p1), (2, .int p2)]) hx hb dX12_tiesWith_1 rfl hl (by decide) rfl (fun ls hl => ?_)
  refine lv_bipush (v := 30) hx hb dX12_tiesWith_2 (by decide) ?_
  refine lv_aload_n hx hb dX12_tiesWith_4 rfl (lv_at hl 1 rfl) ?_
  refine g_get F hK hP 0 (Wm_at0 G g q I0 J0 R0 L0) clX12 12 (by decide) flX12_48 rfl dX12_tiesWith_5 ?_
  have w_I0_10 := rg (hvI0 10 (by decide)) (0) (1) rfl rfl
  refine lv_imul hx hb dX12_tiesWith_8 ?_
  refine lv_topi (fun x17 ex17 => ?_)
  have fx17 : x17.toInt = 30 * (I0 10).toInt := by rw [ex17]; exact t_mul (by show (-2147483648 : Int) ≤ 30 * (I0 10).toInt; omega) (by show 30 * (I0 10).toInt ≤ 2147483647; omega)
  refine lv_istore (lv' := [(4, .int x17), (3, .int 0), (0, .ref (g 45)), (1, .int p1), (2, .int p2)]) hx hb dX12_tiesWith_9 hl (by decide) rfl (fun ls hl => ?_)
  exact lab_11 61 0 x17 _ _ _ (show (60 - x17.toInt) < ((61 : Nat) : Int) from by omega) (show ((0 : Int) ≤ x17.toInt ∧ x17.toInt ≤ (60 : Int)) from by omega) hP hD hS (lv_sub hl [2, 3, 4, 1, 0] rfl)
set_option maxHeartbeats 4000000 in
set_option maxRecDepth 100000 in
theorem s_X12_floor_ (l : Launch) (G : Gx) (g q : Nat → Nat) (I0 : Nat → Int32) (J0 : Nat → Int64) (R0 : Nat → Nat → Int32) (L0 : Nat → Nat → Int64) (hvI : InvI Wm_lo Wm_hi I0) (hvR : InvR Wm_rl R0)  (p1 : Int32) (p2 : Int32)  : CtI (S := Unit) l yX12_floor_ cX12_floor_ 4 (some .int) (rmD 2 0 0) G [.ref (g 45), .int p1, .int p2] (Wm G g q I0 J0 R0 L0) (fun r _ => True) (fun _ => (Wm G g q I0 J0 R0 L0)) := by
  refine ctI_of (own := RX12) (by decide +kernel) rfl (Nat.le_of_ble_eq_true rfl) ?_
  intro p e s m below meth c A ls F hr hlk hnm hK hP hD hA hS hl
  have hx := F.1
  have hb := F.2.1
  have hown := F.2.2.2.1
  have hl : lv_has ls 4 [(0, .ref (g 45)), (1, .int p1), (2, .int p2)] := hl
  obtain ⟨Q, hQ⟩ : ∃ Q : State → Prop, Q = MQ below (va_Qi (S := Unit) (fun r _ => True) (BX G A (fun _ => (Wm G g q I0 J0 R0 L0))) A) [.ref (g 45), .int p1, .int p2].toArray s 0 0 A := ⟨_, rfl⟩
  rw [show (MQ below (va_Qi (S := Unit) (fun r _ => True) (BX G A (fun _ => (Wm G g q I0 J0 R0 L0))) A) [.ref (g 45), .int p1, .int p2].toArray s (rmD 2 0 0).cells (rmD 2 0 0).slots A) = Q from hQ.symm]
  have hvI0 := hvI
  refine lv_iload_n hx hb dX12_floor__0 rfl (lv_at hl 1 rfl) ?_
  refine lv_iconst (v := 0) hx hb dX12_floor__1 (by decide) ?_
  refine lv_aload_n hx hb dX12_floor__2 rfl (lv_at hl 0 rfl) ?_
  refine g_get F hK hP 0 (Wm_at0 G g q I0 J0 R0 L0) clX12 13 (by decide) flX12_51 rfl dX12_floor__3 ?_
  refine lv_aload_n hx hb dX12_floor__6 rfl (lv_at hl 0 rfl) ?_
  refine g_get F hK hP 0 (Wm_at0 G g q I0 J0 R0 L0) clX12 12 (by decide) flX12_48 rfl dX12_floor__7 ?_
  have w_I0_10 := rg (hvI0 10 (by decide)) (0) (1) rfl rfl
  refine g_iald F hK hP 2 (Wm_at2 G g q I0 J0 R0 L0) (in_of (by omega)) dX12_floor__10 rfl ?_
  refine lv_topi (fun x1 ex1 => ?_)
  have gx1 : x1.toInt = (R0 1 (Int32.toNatClampNeg (I0 10))).toInt := congrArg Int32.toInt (ex1)
  have fx1 : ((0 : Int) ≤ x1.toInt ∧ x1.toInt ≤ (5 : Int)) := by rw [ex1]; exact hvR 1 (by decide) _ (clamp_lt (n := 2) (in_of (by omega)))
  refine lv_iconst (v := 1) hx hb dX12_floor__11 (by decide) ?_
  refine lv_isub hx hb dX12_floor__12 ?_
  refine lv_topi (fun x2 ex2 => ?_)
  have fx2 : x2.toInt = x1.toInt - 1 := by rw [ex2]; exact t_sub (by show (-2147483648 : Int) ≤ x1.toInt - 1; omega) (by show x1.toInt - 1 ≤ 2147483647; omega)
  refine w0i (As := [.int p1, .int 0, .int x2]) (rest := []) (d := 1) F hK hP hD hS hA (s_X12_is l G  p1 0 x2 (by decide) (show ((-1 : Int) ≤ x2.toInt ∧ x2.toInt ≤ (2000 : Int)) from by omega)) kmS_X12_is mlX12_316 ⟨(Nat.le_of_ble_eq_true rfl), (Nat.le_of_ble_eq_true rfl)⟩ hl.1 rfl (Nat.le_of_ble_eq_true rfl) dX12_floor__13 (fun r3 u4 H locs hwr3 hP hD hS => ?_)
  obtain ⟨F0r3, F1r3⟩ := hwr3
  replace F0r3 : ((0 : Int) ≤ r3.toInt ∧ r3.toInt ≤ (1 : Int)) := F0r3
  replace F1r3 : (r3.toInt = 1 → ((0 : Int) ≤ p1.toInt ∧ p1.toInt ≤ x2.toInt)) := F1r3
  refine lv_if_ne (tgt := 21) hx hb dX12_floor__16 (by decide) (fun c5 => ?_) (fun c5 => ?_)
  · have gc5 : ¬ (r3.toInt = 0) := fun q0 => c5 (Int32.toInt_inj.mp q0)
    refine lv_iconst (v := 5) hx hb dX12_floor__21 (by decide) ?_
    refine lv_aload_n hx hb dX12_floor__22 rfl (lv_at hl 0 rfl) ?_
    refine g_get F hK hP 0 (Wm_at0 G g q I0 J0 R0 L0) clX12 12 (by decide) flX12_48 rfl dX12_floor__23 ?_
    refine lv_imul hx hb dX12_floor__26 ?_
    refine lv_topi (fun x6 ex6 => ?_)
    have fx6 : x6.toInt = 5 * (I0 10).toInt := by rw [ex6]; exact t_mul (by show (-2147483648 : Int) ≤ 5 * (I0 10).toInt; omega) (by show 5 * (I0 10).toInt ≤ 2147483647; omega)
    refine lv_iload_n hx hb dX12_floor__27 rfl (lv_at hl 1 rfl) ?_
    refine lv_iadd hx hb dX12_floor__28 ?_
    refine lv_topi (fun x7 ex7 => ?_)
    have fx7 : x7.toInt = x6.toInt + p1.toInt := by rw [ex7]; exact t_add (by show (-2147483648 : Int) ≤ x6.toInt + p1.toInt; omega) (by show x6.toInt + p1.toInt ≤ 2147483647; omega)
    refine lv_istore_n (lv' := [(3, .int x7), (0, .ref (g 45)), (1, .int p1), (2, .int p2)]) hx hb dX12_floor__29 rfl hl (by decide) rfl (fun ls hl => ?_)
    refine lv_iload_n hx hb dX12_floor__30 rfl (lv_at hl 3 rfl) ?_
    refine lv_if_ne (tgt := 43) hx hb dX12_floor__31 (by decide) (fun c8 => ?_) (fun c8 => ?_)
    · have gc8 : ¬ (p2.toInt = 0) := fun q0 => c8 (Int32.toInt_inj.mp q0)
      refine lv_iload_n hx hb dX12_floor__43 rfl (lv_at hl 3 rfl) ?_
      refine lv_iconst (v := 1) hx hb dX12_floor__44 (by decide) ?_
      refine lv_icmp_ne (tgt := 57) hx hb dX12_floor__45 (by decide) (fun c9 => ?_) (fun c9 => ?_)
      · have gc9 : ¬ (p2.toInt = 1) := fun q0 => c9 (Int32.toInt_inj.mp q0)
        refine lv_iload_n hx hb dX12_floor__57 rfl (lv_at hl 3 rfl) ?_
        refine lv_iconst (v := 2) hx hb dX12_floor__58 (by decide) ?_
        refine lv_icmp_ne (tgt := 71) hx hb dX12_floor__59 (by decide) (fun c10 => ?_) (fun c10 => ?_)
        · have gc10 : ¬ (p2.toInt = 2) := fun q0 => c10 (Int32.toInt_inj.mp q0)
          refine lv_iload_n hx hb dX12_floor__71 rfl (lv_at hl 3 rfl) ?_
          refine lv_iconst (v := 3) hx hb dX12_floor__72 (by decide) ?_
          refine lv_icmp_ne (tgt := 88) hx hb dX12_floor__73 (by decide) (fun c11 => ?_) (fun c11 => ?_)
          · have gc11 : ¬ (p2.toInt = 3) := fun q0 => c11 (Int32.toInt_inj.mp q0)
            refine lv_iconst (v := (-1)) hx hb dX12_floor__88 (by decide) ?_
            rw [hQ]
            exact q_i F hr hlk () hP hD hS trivial dX12_floor__89 (Nat.le_of_ble_eq_true rfl) (Nat.le_of_ble_eq_true rfl)
          · have gc11 : p2.toInt = 3 := congrArg Int32.toInt c11
            refine lv_aload_n hx hb dX12_floor__76 rfl (lv_at hl 1 rfl) ?_
            refine lv_aload_n hx hb dX12_floor__77 rfl (lv_at hl 1 rfl) ?_
            refine g_get F hK hP 0 (Wm_at0 G g q I0 J0 R0 L0) clX12 12 (by decide) flX12_48 rfl dX12_floor__78 ?_
            refine lv_iload_n hx hb dX12_floor__81 rfl (lv_at hl 2 rfl) ?_
            refine wvi (As := [.int (I0 10), .int p1]) (rest := []) (b := (g 45)) (d := 1) F hK hP hD hS hA (s_X12_ownedOn l G g q I0 J0 R0 L0 hvI hvR  ((I0 10)) p1 (show ((0 : Int) ≤ (I0 10).toInt ∧ (I0 10).toInt ≤ (1 : Int)) from by omega) (show ((0 : Int) ≤ p1.toInt ∧ p1.toInt ≤ (11 : Int)) from by omega)) kmV_X12_ownedOn mlX12_381 clX12 rfl 0 (Wm_at0 G g q I0 J0 R0 L0) ⟨(Nat.le_of_ble_eq_true rfl), (Nat.le_of_ble_eq_true rfl)⟩ hl.1 rfl (Nat.le_of_ble_eq_true rfl) dX12_floor__82 (fun r12 u13 H locs hwr12 hP hD hS => ?_)
            refine lv_goto (tgt := 89) hx hb dX12_floor__85 (by decide) ?_
            rw [hQ]
            exact q_i F hr hlk () hP hD hS trivial dX12_floor__89 (Nat.le_of_ble_eq_true rfl) (Nat.le_of_ble_eq_true rfl)
        · have gc10 : p2.toInt = 2 := congrArg Int32.toInt c10
          refine lv_aload_n hx hb dX12_floor__62 rfl (lv_at hl 1 rfl) ?_
          refine g_get F hK hP 0 (Wm_at0 G g q I0 J0 R0 L0) clX12 17 (by decide) flX12_64 rfl dX12_floor__63 ?_
          refine lv_iload_n hx hb dX12_floor__66 rfl (lv_at hl 0 rfl) ?_
          refine g_iald F hK hP 6 (Wm_at6 G g q I0 J0 R0 L0) (in_of (by omega)) dX12_floor__67 rfl ?_
          refine lv_topi (fun x14 ex14 => ?_)
          have gx14 : x14.toInt = (R0 4 (Int32.toNatClampNeg x7)).toInt := congrArg Int32.toInt (ex14)
          refine lv_goto (tgt := 89) hx hb dX12_floor__68 (by decide) ?_
          rw [hQ]
          exact q_i F hr hlk () hP hD hS trivial dX12_floor__89 (Nat.le_of_ble_eq_true rfl) (Nat.le_of_ble_eq_true rfl)
      · have gc9 : p2.toInt = 1 := congrArg Int32.toInt c9
        refine lv_aload_n hx hb dX12_floor__48 rfl (lv_at hl 1 rfl) ?_
        refine g_get F hK hP 0 (Wm_at0 G g q I0 J0 R0 L0) clX12 16 (by decide) flX12_61 rfl dX12_floor__49 ?_
        refine lv_iload_n hx hb dX12_floor__52 rfl (lv_at hl 0 rfl) ?_
        refine g_iald F hK hP 5 (Wm_at5 G g q I0 J0 R0 L0) (in_of (by omega)) dX12_floor__53 rfl ?_
        refine lv_topi (fun x15 ex15 => ?_)
        have gx15 : x15.toInt = (R0 3 (Int32.toNatClampNeg x7)).toInt := congrArg Int32.toInt (ex15)
        refine lv_goto (tgt := 89) hx hb dX12_floor__54 (by decide) ?_
        rw [hQ]
        exact q_i F hr hlk () hP hD hS trivial dX12_floor__89 (Nat.le_of_ble_eq_true rfl) (Nat.le_of_ble_eq_true rfl)
    · have gc8 : p2.toInt = 0 := congrArg Int32.toInt c8
      refine lv_aload_n hx hb dX12_floor__34 rfl (lv_at hl 1 rfl) ?_
      refine g_get F hK hP 0 (Wm_at0 G g q I0 J0 R0 L0) clX12 15 (by decide) flX12_58 rfl dX12_floor__35 ?_
      refine lv_iload_n hx hb dX12_floor__38 rfl (lv_at hl 0 rfl) ?_
      refine g_iald F hK hP 4 (Wm_at4 G g q I0 J0 R0 L0) (in_of (by omega)) dX12_floor__39 rfl ?_
      refine lv_topi (fun x16 ex16 => ?_)
      have gx16 : x16.toInt = (R0 2 (Int32.toNatClampNeg x7)).toInt := congrArg Int32.toInt (ex16)
      have fx16 : ((0 : Int) ≤ x16.toInt ∧ x16.toInt ≤ (9999 : Int)) := by rw [ex16]; exact hvR 2 (by decide) _ (clamp_lt (n := 10) (in_of (by omega)))
      refine lv_goto (tgt := 89) hx hb dX12_floor__40 (by decide) ?_
      rw [hQ]
      exact q_i F hr hlk () hP hD hS trivial dX12_floor__89 (Nat.le_of_ble_eq_true rfl) (Nat.le_of_ble_eq_true rfl)
  · have gc5 : r3.toInt = 0 := congrArg Int32.toInt c5
    refine lv_iconst (v := (-1)) hx hb dX12_floor__19 (by decide) ?_
    rw [hQ]
    exact q_i F hr hlk () hP hD hS trivial dX12_floor__20 (Nat.le_of_ble_eq_true rfl) (Nat.le_of_ble_eq_true rfl)
set_option maxHeartbeats 4000000 in
set_option maxRecDepth 100000 in
theorem s_X12_isSign (l : Launch) (G : Gx) (g q : Nat → Nat) (I0 : Nat → Int32) (J0 : Nat → Int64) (R0 : Nat → Nat → Int32) (L0 : Nat → Nat → Int64) (hvI : InvI Wm_lo Wm_hi I0) (hvR : InvR Wm_rl R0)  (p1 : Int32) (hp1 : ((37 : Int) ≤ p1.toInt ∧ p1.toInt ≤ (93 : Int))) : CtI (S := Unit) l yX12_isSign cX12_isSign 2 (some .boolean) (rmD 1 0 0) G [.ref (g 45), .int p1] (Wm G g q I0 J0 R0 L0) (fun r _ => ((0 : Int) ≤ r.toInt ∧ r.toInt ≤ (1 : Int))) (fun _ => (Wm G g q I0 J0 R0 L0)) := by
  refine ctI_of (own := RX12) (by decide +kernel) rfl (Nat.le_of_ble_eq_true rfl) ?_
  intro p e s m below meth c A ls F hr hlk hnm hK hP hD hA hS hl
  have hx := F.1
  have hb := F.2.1
  have hown := F.2.2.2.1
  have hl : lv_has ls 2 [(0, .ref (g 45)), (1, .int p1)] := hl
  obtain ⟨Q, hQ⟩ : ∃ Q : State → Prop, Q = MQ below (va_Qi (S := Unit) (fun r _ => ((0 : Int) ≤ r.toInt ∧ r.toInt ≤ (1 : Int))) (BX G A (fun _ => (Wm G g q I0 J0 R0 L0))) A) [.ref (g 45), .int p1].toArray s 0 0 A := ⟨_, rfl⟩
  rw [show (MQ below (va_Qi (S := Unit) (fun r _ => ((0 : Int) ≤ r.toInt ∧ r.toInt ≤ (1 : Int))) (BX G A (fun _ => (Wm G g q I0 J0 R0 L0))) A) [.ref (g 45), .int p1].toArray s (rmD 1 0 0).cells (rmD 1 0 0).slots A) = Q from hQ.symm]
  have hvI0 := hvI
  refine lv_aload_n hx hb dX12_isSign_0 rfl (lv_at hl 0 rfl) ?_
  refine g_get F hK hP 0 (Wm_at0 G g q I0 J0 R0 L0) clX12 3 (by decide) flX12_20 rfl dX12_isSign_1 ?_
  have w_I0_2 := rg (hvI0 2 (by decide)) (0) (3) rfl rfl
  refine lv_iconst (v := 3) hx hb dX12_isSign_4 (by decide) ?_
  refine lv_icmp_ne (tgt := 20) hx hb dX12_isSign_5 (by decide) (fun c1 => ?_) (fun c1 => ?_)
  · have gc1 : ¬ ((I0 2).toInt = 3) := fun q0 => c1 (Int32.toInt_inj.mp q0)
    refine lv_iconst (v := 0) hx hb dX12_isSign_20 (by decide) ?_
    rw [hQ]
    exact q_z F hr hlk () hP hD hS (show ((0 : Int) ≤ 0 ∧ 0 ≤ (1 : Int)) from by omega) dX12_isSign_21 (Nat.le_of_ble_eq_true rfl) (Nat.le_of_ble_eq_true rfl) (nar01 (by decide))
  · have gc1 : (I0 2).toInt = 3 := congrArg Int32.toInt c1
    refine lv_aload_n hx hb dX12_isSign_8 rfl (lv_at hl 0 rfl) ?_
    refine g_get F hK hP 0 (Wm_at0 G g q I0 J0 R0 L0) clX12 6 (by decide) flX12_29 rfl dX12_isSign_9 ?_
    have w_I0_5 := rg (hvI0 5 (by decide)) (0) (9999) rfl rfl
    refine lv_iload_n hx hb dX12_isSign_12 rfl (lv_at hl 1 rfl) ?_
    refine lv_icmp_ne (tgt := 20) hx hb dX12_isSign_13 (by decide) (fun c2 => ?_) (fun c2 => ?_)
    · have gc2 : ¬ ((I0 5).toInt = p1.toInt) := fun q0 => c2 (Int32.toInt_inj.mp q0)
      refine lv_iconst (v := 0) hx hb dX12_isSign_20 (by decide) ?_
      rw [hQ]
      exact q_z F hr hlk () hP hD hS (show ((0 : Int) ≤ 0 ∧ 0 ≤ (1 : Int)) from by omega) dX12_isSign_21 (Nat.le_of_ble_eq_true rfl) (Nat.le_of_ble_eq_true rfl) (nar01 (by decide))
    · have gc2 : (I0 5).toInt = p1.toInt := congrArg Int32.toInt c2
      refine lv_iconst (v := 1) hx hb dX12_isSign_16 (by decide) ?_
      refine lv_goto (tgt := 21) hx hb dX12_isSign_17 (by decide) ?_
      rw [hQ]
      exact q_z F hr hlk () hP hD hS (show ((0 : Int) ≤ 1 ∧ 1 ≤ (1 : Int)) from by omega) dX12_isSign_21 (Nat.le_of_ble_eq_true rfl) (Nat.le_of_ble_eq_true rfl) (nar01 (by decide))
set_option maxHeartbeats 4000000 in
set_option maxRecDepth 100000 in
theorem s_X12_isTest (l : Launch) (G : Gx)  (p0 : Int32) (hp0 : ((0 : Int) ≤ p0.toInt ∧ p0.toInt ≤ (5 : Int))) : CtI (S := Unit) l yX12_isTest cX12_isTest 1 (some .boolean) (rmD 1 0 0) G [.int p0] [] (fun r _ => ((0 : Int) ≤ r.toInt ∧ r.toInt ≤ (1 : Int))) (fun _ => []) := by
  refine ctI_of (own := RX12) (by decide +kernel) rfl (Nat.le_of_ble_eq_true rfl) ?_
  intro p e s m below meth c A ls F hr hlk hnm hK hP hD hA hS hl
  have hx := F.1
  have hb := F.2.1
  have hown := F.2.2.2.1
  have hl : lv_has ls 1 [(0, .int p0)] := hl
  obtain ⟨Q, hQ⟩ : ∃ Q : State → Prop, Q = MQ below (va_Qi (S := Unit) (fun r _ => ((0 : Int) ≤ r.toInt ∧ r.toInt ≤ (1 : Int))) (BX G A (fun _ => [])) A) [.int p0].toArray s 0 0 A := ⟨_, rfl⟩
  rw [show (MQ below (va_Qi (S := Unit) (fun r _ => ((0 : Int) ≤ r.toInt ∧ r.toInt ≤ (1 : Int))) (BX G A (fun _ => [])) A) [.int p0].toArray s (rmD 1 0 0).cells (rmD 1 0 0).slots A) = Q from hQ.symm]
  have lab_10 : ∀  (H : Heap) (locs : List Loc) (ls : Array Slot), va_P G.1 vwCl [] H → va_D A [] → va_S A s.heap H locs → lv_has ls 1 [] → W p l e (rmD 1 0 0) s m [.int p0].toArray below meth c H locs 0 0 Q (F0 m 10 ls []) := by
    intro H locs ls hP hD hS hl
    refine lv_iconst (v := 1) hx hb dX12_isTest_10 (by decide) ?_
    refine lv_goto (tgt := 15) hx hb dX12_isTest_11 (by decide) ?_
    rw [hQ]
    exact q_z F hr hlk () hP hD hS (show ((0 : Int) ≤ 1 ∧ 1 ≤ (1 : Int)) from by omega) dX12_isTest_15 (Nat.le_of_ble_eq_true rfl) (Nat.le_of_ble_eq_true rfl) (nar01 (by decide))
  refine lv_iload_n hx hb dX12_isTest_0 rfl (lv_at hl 0 rfl) ?_
  refine lv_iconst (v := 1) hx hb dX12_isTest_1 (by decide) ?_
  refine lv_icmp_eq (tgt := 10) hx hb dX12_isTest_2 (by decide) (fun c1 => ?_) (fun c1 => ?_)
  · have gc1 : p0.toInt = 1 := congrArg Int32.toInt c1
    exact lab_10  _ _ _  hP hD hS (lv_sub hl [] rfl)
  · have gc1 : ¬ (p0.toInt = 1) := fun q0 => c1 (Int32.toInt_inj.mp q0)
    refine lv_iload_n hx hb dX12_isTest_5 rfl (lv_at hl 0 rfl) ?_
    refine lv_iconst (v := 5) hx hb dX12_isTest_6 (by decide) ?_
    refine lv_icmp_ne (tgt := 14) hx hb dX12_isTest_7 (by decide) (fun c2 => ?_) (fun c2 => ?_)
    · have gc2 : ¬ (p0.toInt = 5) := fun q0 => c2 (Int32.toInt_inj.mp q0)
      refine lv_iconst (v := 0) hx hb dX12_isTest_14 (by decide) ?_
      rw [hQ]
      exact q_z F hr hlk () hP hD hS (show ((0 : Int) ≤ 0 ∧ 0 ≤ (1 : Int)) from by omega) dX12_isTest_15 (Nat.le_of_ble_eq_true rfl) (Nat.le_of_ble_eq_true rfl) (nar01 (by decide))
    · have gc2 : p0.toInt = 5 := congrArg Int32.toInt c2
      exact lab_10  _ _ _  hP hD hS (lv_sub hl [] rfl)
set_option maxHeartbeats 4000000 in
set_option maxRecDepth 100000 in
theorem s_X12_rank (l : Launch) (G : Gx)  (p0 : Int32) (hp0 : ((0 : Int) ≤ p0.toInt ∧ p0.toInt ≤ (22 : Int))) : CtI (S := Unit) l yX12_rank cX12_rank 1 (some .int) (rmD 1 0 0) G [.int p0] [] (fun r _ => ((1 : Int) ≤ r.toInt ∧ r.toInt ≤ (6 : Int))) (fun _ => []) := by
  refine ctI_of (own := RX12) (by decide +kernel) rfl (Nat.le_of_ble_eq_true rfl) ?_
  intro p e s m below meth c A ls F hr hlk hnm hK hP hD hA hS hl
  have hx := F.1
  have hb := F.2.1
  have hown := F.2.2.2.1
  have hl : lv_has ls 1 [(0, .int p0)] := hl
  obtain ⟨Q, hQ⟩ : ∃ Q : State → Prop, Q = MQ below (va_Qi (S := Unit) (fun r _ => ((1 : Int) ≤ r.toInt ∧ r.toInt ≤ (6 : Int))) (BX G A (fun _ => [])) A) [.int p0].toArray s 0 0 A := ⟨_, rfl⟩
  rw [show (MQ below (va_Qi (S := Unit) (fun r _ => ((1 : Int) ≤ r.toInt ∧ r.toInt ≤ (6 : Int))) (BX G A (fun _ => [])) A) [.int p0].toArray s (rmD 1 0 0).cells (rmD 1 0 0).slots A) = Q from hQ.symm]
  have lab_48 : ∀  (H : Heap) (locs : List Loc) (ls : Array Slot), va_P G.1 vwCl [] H → va_D A [] → va_S A s.heap H locs → lv_has ls 1 [] → W p l e (rmD 1 0 0) s m [.int p0].toArray below meth c H locs 0 0 Q (F0 m 48 ls []) := by
    intro H locs ls hP hD hS hl
    refine lv_iconst (v := 4) hx hb dX12_rank_48 (by decide) ?_
    refine lv_goto (tgt := 70) hx hb dX12_rank_49 (by decide) ?_
    rw [hQ]
    exact q_i F hr hlk () hP hD hS (show ((1 : Int) ≤ 4 ∧ 4 ≤ (6 : Int)) from by omega) dX12_rank_70 (Nat.le_of_ble_eq_true rfl) (Nat.le_of_ble_eq_true rfl)
  have lab_64 : ∀  (H : Heap) (locs : List Loc) (ls : Array Slot), va_P G.1 vwCl [] H → va_D A [] → va_S A s.heap H locs → lv_has ls 1 [] → W p l e (rmD 1 0 0) s m [.int p0].toArray below meth c H locs 0 0 Q (F0 m 64 ls []) := by
    intro H locs ls hP hD hS hl
    refine lv_iconst (v := 5) hx hb dX12_rank_64 (by decide) ?_
    refine lv_goto (tgt := 70) hx hb dX12_rank_65 (by decide) ?_
    rw [hQ]
    exact q_i F hr hlk () hP hD hS (show ((1 : Int) ≤ 5 ∧ 5 ≤ (6 : Int)) from by omega) dX12_rank_70 (Nat.le_of_ble_eq_true rfl) (Nat.le_of_ble_eq_true rfl)
  refine lv_iload_n hx hb dX12_rank_0 rfl (lv_at hl 0 rfl) ?_
  refine lv_bipush (v := 21) hx hb dX12_rank_1 (by decide) ?_
  refine lv_icmp_ne (tgt := 10) hx hb dX12_rank_3 (by decide) (fun c1 => ?_) (fun c1 => ?_)
  · have gc1 : ¬ (p0.toInt = 21) := fun q0 => c1 (Int32.toInt_inj.mp q0)
    refine lv_iload_n hx hb dX12_rank_10 rfl (lv_at hl 0 rfl) ?_
    refine lv_bipush (v := 20) hx hb dX12_rank_11 (by decide) ?_
    refine lv_icmp_ne (tgt := 20) hx hb dX12_rank_13 (by decide) (fun c2 => ?_) (fun c2 => ?_)
    · have gc2 : ¬ (p0.toInt = 20) := fun q0 => c2 (Int32.toInt_inj.mp q0)
      refine lv_iload_n hx hb dX12_rank_20 rfl (lv_at hl 0 rfl) ?_
      refine lv_bipush (v := 22) hx hb dX12_rank_21 (by decide) ?_
      refine lv_icmp_ne (tgt := 30) hx hb dX12_rank_23 (by decide) (fun c3 => ?_) (fun c3 => ?_)
      · have gc3 : ¬ (p0.toInt = 22) := fun q0 => c3 (Int32.toInt_inj.mp q0)
        refine lv_iload_n hx hb dX12_rank_30 rfl (lv_at hl 0 rfl) ?_
        refine lv_bipush (v := 17) hx hb dX12_rank_31 (by decide) ?_
        refine lv_icmp_eq (tgt := 48) hx hb dX12_rank_33 (by decide) (fun c4 => ?_) (fun c4 => ?_)
        · have gc4 : p0.toInt = 17 := congrArg Int32.toInt c4
          exact lab_48  _ _ _  hP hD hS (lv_sub hl [] rfl)
        · have gc4 : ¬ (p0.toInt = 17) := fun q0 => c4 (Int32.toInt_inj.mp q0)
          refine lv_iload_n hx hb dX12_rank_36 rfl (lv_at hl 0 rfl) ?_
          refine lv_bipush (v := 18) hx hb dX12_rank_37 (by decide) ?_
          refine lv_icmp_eq (tgt := 48) hx hb dX12_rank_39 (by decide) (fun c5 => ?_) (fun c5 => ?_)
          · have gc5 : p0.toInt = 18 := congrArg Int32.toInt c5
            exact lab_48  _ _ _  hP hD hS (lv_sub hl [] rfl)
          · have gc5 : ¬ (p0.toInt = 18) := fun q0 => c5 (Int32.toInt_inj.mp q0)
            refine lv_iload_n hx hb dX12_rank_42 rfl (lv_at hl 0 rfl) ?_
            refine lv_bipush (v := 19) hx hb dX12_rank_43 (by decide) ?_
            refine lv_icmp_ne (tgt := 52) hx hb dX12_rank_45 (by decide) (fun c6 => ?_) (fun c6 => ?_)
            · have gc6 : ¬ (p0.toInt = 19) := fun q0 => c6 (Int32.toInt_inj.mp q0)
              refine lv_iload_n hx hb dX12_rank_52 rfl (lv_at hl 0 rfl) ?_
              refine lv_bipush (v := 10) hx hb dX12_rank_53 (by decide) ?_
              refine lv_icmp_eq (tgt := 64) hx hb dX12_rank_55 (by decide) (fun c7 => ?_) (fun c7 => ?_)
              · have gc7 : p0.toInt = 10 := congrArg Int32.toInt c7
                exact lab_64  _ _ _  hP hD hS (lv_sub hl [] rfl)
              · have gc7 : ¬ (p0.toInt = 10) := fun q0 => c7 (Int32.toInt_inj.mp q0)
                refine lv_iload_n hx hb dX12_rank_58 rfl (lv_at hl 0 rfl) ?_
                refine lv_bipush (v := 11) hx hb dX12_rank_59 (by decide) ?_
                refine lv_icmp_ne (tgt := 68) hx hb dX12_rank_61 (by decide) (fun c8 => ?_) (fun c8 => ?_)
                · have gc8 : ¬ (p0.toInt = 11) := fun q0 => c8 (Int32.toInt_inj.mp q0)
                  refine lv_bipush (v := 6) hx hb dX12_rank_68 (by decide) ?_
                  rw [hQ]
                  exact q_i F hr hlk () hP hD hS (show ((1 : Int) ≤ 6 ∧ 6 ≤ (6 : Int)) from by omega) dX12_rank_70 (Nat.le_of_ble_eq_true rfl) (Nat.le_of_ble_eq_true rfl)
                · have gc8 : p0.toInt = 11 := congrArg Int32.toInt c8
                  exact lab_64  _ _ _  hP hD hS (lv_sub hl [] rfl)
            · have gc6 : p0.toInt = 19 := congrArg Int32.toInt c6
              exact lab_48  _ _ _  hP hD hS (lv_sub hl [] rfl)
      · have gc3 : p0.toInt = 22 := congrArg Int32.toInt c3
        refine lv_iconst (v := 3) hx hb dX12_rank_26 (by decide) ?_
        refine lv_goto (tgt := 70) hx hb dX12_rank_27 (by decide) ?_
        rw [hQ]
        exact q_i F hr hlk () hP hD hS (show ((1 : Int) ≤ 3 ∧ 3 ≤ (6 : Int)) from by omega) dX12_rank_70 (Nat.le_of_ble_eq_true rfl) (Nat.le_of_ble_eq_true rfl)
    · have gc2 : p0.toInt = 20 := congrArg Int32.toInt c2
      refine lv_iconst (v := 2) hx hb dX12_rank_16 (by decide) ?_
      refine lv_goto (tgt := 70) hx hb dX12_rank_17 (by decide) ?_
      rw [hQ]
      exact q_i F hr hlk () hP hD hS (show ((1 : Int) ≤ 2 ∧ 2 ≤ (6 : Int)) from by omega) dX12_rank_70 (Nat.le_of_ble_eq_true rfl) (Nat.le_of_ble_eq_true rfl)
  · have gc1 : p0.toInt = 21 := congrArg Int32.toInt c1
    refine lv_iconst (v := 1) hx hb dX12_rank_6 (by decide) ?_
    refine lv_goto (tgt := 70) hx hb dX12_rank_7 (by decide) ?_
    rw [hQ]
    exact q_i F hr hlk () hP hD hS (show ((1 : Int) ≤ 1 ∧ 1 ≤ (6 : Int)) from by omega) dX12_rank_70 (Nat.le_of_ble_eq_true rfl) (Nat.le_of_ble_eq_true rfl)
set_option maxHeartbeats 4000000 in
set_option maxRecDepth 100000 in
theorem s_X12_grow (l : Launch) (G : Gx) (g q : Nat → Nat) (I0 : Nat → Int32) (J0 : Nat → Int64) (R0 : Nat → Nat → Int32) (L0 : Nat → Nat → Int64) (hvI : InvI Wm_lo Wm_hi I0) (hvR : InvR Wm_rl R0)  (p1 : Int32)  : CtI (S := Unit) l yX12_grow cX12_grow 6 (some .int) (rmD 4 0 0) G [.ref (g 45), .int p1] (Wm G g q I0 J0 R0 L0) (fun r _ => True) (fun _ => (Wm G g q I0 J0 R0 L0)) := by
  refine ctI_of (own := RX12) (by decide +kernel) rfl (Nat.le_of_ble_eq_true rfl) ?_
  intro p e s m below meth c A ls F hr hlk hnm hK hP hD hA hS hl
  have hx := F.1
  have hb := F.2.1
  have hown := F.2.2.2.1
  have hl : lv_has ls 6 [(0, .ref (g 45)), (1, .int p1)] := hl
  obtain ⟨Q, hQ⟩ : ∃ Q : State → Prop, Q = MQ below (va_Qi (S := Unit) (fun r _ => True) (BX G A (fun _ => (Wm G g q I0 J0 R0 L0))) A) [.ref (g 45), .int p1].toArray s 0 0 A := ⟨_, rfl⟩
  rw [show (MQ below (va_Qi (S := Unit) (fun r _ => True) (BX G A (fun _ => (Wm G g q I0 J0 R0 L0))) A) [.ref (g 45), .int p1].toArray s (rmD 4 0 0).cells (rmD 4 0 0).slots A) = Q from hQ.symm]
  have hvI0 := hvI
  have lab_15 : ∀ (k_15 : Nat) (a2_15 : Int32) (a3_15 : Int32) (H : Heap) (locs : List Loc) (ls : Array Slot), ((32 - a3_15.toInt) < (k_15 : Int)) → ((0 : Int) ≤ p1.toInt ∧ p1.toInt ≤ (5 : Int)) → ((0 : Int) ≤ a3_15.toInt ∧ a3_15.toInt ≤ (32 : Int)) → va_P G.1 vwCl (Wm G g q I0 J0 R0 L0) H → va_D A (Wm G g q I0 J0 R0 L0) → va_S A s.heap H locs → lv_has ls 6 [(0, .ref (g 45)), (1, .int p1), (2, .int a2_15), (3, .int a3_15)] → W p l e (rmD 4 0 0) s m [.ref (g 45), .int p1].toArray below meth c H locs 0 0 Q (F0 m 15 ls []) := by
    intro k_15
    induction k_15 with
    | zero =>
      intro a2_15 a3_15 H locs ls hm y0_15 y1_15 hP hD hS hl
      exact absurd hm (by omega)
    | succ k_15 ih_15 =>
      intro a2_15 a3_15 H locs ls hm y0_15 y1_15 hP hD hS hl
      have lab_98 : ∀ (b0_98 : Int32) (b1_98 : Int32) (H : Heap) (locs : List Loc) (ls : Array Slot), ((0 : Int) ≤ a3_15.toInt ∧ a3_15.toInt ≤ (31 : Int)) → ((0 : Int) ≤ b0_98.toInt ∧ b0_98.toInt ≤ (1 : Int)) → va_P G.1 vwCl (Wm G g q I0 J0 R0 L0) H → va_D A (Wm G g q I0 J0 R0 L0) → va_S A s.heap H locs → lv_has ls 6 [(0, .ref (g 45)), (1, .int p1), (3, .int a3_15)] → W p l e (rmD 4 0 0) s m [.ref (g 45), .int p1].toArray below meth c H locs 0 0 Q (F0 m 98 ls [.int b0_98, .int b1_98]) := by
        intro b0_98 b1_98 H locs ls y0_98 y1_98 hP hD hS hl
        refine lv_iadd hx hb dX12_grow_98 ?_
        refine lv_topi (fun x1 ex1 => ?_)
        refine lv_istore_n (lv' := [(2, .int x1), (0, .ref (g 45)), (1, .int p1), (3, .int a3_15)]) hx hb dX12_grow_99 rfl hl (by decide) rfl (fun ls hl => ?_)
        obtain ⟨x2, ex2⟩ : ∃ y : Int32, y = a3_15 + 1 := ⟨_, rfl⟩
        have fx2 : x2.toInt = a3_15.toInt + (1 : Int) := by rw [ex2]; exact t_add (by show (-2147483648 : Int) ≤ a3_15.toInt + (1 : Int); omega) (by show a3_15.toInt + (1 : Int) ≤ 2147483647; omega)
        refine lv_iinc (v := x2) (lv' := [(3, .int x2), (2, .int x1), (0, .ref (g 45)), (1, .int p1)]) hx hb dX12_grow_100 hl (k := 3) rfl (by rw [ex2]; rfl) (by decide) rfl (fun ls hl => ?_)
        refine lv_goto (tgt := 15) hx hb dX12_grow_103 (by decide) ?_
        exact ih_15 x1 x2 _ _ _ (show (32 - x2.toInt) < (k_15 : Int) from by omega) (show ((0 : Int) ≤ p1.toInt ∧ p1.toInt ≤ (5 : Int)) from by omega) (show ((0 : Int) ≤ x2.toInt ∧ x2.toInt ≤ (32 : Int)) from by omega) hP hD hS (lv_sub hl [2, 3, 1, 0] rfl)
      have lab_39 : ∀ (k_39 : Nat) (a4_39 : Int32) (a5_39 : Int32) (H : Heap) (locs : List Loc) (ls : Array Slot), ((5 - a5_39.toInt) < (k_39 : Int)) → ((0 : Int) ≤ a3_15.toInt ∧ a3_15.toInt ≤ (31 : Int)) → ((0 : Int) ≤ a4_39.toInt ∧ a4_39.toInt ≤ (1 : Int)) → ((0 : Int) ≤ a5_39.toInt ∧ a5_39.toInt ≤ (5 : Int)) → va_P G.1 vwCl (Wm G g q I0 J0 R0 L0) H → va_D A (Wm G g q I0 J0 R0 L0) → va_S A s.heap H locs → lv_has ls 6 [(0, .ref (g 45)), (1, .int p1), (2, .int a2_15), (3, .int a3_15), (4, .int a4_39), (5, .int a5_39)] → W p l e (rmD 4 0 0) s m [.ref (g 45), .int p1].toArray below meth c H locs 0 0 Q (F0 m 39 ls []) := by
        intro k_39
        induction k_39 with
        | zero =>
          intro a4_39 a5_39 H locs ls hm y0_39 y1_39 y2_39 hP hD hS hl
          exact absurd hm (by omega)
        | succ k_39 ih_39 =>
          intro a4_39 a5_39 H locs ls hm y0_39 y1_39 y2_39 hP hD hS hl
          have lab_79 : ∀ (b0_79 : Int32) (H : Heap) (locs : List Loc) (ls : Array Slot), ((0 : Int) ≤ a5_39.toInt ∧ a5_39.toInt ≤ (4 : Int)) → ((0 : Int) ≤ b0_79.toInt ∧ b0_79.toInt ≤ (1 : Int)) → va_P G.1 vwCl (Wm G g q I0 J0 R0 L0) H → va_D A (Wm G g q I0 J0 R0 L0) → va_S A s.heap H locs → lv_has ls 6 [(0, .ref (g 45)), (1, .int p1), (2, .int a2_15), (3, .int a3_15), (5, .int a5_39)] → W p l e (rmD 4 0 0) s m [.ref (g 45), .int p1].toArray below meth c H locs 0 0 Q (F0 m 79 ls [.int b0_79]) := by
            intro b0_79 H locs ls y0_79 y1_79 hP hD hS hl
            refine lv_istore (lv' := [(4, .int b0_79), (0, .ref (g 45)), (1, .int p1), (2, .int a2_15), (3, .int a3_15), (5, .int a5_39)]) hx hb dX12_grow_79 hl (by decide) rfl (fun ls hl => ?_)
            obtain ⟨x3, ex3⟩ : ∃ y : Int32, y = a5_39 + 1 := ⟨_, rfl⟩
            have fx3 : x3.toInt = a5_39.toInt + (1 : Int) := by rw [ex3]; exact t_add (by show (-2147483648 : Int) ≤ a5_39.toInt + (1 : Int); omega) (by show a5_39.toInt + (1 : Int) ≤ 2147483647; omega)
            refine lv_iinc (v := x3) (lv' := [(5, .int x3), (4, .int b0_79), (0, .ref (g 45)), (1, .int p1), (2, .int a2_15), (3, .int a3_15)]) hx hb dX12_grow_81 hl (k := 5) rfl (by rw [ex3]; rfl) (by decide) rfl (fun ls hl => ?_)
            refine lv_goto (tgt := 39) hx hb dX12_grow_84 (by decide) ?_
            exact ih_39 b0_79 x3 _ _ _ (show (5 - x3.toInt) < (k_39 : Int) from by omega) (show ((0 : Int) ≤ a3_15.toInt ∧ a3_15.toInt ≤ (31 : Int)) from by omega) (show ((0 : Int) ≤ b0_79.toInt ∧ b0_79.toInt ≤ (1 : Int)) from by omega) (show ((0 : Int) ≤ x3.toInt ∧ x3.toInt ≤ (5 : Int)) from by omega) hP hD hS (lv_sub hl [2, 3, 4, 5, 1, 0] rfl)
          have lab_74 : ∀  (H : Heap) (locs : List Loc) (ls : Array Slot), ((0 : Int) ≤ a5_39.toInt ∧ a5_39.toInt ≤ (4 : Int)) → va_P G.1 vwCl (Wm G g q I0 J0 R0 L0) H → va_D A (Wm G g q I0 J0 R0 L0) → va_S A s.heap H locs → lv_has ls 6 [(0, .ref (g 45)), (1, .int p1), (2, .int a2_15), (3, .int a3_15), (5, .int a5_39)] → W p l e (rmD 4 0 0) s m [.ref (g 45), .int p1].toArray below meth c H locs 0 0 Q (F0 m 74 ls []) := by
            intro H locs ls y0_74 hP hD hS hl
            refine lv_iconst (v := 1) hx hb dX12_grow_74 (by decide) ?_
            refine lv_goto (tgt := 79) hx hb dX12_grow_75 (by decide) ?_
            exact lab_79 1 _ _ _ (show ((0 : Int) ≤ a5_39.toInt ∧ a5_39.toInt ≤ (4 : Int)) from by omega) (by decide) hP hD hS (lv_sub hl [0, 1, 2, 3, 4] rfl)
          have lab_78 : ∀  (H : Heap) (locs : List Loc) (ls : Array Slot), ((0 : Int) ≤ a5_39.toInt ∧ a5_39.toInt ≤ (4 : Int)) → va_P G.1 vwCl (Wm G g q I0 J0 R0 L0) H → va_D A (Wm G g q I0 J0 R0 L0) → va_S A s.heap H locs → lv_has ls 6 [(0, .ref (g 45)), (1, .int p1), (2, .int a2_15), (3, .int a3_15), (5, .int a5_39)] → W p l e (rmD 4 0 0) s m [.ref (g 45), .int p1].toArray below meth c H locs 0 0 Q (F0 m 78 ls []) := by
            intro H locs ls y0_78 hP hD hS hl
            refine lv_iconst (v := 0) hx hb dX12_grow_78 (by decide) ?_
            exact lab_79 0 _ _ _ (show ((0 : Int) ≤ a5_39.toInt ∧ a5_39.toInt ≤ (4 : Int)) from by omega) (by decide) hP hD hS (lv_sub hl [0, 1, 2, 3, 4] rfl)
          refine lv_iload hx hb dX12_grow_39 (lv_at hl 5 rfl) ?_
          refine lv_iconst (v := 5) hx hb dX12_grow_41 (by decide) ?_
          refine lv_icmp_ge (tgt := 87) hx hb dX12_grow_42 (by decide) (fun c4 => ?_) (fun c4 => ?_)
          · have gc4 : 5 ≤ a5_39.toInt := (tle _ _).mp c4
            refine lv_iload_n hx hb dX12_grow_87 rfl (lv_at hl 2 rfl) ?_
            refine lv_iload hx hb dX12_grow_88 (lv_at hl 4 rfl) ?_
            refine lv_if_eq (tgt := 97) hx hb dX12_grow_90 (by decide) (fun c5 => ?_) (fun c5 => ?_)
            · have gc5 : a4_39.toInt = 0 := congrArg Int32.toInt c5
              refine lv_iconst (v := 0) hx hb dX12_grow_97 (by decide) ?_
              exact lab_98 0 a2_15 _ _ _ (show ((0 : Int) ≤ a3_15.toInt ∧ a3_15.toInt ≤ (31 : Int)) from by omega) (by decide) hP hD hS (lv_sub hl [0, 1, 3] rfl)
            · have gc5 : ¬ (a4_39.toInt = 0) := fun q0 => c5 (Int32.toInt_inj.mp q0)
              refine lv_iconst (v := 1) hx hb dX12_grow_93 (by decide) ?_
              refine lv_goto (tgt := 98) hx hb dX12_grow_94 (by decide) ?_
              exact lab_98 1 a2_15 _ _ _ (show ((0 : Int) ≤ a3_15.toInt ∧ a3_15.toInt ≤ (31 : Int)) from by omega) (by decide) hP hD hS (lv_sub hl [0, 1, 3] rfl)
          · have gc4 : ¬ (5 ≤ a5_39.toInt) := fun q0 => c4 ((tle _ _).mpr q0)
            refine lv_iload hx hb dX12_grow_45 (lv_at hl 4 rfl) ?_
            refine lv_if_eq (tgt := 78) hx hb dX12_grow_47 (by decide) (fun c6 => ?_) (fun c6 => ?_)
            · have gc6 : a4_39.toInt = 0 := congrArg Int32.toInt c6
              exact lab_78  _ _ _ (show ((0 : Int) ≤ a5_39.toInt ∧ a5_39.toInt ≤ (4 : Int)) from by omega) hP hD hS (lv_sub hl [0, 1, 2, 3, 5] rfl)
            · have gc6 : ¬ (a4_39.toInt = 0) := fun q0 => c6 (Int32.toInt_inj.mp q0)
              refine lv_iload_n hx hb dX12_grow_50 rfl (lv_at hl 3 rfl) ?_
              refine lv_iload hx hb dX12_grow_51 (lv_at hl 5 rfl) ?_
              refine lv_ishr hx hb dX12_grow_53 ?_
              refine lv_topi (fun x7 ex7 => ?_)
              refine lv_iconst (v := 1) hx hb dX12_grow_54 (by decide) ?_
              refine lv_iand hx hb dX12_grow_55 ?_
              refine lv_topi (fun x8 ex8 => ?_)
              have fx8 : (0 : Int) ≤ x8.toInt ∧ x8.toInt ≤ (1 : Int) := by rw [ex8]; exact t_and (b := 1) (by decide)
              refine lv_if_eq (tgt := 74) hx hb dX12_grow_56 (by decide) (fun c9 => ?_) (fun c9 => ?_)
              · have gc9 : x8.toInt = 0 := congrArg Int32.toInt c9
                exact lab_74  _ _ _ (show ((0 : Int) ≤ a5_39.toInt ∧ a5_39.toInt ≤ (4 : Int)) from by omega) hP hD hS (lv_sub hl [0, 1, 2, 3, 5] rfl)
              · have gc9 : ¬ (x8.toInt = 0) := fun q0 => c9 (Int32.toInt_inj.mp q0)
                refine lv_aload_n hx hb dX12_grow_59 rfl (lv_at hl 0 rfl) ?_
                refine lv_iload hx hb dX12_grow_60 (lv_at hl 5 rfl) ?_
                refine wvi (As := [.int a5_39]) (rest := []) (b := (g 45)) (d := 2) F hK hP hD hS hA (s_X12_othersOn l G g q I0 J0 R0 L0 hvI hvR  a5_39 (show ((0 : Int) ≤ a5_39.toInt ∧ a5_39.toInt ≤ (4 : Int)) from by omega)) kmV_X12_othersOn mlX12_482 clX12 rfl 0 (Wm_at0 G g q I0 J0 R0 L0) ⟨(Nat.le_of_ble_eq_true rfl), (Nat.le_of_ble_eq_true rfl)⟩ hl.1 rfl (Nat.le_of_ble_eq_true rfl) dX12_grow_62 (fun r10 u11 H locs hwr10 hP hD hS => ?_)
                refine lv_iconst (v := 1) hx hb dX12_grow_65 (by decide) ?_
                refine lv_iadd hx hb dX12_grow_66 ?_
                refine lv_topi (fun x12 ex12 => ?_)
                refine lv_aload_n hx hb dX12_grow_67 rfl (lv_at hl 0 rfl) ?_
                refine wvi (As := []) (rest := [.int x12]) (b := (g 45)) (d := 3) F hK hP hD hS hA (s_X12_spare l G g q I0 J0 R0 L0 hvI hvR   ) kmV_X12_spare mlX12_485 clX12 rfl 0 (Wm_at0 G g q I0 J0 R0 L0) ⟨(Nat.le_of_ble_eq_true rfl), (Nat.le_of_ble_eq_true rfl)⟩ hl.1 rfl (Nat.le_of_ble_eq_true rfl) dX12_grow_68 (fun r13 u14 H locs hwr13 hP hD hS => ?_)
                refine lv_icmp_gt (tgt := 78) hx hb dX12_grow_71 (by decide) (fun c15 => ?_) (fun c15 => ?_)
                · have gc15 : r13.toInt < x12.toInt := (tlt _ _).mp c15
                  exact lab_78  _ _ _ (show ((0 : Int) ≤ a5_39.toInt ∧ a5_39.toInt ≤ (4 : Int)) from by omega) hP hD hS (lv_sub hl [0, 1, 2, 3, 5] rfl)
                · have gc15 : ¬ (r13.toInt < x12.toInt) := fun q0 => c15 ((tlt _ _).mpr q0)
                  exact lab_74  _ _ _ (show ((0 : Int) ≤ a5_39.toInt ∧ a5_39.toInt ≤ (4 : Int)) from by omega) hP hD hS (lv_sub hl [0, 1, 2, 3, 5] rfl)
      have lab_34 : ∀ (b0_34 : Int32) (H : Heap) (locs : List Loc) (ls : Array Slot), ((0 : Int) ≤ a3_15.toInt ∧ a3_15.toInt ≤ (31 : Int)) → ((0 : Int) ≤ b0_34.toInt ∧ b0_34.toInt ≤ (1 : Int)) → va_P G.1 vwCl (Wm G g q I0 J0 R0 L0) H → va_D A (Wm G g q I0 J0 R0 L0) → va_S A s.heap H locs → lv_has ls 6 [(0, .ref (g 45)), (1, .int p1), (2, .int a2_15), (3, .int a3_15)] → W p l e (rmD 4 0 0) s m [.ref (g 45), .int p1].toArray below meth c H locs 0 0 Q (F0 m 34 ls [.int b0_34]) := by
        intro b0_34 H locs ls y0_34 y1_34 hP hD hS hl
        refine lv_istore (lv' := [(4, .int b0_34), (0, .ref (g 45)), (1, .int p1), (2, .int a2_15), (3, .int a3_15)]) hx hb dX12_grow_34 hl (by decide) rfl (fun ls hl => ?_)
        refine lv_iconst (v := 0) hx hb dX12_grow_36 (by decide) ?_
        refine lv_istore (lv' := [(5, .int 0), (4, .int b0_34), (0, .ref (g 45)), (1, .int p1), (2, .int a2_15), (3, .int a3_15)]) hx hb dX12_grow_37 hl (by decide) rfl (fun ls hl => ?_)
        exact lab_39 6 b0_34 0 _ _ _ (show (5 - 0) < ((6 : Nat) : Int) from by omega) (show ((0 : Int) ≤ a3_15.toInt ∧ a3_15.toInt ≤ (31 : Int)) from by omega) (show ((0 : Int) ≤ b0_34.toInt ∧ b0_34.toInt ≤ (1 : Int)) from by omega) (by decide) hP hD hS (lv_sub hl [2, 3, 4, 5, 1, 0] rfl)
      refine lv_iload_n hx hb dX12_grow_15 rfl (lv_at hl 3 rfl) ?_
      refine lv_bipush (v := 32) hx hb dX12_grow_16 (by decide) ?_
      refine lv_icmp_ge (tgt := 106) hx hb dX12_grow_18 (by decide) (fun c16 => ?_) (fun c16 => ?_)
      · have gc16 : 32 ≤ a3_15.toInt := (tle _ _).mp c16
        refine lv_iload_n hx hb dX12_grow_106 rfl (lv_at hl 2 rfl) ?_
        rw [hQ]
        exact q_i F hr hlk () hP hD hS trivial dX12_grow_107 (Nat.le_of_ble_eq_true rfl) (Nat.le_of_ble_eq_true rfl)
      · have gc16 : ¬ (32 ≤ a3_15.toInt) := fun q0 => c16 ((tle _ _).mpr q0)
        refine lv_iload_n hx hb dX12_grow_21 rfl (lv_at hl 3 rfl) ?_
        refine w0i (As := [.int a3_15]) (rest := []) (d := 1) F hK hP hD hS hA (s_X12_bitsOf l G  a3_15 ) kmS_X12_bitsOf mlX12_469 ⟨(Nat.le_of_ble_eq_true rfl), (Nat.le_of_ble_eq_true rfl)⟩ hl.1 rfl (Nat.le_of_ble_eq_true rfl) dX12_grow_22 (fun r17 u18 H locs hwr17 hP hD hS => ?_)
        refine lv_iload_n hx hb dX12_grow_25 rfl (lv_at hl 1 rfl) ?_
        refine lv_icmp_ne (tgt := 33) hx hb dX12_grow_26 (by decide) (fun c19 => ?_) (fun c19 => ?_)
        · have gc19 : ¬ (r17.toInt = p1.toInt) := fun q0 => c19 (Int32.toInt_inj.mp q0)
          refine lv_iconst (v := 0) hx hb dX12_grow_33 (by decide) ?_
          exact lab_34 0 _ _ _ (show ((0 : Int) ≤ a3_15.toInt ∧ a3_15.toInt ≤ (31 : Int)) from by omega) (by decide) hP hD hS (lv_sub hl [0, 1, 2, 3] rfl)
        · have gc19 : r17.toInt = p1.toInt := congrArg Int32.toInt c19
          refine lv_iconst (v := 1) hx hb dX12_grow_29 (by decide) ?_
          refine lv_goto (tgt := 34) hx hb dX12_grow_30 (by decide) ?_
          exact lab_34 1 _ _ _ (show ((0 : Int) ≤ a3_15.toInt ∧ a3_15.toInt ≤ (31 : Int)) from by omega) (by decide) hP hD hS (lv_sub hl [0, 1, 2, 3] rfl)
  refine lv_iload_n hx hb dX12_grow_0 rfl (lv_at hl 1 rfl) ?_
  refine lv_iconst (v := 0) hx hb dX12_grow_1 (by decide) ?_
  refine lv_iconst (v := 5) hx hb dX12_grow_2 (by decide) ?_
  refine w0i (As := [.int p1, .int 0, .int 5]) (rest := []) (d := 1) F hK hP hD hS hA (s_X12_is l G  p1 0 5 (by decide) (by decide)) kmS_X12_is mlX12_316 ⟨(Nat.le_of_ble_eq_true rfl), (Nat.le_of_ble_eq_true rfl)⟩ hl.1 rfl (Nat.le_of_ble_eq_true rfl) dX12_grow_3 (fun r20 u21 H locs hwr20 hP hD hS => ?_)
  obtain ⟨F0r20, F1r20⟩ := hwr20
  replace F0r20 : ((0 : Int) ≤ r20.toInt ∧ r20.toInt ≤ (1 : Int)) := F0r20
  replace F1r20 : (r20.toInt = 1 → ((0 : Int) ≤ p1.toInt ∧ p1.toInt ≤ (5 : Int))) := F1r20
  refine lv_if_ne (tgt := 11) hx hb dX12_grow_6 (by decide) (fun c22 => ?_) (fun c22 => ?_)
  · have gc22 : ¬ (r20.toInt = 0) := fun q0 => c22 (Int32.toInt_inj.mp q0)
    refine lv_iconst (v := 0) hx hb dX12_grow_11 (by decide) ?_
    refine lv_istore_n (lv' := [(2, .int 0), (0, .ref (g 45)), (1, .int p1)]) hx hb dX12_grow_12 rfl hl (by decide) rfl (fun ls hl => ?_)
    refine lv_iconst (v := 0) hx hb dX12_grow_13 (by decide) ?_
    refine lv_istore_n (lv' := [(3, .int 0), (2, .int 0), (0, .ref (g 45)), (1, .int p1)]) hx hb dX12_grow_14 rfl hl (by decide) rfl (fun ls hl => ?_)
    exact lab_15 33 0 0 _ _ _ (show (32 - 0) < ((33 : Nat) : Int) from by omega) (show ((0 : Int) ≤ p1.toInt ∧ p1.toInt ≤ (5 : Int)) from by omega) (by decide) hP hD hS (lv_sub hl [2, 3, 1, 0] rfl)
  · have gc22 : r20.toInt = 0 := congrArg Int32.toInt c22
    refine lv_iconst (v := (-1)) hx hb dX12_grow_9 (by decide) ?_
    rw [hQ]
    exact q_i F hr hlk () hP hD hS trivial dX12_grow_10 (Nat.le_of_ble_eq_true rfl) (Nat.le_of_ble_eq_true rfl)
set_option maxHeartbeats 4000000 in
set_option maxRecDepth 100000 in
theorem s_X12_has (l : Launch) (G : Gx) (g q : Nat → Nat) (I0 : Nat → Int32) (J0 : Nat → Int64) (R0 : Nat → Nat → Int32) (L0 : Nat → Nat → Int64) (hvI : InvI Wm_lo Wm_hi I0) (hvR : InvR Wm_rl R0)  (p1 : Int32)  : CtI (S := Unit) l yX12_has cX12_has 4 (some .int) (rmD 3 0 0) G [.ref (g 45), .int p1] (Wm G g q I0 J0 R0 L0) (fun r _ => True) (fun _ => (Wm G g q I0 J0 R0 L0)) := by
  refine ctI_of (own := RX12) (by decide +kernel) rfl (Nat.le_of_ble_eq_true rfl) ?_
  intro p e s m below meth c A ls F hr hlk hnm hK hP hD hA hS hl
  have hx := F.1
  have hb := F.2.1
  have hown := F.2.2.2.1
  have hl : lv_has ls 4 [(0, .ref (g 45)), (1, .int p1)] := hl
  obtain ⟨Q, hQ⟩ : ∃ Q : State → Prop, Q = MQ below (va_Qi (S := Unit) (fun r _ => True) (BX G A (fun _ => (Wm G g q I0 J0 R0 L0))) A) [.ref (g 45), .int p1].toArray s 0 0 A := ⟨_, rfl⟩
  rw [show (MQ below (va_Qi (S := Unit) (fun r _ => True) (BX G A (fun _ => (Wm G g q I0 J0 R0 L0))) A) [.ref (g 45), .int p1].toArray s (rmD 3 0 0).cells (rmD 3 0 0).slots A) = Q from hQ.symm]
  have hvI0 := hvI
  have lab_124 : ∀ (k_124 : Nat) (a2_124 : Int32) (a3_124 : Int32) (H : Heap) (locs : List Loc) (ls : Array Slot), ((6 - a3_124.toInt) < (k_124 : Int)) → ((0 : Int) ≤ a3_124.toInt ∧ a3_124.toInt ≤ (6 : Int)) → va_P G.1 vwCl (Wm G g q I0 J0 R0 L0) H → va_D A (Wm G g q I0 J0 R0 L0) → va_S A s.heap H locs → lv_has ls 4 [(0, .ref (g 45)), (2, .int a2_124), (3, .int a3_124)] → W p l e (rmD 3 0 0) s m [.ref (g 45), .int p1].toArray below meth c H locs 0 0 Q (F0 m 124 ls []) := by
    intro k_124
    induction k_124 with
    | zero =>
      intro a2_124 a3_124 H locs ls hm y0_124 hP hD hS hl
      exact absurd hm (by omega)
    | succ k_124 ih_124 =>
      intro a2_124 a3_124 H locs ls hm y0_124 hP hD hS hl
      have lab_160 : ∀ (b0_160 : Int32) (b1_160 : Int32) (H : Heap) (locs : List Loc) (ls : Array Slot), ((0 : Int) ≤ a3_124.toInt ∧ a3_124.toInt ≤ (5 : Int)) → ((0 : Int) ≤ b0_160.toInt ∧ b0_160.toInt ≤ (1 : Int)) → va_P G.1 vwCl (Wm G g q I0 J0 R0 L0) H → va_D A (Wm G g q I0 J0 R0 L0) → va_S A s.heap H locs → lv_has ls 4 [(0, .ref (g 45)), (3, .int a3_124)] → W p l e (rmD 3 0 0) s m [.ref (g 45), .int p1].toArray below meth c H locs 0 0 Q (F0 m 160 ls [.int b0_160, .int b1_160]) := by
        intro b0_160 b1_160 H locs ls y0_160 y1_160 hP hD hS hl
        refine lv_iadd hx hb dX12_has_160 ?_
        refine lv_topi (fun x1 ex1 => ?_)
        refine lv_istore_n (lv' := [(2, .int x1), (0, .ref (g 45)), (3, .int a3_124)]) hx hb dX12_has_161 rfl hl (by decide) rfl (fun ls hl => ?_)
        obtain ⟨x2, ex2⟩ : ∃ y : Int32, y = a3_124 + 1 := ⟨_, rfl⟩
        have fx2 : x2.toInt = a3_124.toInt + (1 : Int) := by rw [ex2]; exact t_add (by show (-2147483648 : Int) ≤ a3_124.toInt + (1 : Int); omega) (by show a3_124.toInt + (1 : Int) ≤ 2147483647; omega)
        refine lv_iinc (v := x2) (lv' := [(3, .int x2), (2, .int x1), (0, .ref (g 45))]) hx hb dX12_has_162 hl (k := 2) rfl (by rw [ex2]; rfl) (by decide) rfl (fun ls hl => ?_)
        refine lv_goto (tgt := 124) hx hb dX12_has_165 (by decide) ?_
        exact ih_124 x1 x2 _ _ _ (show (6 - x2.toInt) < (k_124 : Int) from by omega) (show ((0 : Int) ≤ x2.toInt ∧ x2.toInt ≤ (6 : Int)) from by omega) hP hD hS (lv_sub hl [2, 1, 0] rfl)
      refine lv_iload_n hx hb dX12_has_124 rfl (lv_at hl 2 rfl) ?_
      refine lv_aload_n hx hb dX12_has_125 rfl (lv_at hl 0 rfl) ?_
      refine g_get F hK hP 0 (Wm_at0 G g q I0 J0 R0 L0) clX12 18 (by decide) flX12_67 rfl dX12_has_126 ?_
      refine lv_aload_n hx hb dX12_has_129 rfl (lv_at hl 0 rfl) ?_
      refine g_get F hK hP 0 (Wm_at0 G g q I0 J0 R0 L0) clX12 12 (by decide) flX12_48 rfl dX12_has_130 ?_
      have w_I0_10 := rg (hvI0 10 (by decide)) (0) (1) rfl rfl
      refine g_iald F hK hP 7 (Wm_at7 G g q I0 J0 R0 L0) (in_of (by omega)) dX12_has_133 rfl ?_
      refine lv_topi (fun x3 ex3 => ?_)
      have gx3 : x3.toInt = (R0 5 (Int32.toNatClampNeg (I0 10))).toInt := congrArg Int32.toInt (ex3)
      have fx3 : ((0 : Int) ≤ x3.toInt ∧ x3.toInt ≤ (6 : Int)) := by rw [ex3]; exact hvR 5 (by decide) _ (clamp_lt (n := 2) (in_of (by omega)))
      refine lv_icmp_ge (tgt := 168) hx hb dX12_has_134 (by decide) (fun c4 => ?_) (fun c4 => ?_)
      · have gc4 : x3.toInt ≤ a3_124.toInt := (tle _ _).mp c4
        refine lv_iload_n hx hb dX12_has_168 rfl (lv_at hl 1 rfl) ?_
        rw [hQ]
        exact q_i F hr hlk () hP hD hS trivial dX12_has_169 (Nat.le_of_ble_eq_true rfl) (Nat.le_of_ble_eq_true rfl)
      · have gc4 : ¬ (x3.toInt ≤ a3_124.toInt) := fun q0 => c4 ((tle _ _).mpr q0)
        refine lv_iload_n hx hb dX12_has_137 rfl (lv_at hl 1 rfl) ?_
        refine lv_aload_n hx hb dX12_has_138 rfl (lv_at hl 0 rfl) ?_
        refine g_get F hK hP 0 (Wm_at0 G g q I0 J0 R0 L0) clX12 20 (by decide) flX12_73 rfl dX12_has_139 ?_
        refine lv_bipush (v := 6) hx hb dX12_has_142 (by decide) ?_
        refine lv_aload_n hx hb dX12_has_144 rfl (lv_at hl 0 rfl) ?_
        refine g_get F hK hP 0 (Wm_at0 G g q I0 J0 R0 L0) clX12 12 (by decide) flX12_48 rfl dX12_has_145 ?_
        refine lv_imul hx hb dX12_has_148 ?_
        refine lv_topi (fun x5 ex5 => ?_)
        have fx5 : x5.toInt = 6 * (I0 10).toInt := by rw [ex5]; exact t_mul (by show (-2147483648 : Int) ≤ 6 * (I0 10).toInt; omega) (by show 6 * (I0 10).toInt ≤ 2147483647; omega)
        refine lv_iload_n hx hb dX12_has_149 rfl (lv_at hl 2 rfl) ?_
        refine lv_iadd hx hb dX12_has_150 ?_
        refine lv_topi (fun x6 ex6 => ?_)
        have fx6 : x6.toInt = x5.toInt + a3_124.toInt := by rw [ex6]; exact t_add (by show (-2147483648 : Int) ≤ x5.toInt + a3_124.toInt; omega) (by show x5.toInt + a3_124.toInt ≤ 2147483647; omega)
        refine g_zald F hK hP 9 (Wm_at9 G g q I0 J0 R0 L0) (in_of (by omega)) dX12_has_151 rfl ?_
        refine lv_topi (fun x7 ex7 => ?_)
        have gx7 : x7.toInt = (R0 6 (Int32.toNatClampNeg x6)).toInt := congrArg Int32.toInt (ex7)
        have fx7 : ((0 : Int) ≤ x7.toInt ∧ x7.toInt ≤ (1 : Int)) := by rw [ex7]; exact hvR 6 (by decide) _ (clamp_lt (n := 12) (in_of (by omega)))
        refine lv_if_eq (tgt := 159) hx hb dX12_has_152 (by decide) (fun c8 => ?_) (fun c8 => ?_)
        · have gc8 : x7.toInt = 0 := congrArg Int32.toInt c8
          refine lv_iconst (v := 0) hx hb dX12_has_159 (by decide) ?_
          exact lab_160 0 a2_124 _ _ _ (show ((0 : Int) ≤ a3_124.toInt ∧ a3_124.toInt ≤ (5 : Int)) from by omega) (by decide) hP hD hS (lv_sub hl [0, 2] rfl)
        · have gc8 : ¬ (x7.toInt = 0) := fun q0 => c8 (Int32.toInt_inj.mp q0)
          refine lv_iconst (v := 1) hx hb dX12_has_155 (by decide) ?_
          refine lv_goto (tgt := 160) hx hb dX12_has_156 (by decide) ?_
          exact lab_160 1 a2_124 _ _ _ (show ((0 : Int) ≤ a3_124.toInt ∧ a3_124.toInt ≤ (5 : Int)) from by omega) (by decide) hP hD hS (lv_sub hl [0, 2] rfl)
  refine lv_iconst (v := 0) hx hb dX12_has_0 (by decide) ?_
  refine lv_istore_n (lv' := [(2, .int 0), (0, .ref (g 45)), (1, .int p1)]) hx hb dX12_has_1 rfl hl (by decide) rfl (fun ls hl => ?_)
  refine lv_iload_n hx hb dX12_has_2 rfl (lv_at hl 2 rfl) ?_
  by_cases h9 : p1 = 0
  · have gh9 : p1.toInt = 0 := congrArg Int32.toInt h9
    refine cst_i h9 ?_
    refine lv_tableIn (off := 49) (tgt := 52) hx hb dX12_has_3 (by decide) (by decide) rfl (by decide) ?_
    refine lv_aload_n hx hb dX12_has_52 rfl (lv_at hl 1 rfl) ?_
    refine g_get F hK hP 0 (Wm_at0 G g q I0 J0 R0 L0) clX12 13 (by decide) flX12_51 rfl dX12_has_53 ?_
    refine lv_aload_n hx hb dX12_has_56 rfl (lv_at hl 1 rfl) ?_
    refine g_get F hK hP 0 (Wm_at0 G g q I0 J0 R0 L0) clX12 12 (by decide) flX12_48 rfl dX12_has_57 ?_
    have w_I0_10 := rg (hvI0 10 (by decide)) (0) (1) rfl rfl
    refine g_iald F hK hP 2 (Wm_at2 G g q I0 J0 R0 L0) (in_of (by omega)) dX12_has_60 rfl ?_
    refine lv_topi (fun x10 ex10 => ?_)
    have gx10 : x10.toInt = (R0 1 (Int32.toNatClampNeg (I0 10))).toInt := congrArg Int32.toInt (ex10)
    have fx10 : ((0 : Int) ≤ x10.toInt ∧ x10.toInt ≤ (5 : Int)) := by rw [ex10]; exact hvR 1 (by decide) _ (clamp_lt (n := 2) (in_of (by omega)))
    rw [hQ]
    exact q_i F hr hlk () hP hD hS trivial dX12_has_61 (Nat.le_of_ble_eq_true rfl) (Nat.le_of_ble_eq_true rfl)
  by_cases h11 : p1 = 1
  · have gh11 : p1.toInt = 1 := congrArg Int32.toInt h11
    refine cst_i h11 ?_
    refine lv_tableIn (off := 59) (tgt := 62) hx hb dX12_has_3 (by decide) (by decide) rfl (by decide) ?_
    refine lv_aload_n hx hb dX12_has_62 rfl (lv_at hl 1 rfl) ?_
    refine g_get F hK hP 0 (Wm_at0 G g q I0 J0 R0 L0) clX12 18 (by decide) flX12_67 rfl dX12_has_63 ?_
    refine lv_aload_n hx hb dX12_has_66 rfl (lv_at hl 1 rfl) ?_
    refine g_get F hK hP 0 (Wm_at0 G g q I0 J0 R0 L0) clX12 12 (by decide) flX12_48 rfl dX12_has_67 ?_
    have w_I0_10 := rg (hvI0 10 (by decide)) (0) (1) rfl rfl
    refine g_iald F hK hP 7 (Wm_at7 G g q I0 J0 R0 L0) (in_of (by omega)) dX12_has_70 rfl ?_
    refine lv_topi (fun x12 ex12 => ?_)
    have gx12 : x12.toInt = (R0 5 (Int32.toNatClampNeg (I0 10))).toInt := congrArg Int32.toInt (ex12)
    have fx12 : ((0 : Int) ≤ x12.toInt ∧ x12.toInt ≤ (6 : Int)) := by rw [ex12]; exact hvR 5 (by decide) _ (clamp_lt (n := 2) (in_of (by omega)))
    rw [hQ]
    exact q_i F hr hlk () hP hD hS trivial dX12_has_71 (Nat.le_of_ble_eq_true rfl) (Nat.le_of_ble_eq_true rfl)
  by_cases h13 : p1 = 2
  · have gh13 : p1.toInt = 2 := congrArg Int32.toInt h13
    refine cst_i h13 ?_
    refine lv_tableIn (off := 69) (tgt := 72) hx hb dX12_has_3 (by decide) (by decide) rfl (by decide) ?_
    refine lv_aload_n hx hb dX12_has_72 rfl (lv_at hl 1 rfl) ?_
    refine g_get F hK hP 0 (Wm_at0 G g q I0 J0 R0 L0) clX12 21 (by decide) flX12_77 rfl dX12_has_73 ?_
    refine lv_aload_n hx hb dX12_has_76 rfl (lv_at hl 1 rfl) ?_
    refine g_get F hK hP 0 (Wm_at0 G g q I0 J0 R0 L0) clX12 12 (by decide) flX12_48 rfl dX12_has_77 ?_
    have w_I0_10 := rg (hvI0 10 (by decide)) (0) (1) rfl rfl
    refine g_iald F hK hP 10 (Wm_at10 G g q I0 J0 R0 L0) (in_of (by omega)) dX12_has_80 rfl ?_
    refine lv_topi (fun x14 ex14 => ?_)
    have gx14 : x14.toInt = (R0 7 (Int32.toNatClampNeg (I0 10))).toInt := congrArg Int32.toInt (ex14)
    have fx14 : ((0 : Int) ≤ x14.toInt ∧ x14.toInt ≤ (12 : Int)) := by rw [ex14]; exact hvR 7 (by decide) _ (clamp_lt (n := 2) (in_of (by omega)))
    rw [hQ]
    exact q_i F hr hlk () hP hD hS trivial dX12_has_81 (Nat.le_of_ble_eq_true rfl) (Nat.le_of_ble_eq_true rfl)
  by_cases h15 : p1 = 3
  · have gh15 : p1.toInt = 3 := congrArg Int32.toInt h15
    refine cst_i h15 ?_
    refine lv_tableIn (off := 79) (tgt := 82) hx hb dX12_has_3 (by decide) (by decide) rfl (by decide) ?_
    refine lv_aload_n hx hb dX12_has_82 rfl (lv_at hl 1 rfl) ?_
    refine g_get F hK hP 0 (Wm_at0 G g q I0 J0 R0 L0) clX12 30 (by decide) flX12_104 rfl dX12_has_83 ?_
    refine lv_aload_n hx hb dX12_has_86 rfl (lv_at hl 1 rfl) ?_
    refine g_get F hK hP 0 (Wm_at0 G g q I0 J0 R0 L0) clX12 12 (by decide) flX12_48 rfl dX12_has_87 ?_
    have w_I0_10 := rg (hvI0 10 (by decide)) (0) (1) rfl rfl
    refine g_iald F hK hP 19 (Wm_at19 G g q I0 J0 R0 L0) (in_of (by omega)) dX12_has_90 rfl ?_
    refine lv_topi (fun x16 ex16 => ?_)
    have gx16 : x16.toInt = (R0 15 (Int32.toNatClampNeg (I0 10))).toInt := congrArg Int32.toInt (ex16)
    have fx16 : ((0 : Int) ≤ x16.toInt ∧ x16.toInt ≤ (30 : Int)) := by rw [ex16]; exact hvR 15 (by decide) _ (clamp_lt (n := 2) (in_of (by omega)))
    rw [hQ]
    exact q_i F hr hlk () hP hD hS trivial dX12_has_91 (Nat.le_of_ble_eq_true rfl) (Nat.le_of_ble_eq_true rfl)
  by_cases h17 : p1 = 4
  · have gh17 : p1.toInt = 4 := congrArg Int32.toInt h17
    refine cst_i h17 ?_
    refine lv_tableIn (off := 89) (tgt := 92) hx hb dX12_has_3 (by decide) (by decide) rfl (by decide) ?_
    refine lv_aload_n hx hb dX12_has_92 rfl (lv_at hl 1 rfl) ?_
    refine wvi (As := []) (rest := []) (b := (g 45)) (d := 1) F hK hP hD hS hA (s_X12_desksAll l G g q I0 J0 R0 L0 hvI hvR   ) kmV_X12_desksAll mlX12_454 clX12 rfl 0 (Wm_at0 G g q I0 J0 R0 L0) ⟨(Nat.le_of_ble_eq_true rfl), (Nat.le_of_ble_eq_true rfl)⟩ hl.1 rfl (Nat.le_of_ble_eq_true rfl) dX12_has_93 (fun r18 u19 H locs hwr18 hP hD hS => ?_)
    have F0r18 := hwr18
    replace F0r18 : ((0 : Int) ≤ r18.toInt ∧ r18.toInt ≤ (49995 : Int)) := F0r18
    rw [hQ]
    exact q_i F hr hlk () hP hD hS trivial dX12_has_96 (Nat.le_of_ble_eq_true rfl) (Nat.le_of_ble_eq_true rfl)
  by_cases h20 : p1 = 5
  · have gh20 : p1.toInt = 5 := congrArg Int32.toInt h20
    refine cst_i h20 ?_
    refine lv_tableIn (off := 94) (tgt := 97) hx hb dX12_has_3 (by decide) (by decide) rfl (by decide) ?_
    refine lv_aload_n hx hb dX12_has_97 rfl (lv_at hl 1 rfl) ?_
    refine wvi (As := []) (rest := []) (b := (g 45)) (d := 2) F hK hP hD hS hA (s_X12_ownedAll l G g q I0 J0 R0 L0 hvI hvR   ) kmV_X12_ownedAll mlX12_457 clX12 rfl 0 (Wm_at0 G g q I0 J0 R0 L0) ⟨(Nat.le_of_ble_eq_true rfl), (Nat.le_of_ble_eq_true rfl)⟩ hl.1 rfl (Nat.le_of_ble_eq_true rfl) dX12_has_98 (fun r21 u22 H locs hwr21 hP hD hS => ?_)
    rw [hQ]
    exact q_i F hr hlk () hP hD hS trivial dX12_has_101 (Nat.le_of_ble_eq_true rfl) (Nat.le_of_ble_eq_true rfl)
  by_cases h23 : p1 = 6
  · have gh23 : p1.toInt = 6 := congrArg Int32.toInt h23
    refine cst_i h23 ?_
    refine lv_tableIn (off := 99) (tgt := 102) hx hb dX12_has_3 (by decide) (by decide) rfl (by decide) ?_
    refine lv_aload_n hx hb dX12_has_102 rfl (lv_at hl 1 rfl) ?_
    refine g_get F hK hP 0 (Wm_at0 G g q I0 J0 R0 L0) clX12 37 (by decide) flX12_125 rfl dX12_has_103 ?_
    refine lv_aload_n hx hb dX12_has_106 rfl (lv_at hl 1 rfl) ?_
    refine g_get F hK hP 0 (Wm_at0 G g q I0 J0 R0 L0) clX12 12 (by decide) flX12_48 rfl dX12_has_107 ?_
    have w_I0_10 := rg (hvI0 10 (by decide)) (0) (1) rfl rfl
    refine g_iald F hK hP 26 (Wm_at26 G g q I0 J0 R0 L0) (in_of (by omega)) dX12_has_110 rfl ?_
    refine lv_topi (fun x24 ex24 => ?_)
    have gx24 : x24.toInt = (R0 22 (Int32.toNatClampNeg (I0 10))).toInt := congrArg Int32.toInt (ex24)
    have fx24 : ((0 : Int) ≤ x24.toInt ∧ x24.toInt ≤ (12 : Int)) := by rw [ex24]; exact hvR 22 (by decide) _ (clamp_lt (n := 2) (in_of (by omega)))
    rw [hQ]
    exact q_i F hr hlk () hP hD hS trivial dX12_has_111 (Nat.le_of_ble_eq_true rfl) (Nat.le_of_ble_eq_true rfl)
  by_cases h25 : p1 = 7
  · have gh25 : p1.toInt = 7 := congrArg Int32.toInt h25
    refine cst_i h25 ?_
    refine lv_tableIn (off := 109) (tgt := 112) hx hb dX12_has_3 (by decide) (by decide) rfl (by decide) ?_
    refine lv_aload_n hx hb dX12_has_112 rfl (lv_at hl 1 rfl) ?_
    refine g_get F hK hP 0 (Wm_at0 G g q I0 J0 R0 L0) clX12 36 (by decide) flX12_122 rfl dX12_has_113 ?_
    refine lv_aload_n hx hb dX12_has_116 rfl (lv_at hl 1 rfl) ?_
    refine g_get F hK hP 0 (Wm_at0 G g q I0 J0 R0 L0) clX12 12 (by decide) flX12_48 rfl dX12_has_117 ?_
    have w_I0_10 := rg (hvI0 10 (by decide)) (0) (1) rfl rfl
    refine g_iald F hK hP 25 (Wm_at25 G g q I0 J0 R0 L0) (in_of (by omega)) dX12_has_120 rfl ?_
    refine lv_topi (fun x26 ex26 => ?_)
    have gx26 : x26.toInt = (R0 21 (Int32.toNatClampNeg (I0 10))).toInt := congrArg Int32.toInt (ex26)
    rw [hQ]
    exact q_i F hr hlk () hP hD hS trivial dX12_has_121 (Nat.le_of_ble_eq_true rfl) (Nat.le_of_ble_eq_true rfl)
  by_cases h27 : p1 = 8
  · have gh27 : p1.toInt = 8 := congrArg Int32.toInt h27
    refine cst_i h27 ?_
    refine lv_tableIn (off := 119) (tgt := 122) hx hb dX12_has_3 (by decide) (by decide) rfl (by decide) ?_
    refine lv_iconst (v := 0) hx hb dX12_has_122 (by decide) ?_
    refine lv_istore_n (lv' := [(3, .int 0), (2, .int 0), (0, .ref (g 45)), (1, .int p1)]) hx hb dX12_has_123 rfl hl (by decide) rfl (fun ls hl => ?_)
    exact lab_124 7 0 0 _ _ _ (show (6 - 0) < ((7 : Nat) : Int) from by omega) (by decide) hP hD hS (lv_sub hl [2, 1, 0] rfl)
  refine lv_tableOut (tgt := 170) hx hb dX12_has_3 (by have gh9 := lv_neT h9 (a := 0) rfl; have gh11 := lv_neT h11 (a := 1) rfl; have gh13 := lv_neT h13 (a := 2) rfl; have gh15 := lv_neT h15 (a := 3) rfl; have gh17 := lv_neT h17 (a := 4) rfl; have gh20 := lv_neT h20 (a := 5) rfl; have gh23 := lv_neT h23 (a := 6) rfl; have gh25 := lv_neT h25 (a := 7) rfl; have gh27 := lv_neT h27 (a := 8) rfl; omega) (by decide) ?_
  refine lv_iconst (v := (-1)) hx hb dX12_has_170 (by decide) ?_
  rw [hQ]
  exact q_i F hr hlk () hP hD hS trivial dX12_has_171 (Nat.le_of_ble_eq_true rfl) (Nat.le_of_ble_eq_true rfl)
set_option maxHeartbeats 4000000 in
set_option maxRecDepth 100000 in
theorem s_X12_isLonely (l : Launch) (G : Gx) (g q : Nat → Nat) (I0 : Nat → Int32) (J0 : Nat → Int64) (R0 : Nat → Nat → Int32) (L0 : Nat → Nat → Int64) (hvI : InvI Wm_lo Wm_hi I0) (hvR : InvR Wm_rl R0)  (p1 : Int32) (hp1 : ((0 : Int) ≤ p1.toInt ∧ p1.toInt ≤ (11 : Int))) : CtI (S := Unit) l yX12_isLonely cX12_isLonely 4 (some .boolean) (rmD 3 0 0) G [.ref (g 45), .int p1] (Wm G g q I0 J0 R0 L0) (fun r _ => ((0 : Int) ≤ r.toInt ∧ r.toInt ≤ (1 : Int))) (fun _ => (Wm G g q I0 J0 R0 L0)) := by
  refine ctI_of (own := RX12) (by decide +kernel) rfl (Nat.le_of_ble_eq_true rfl) ?_
  intro p e s m below meth c A ls F hr hlk hnm hK hP hD hA hS hl
  have hx := F.1
  have hb := F.2.1
  have hown := F.2.2.2.1
  have hl : lv_has ls 4 [(0, .ref (g 45)), (1, .int p1)] := hl
  obtain ⟨Q, hQ⟩ : ∃ Q : State → Prop, Q = MQ below (va_Qi (S := Unit) (fun r _ => ((0 : Int) ≤ r.toInt ∧ r.toInt ≤ (1 : Int))) (BX G A (fun _ => (Wm G g q I0 J0 R0 L0))) A) [.ref (g 45), .int p1].toArray s 0 0 A := ⟨_, rfl⟩
  rw [show (MQ below (va_Qi (S := Unit) (fun r _ => ((0 : Int) ≤ r.toInt ∧ r.toInt ≤ (1 : Int))) (BX G A (fun _ => (Wm G g q I0 J0 R0 L0))) A) [.ref (g 45), .int p1].toArray s (rmD 3 0 0).cells (rmD 3 0 0).slots A) = Q from hQ.symm]
  have hvI0 := hvI
  have lab_4 : ∀ (k_4 : Nat) (a2_4 : Int32) (a3_4 : Int32) (H : Heap) (locs : List Loc) (ls : Array Slot), ((30 - a3_4.toInt) < (k_4 : Int)) → ((0 : Int) ≤ a2_4.toInt ∧ a2_4.toInt ≤ (1 : Int)) → ((0 : Int) ≤ a3_4.toInt ∧ a3_4.toInt ≤ (30 : Int)) → va_P G.1 vwCl (Wm G g q I0 J0 R0 L0) H → va_D A (Wm G g q I0 J0 R0 L0) → va_S A s.heap H locs → lv_has ls 4 [(0, .ref (g 45)), (1, .int p1), (2, .int a2_4), (3, .int a3_4)] → W p l e (rmD 3 0 0) s m [.ref (g 45), .int p1].toArray below meth c H locs 0 0 Q (F0 m 4 ls []) := by
    intro k_4
    induction k_4 with
    | zero =>
      intro a2_4 a3_4 H locs ls hm y0_4 y1_4 hP hD hS hl
      exact absurd hm (by omega)
    | succ k_4 ih_4 =>
      intro a2_4 a3_4 H locs ls hm y0_4 y1_4 hP hD hS hl
      have lab_68 : ∀ (a2_68 : Int32) (H : Heap) (locs : List Loc) (ls : Array Slot), ((0 : Int) ≤ a2_68.toInt ∧ a2_68.toInt ≤ (1 : Int)) → ((0 : Int) ≤ a3_4.toInt ∧ a3_4.toInt ≤ (29 : Int)) → va_P G.1 vwCl (Wm G g q I0 J0 R0 L0) H → va_D A (Wm G g q I0 J0 R0 L0) → va_S A s.heap H locs → lv_has ls 4 [(0, .ref (g 45)), (1, .int p1), (2, .int a2_68), (3, .int a3_4)] → W p l e (rmD 3 0 0) s m [.ref (g 45), .int p1].toArray below meth c H locs 0 0 Q (F0 m 68 ls []) := by
        intro a2_68 H locs ls y0_68 y1_68 hP hD hS hl
        obtain ⟨x1, ex1⟩ : ∃ y : Int32, y = a3_4 + 1 := ⟨_, rfl⟩
        have fx1 : x1.toInt = a3_4.toInt + (1 : Int) := by rw [ex1]; exact t_add (by show (-2147483648 : Int) ≤ a3_4.toInt + (1 : Int); omega) (by show a3_4.toInt + (1 : Int) ≤ 2147483647; omega)
        refine lv_iinc (v := x1) (lv' := [(3, .int x1), (0, .ref (g 45)), (1, .int p1), (2, .int a2_68)]) hx hb dX12_isLonely_68 hl (k := 3) rfl (by rw [ex1]; rfl) (by decide) rfl (fun ls hl => ?_)
        refine lv_goto (tgt := 4) hx hb dX12_isLonely_71 (by decide) ?_
        exact ih_4 a2_68 x1 _ _ _ (show (30 - x1.toInt) < (k_4 : Int) from by omega) (show ((0 : Int) ≤ a2_68.toInt ∧ a2_68.toInt ≤ (1 : Int)) from by omega) (show ((0 : Int) ≤ x1.toInt ∧ x1.toInt ≤ (30 : Int)) from by omega) hP hD hS (lv_sub hl [1, 2, 3, 0] rfl)
      have lab_56 : ∀  (H : Heap) (locs : List Loc) (ls : Array Slot), ((0 : Int) ≤ a3_4.toInt ∧ a3_4.toInt ≤ (29 : Int)) → va_P G.1 vwCl (Wm G g q I0 J0 R0 L0) H → va_D A (Wm G g q I0 J0 R0 L0) → va_S A s.heap H locs → lv_has ls 4 [(0, .ref (g 45)), (1, .int p1), (3, .int a3_4)] → W p l e (rmD 3 0 0) s m [.ref (g 45), .int p1].toArray below meth c H locs 0 0 Q (F0 m 56 ls []) := by
        intro H locs ls y0_56 hP hD hS hl
        refine lv_aload_n hx hb dX12_isLonely_56 rfl (lv_at hl 0 rfl) ?_
        refine lv_iload_n hx hb dX12_isLonely_57 rfl (lv_at hl 2 rfl) ?_
        refine wvi (As := [.int a3_4]) (rest := []) (b := (g 45)) (d := 2) F hK hP hD hS hA (s_X12_metOn l G g q I0 J0 R0 L0 hvI hvR  a3_4 (show ((0 : Int) ≤ a3_4.toInt ∧ a3_4.toInt ≤ (29 : Int)) from by omega)) kmV_X12_metOn mlX12_497 clX12 rfl 0 (Wm_at0 G g q I0 J0 R0 L0) ⟨(Nat.le_of_ble_eq_true rfl), (Nat.le_of_ble_eq_true rfl)⟩ hl.1 rfl (Nat.le_of_ble_eq_true rfl) dX12_isLonely_58 (fun r2 u3 H locs hwr2 hP hD hS => ?_)
        refine lv_if_le (tgt := 66) hx hb dX12_isLonely_61 (by decide) (fun c4 => ?_) (fun c4 => ?_)
        · have gc4 : r2.toInt ≤ 0 := (tle _ _).mp c4
          refine lv_iconst (v := 1) hx hb dX12_isLonely_66 (by decide) ?_
          refine lv_istore_n (lv' := [(2, .int 1), (0, .ref (g 45)), (1, .int p1), (3, .int a3_4)]) hx hb dX12_isLonely_67 rfl hl (by decide) rfl (fun ls hl => ?_)
          exact lab_68 1 _ _ _ (by decide) (show ((0 : Int) ≤ a3_4.toInt ∧ a3_4.toInt ≤ (29 : Int)) from by omega) hP hD hS (lv_sub hl [1, 2, 0, 3] rfl)
        · have gc4 : ¬ (r2.toInt ≤ 0) := fun q0 => c4 ((tle _ _).mpr q0)
          refine lv_iconst (v := 0) hx hb dX12_isLonely_64 (by decide) ?_
          rw [hQ]
          exact q_z F hr hlk () hP hD hS (show ((0 : Int) ≤ 0 ∧ 0 ≤ (1 : Int)) from by omega) dX12_isLonely_65 (Nat.le_of_ble_eq_true rfl) (Nat.le_of_ble_eq_true rfl) (nar01 (by decide))
      refine lv_iload_n hx hb dX12_isLonely_4 rfl (lv_at hl 3 rfl) ?_
      refine lv_aload_n hx hb dX12_isLonely_5 rfl (lv_at hl 0 rfl) ?_
      refine g_get F hK hP 0 (Wm_at0 G g q I0 J0 R0 L0) clX12 30 (by decide) flX12_104 rfl dX12_isLonely_6 ?_
      refine lv_aload_n hx hb dX12_isLonely_9 rfl (lv_at hl 0 rfl) ?_
      refine g_get F hK hP 0 (Wm_at0 G g q I0 J0 R0 L0) clX12 12 (by decide) flX12_48 rfl dX12_isLonely_10 ?_
      have w_I0_10 := rg (hvI0 10 (by decide)) (0) (1) rfl rfl
      refine g_iald F hK hP 19 (Wm_at19 G g q I0 J0 R0 L0) (in_of (by omega)) dX12_isLonely_13 rfl ?_
      refine lv_topi (fun x5 ex5 => ?_)
      have gx5 : x5.toInt = (R0 15 (Int32.toNatClampNeg (I0 10))).toInt := congrArg Int32.toInt (ex5)
      have fx5 : ((0 : Int) ≤ x5.toInt ∧ x5.toInt ≤ (30 : Int)) := by rw [ex5]; exact hvR 15 (by decide) _ (clamp_lt (n := 2) (in_of (by omega)))
      refine lv_icmp_ge (tgt := 74) hx hb dX12_isLonely_14 (by decide) (fun c6 => ?_) (fun c6 => ?_)
      · have gc6 : x5.toInt ≤ a3_4.toInt := (tle _ _).mp c6
        refine lv_iload_n hx hb dX12_isLonely_74 rfl (lv_at hl 2 rfl) ?_
        rw [hQ]
        exact q_z F hr hlk () hP hD hS (show ((0 : Int) ≤ a2_4.toInt ∧ a2_4.toInt ≤ (1 : Int)) from by omega) dX12_isLonely_75 (Nat.le_of_ble_eq_true rfl) (Nat.le_of_ble_eq_true rfl) (nar01 (show ((0 : Int) ≤ a2_4.toInt ∧ a2_4.toInt ≤ (1 : Int)) from by omega))
      · have gc6 : ¬ (x5.toInt ≤ a3_4.toInt) := fun q0 => c6 ((tle _ _).mpr q0)
        refine lv_aload_n hx hb dX12_isLonely_17 rfl (lv_at hl 0 rfl) ?_
        refine g_get F hK hP 0 (Wm_at0 G g q I0 J0 R0 L0) clX12 31 (by decide) flX12_107 rfl dX12_isLonely_18 ?_
        refine lv_bipush (v := 30) hx hb dX12_isLonely_21 (by decide) ?_
        refine lv_aload_n hx hb dX12_isLonely_23 rfl (lv_at hl 0 rfl) ?_
        refine g_get F hK hP 0 (Wm_at0 G g q I0 J0 R0 L0) clX12 12 (by decide) flX12_48 rfl dX12_isLonely_24 ?_
        refine lv_imul hx hb dX12_isLonely_27 ?_
        refine lv_topi (fun x7 ex7 => ?_)
        have fx7 : x7.toInt = 30 * (I0 10).toInt := by rw [ex7]; exact t_mul (by show (-2147483648 : Int) ≤ 30 * (I0 10).toInt; omega) (by show 30 * (I0 10).toInt ≤ 2147483647; omega)
        refine lv_iload_n hx hb dX12_isLonely_28 rfl (lv_at hl 3 rfl) ?_
        refine lv_iadd hx hb dX12_isLonely_29 ?_
        refine lv_topi (fun x8 ex8 => ?_)
        have fx8 : x8.toInt = x7.toInt + a3_4.toInt := by rw [ex8]; exact t_add (by show (-2147483648 : Int) ≤ x7.toInt + a3_4.toInt; omega) (by show x7.toInt + a3_4.toInt ≤ 2147483647; omega)
        refine g_iald F hK hP 20 (Wm_at20 G g q I0 J0 R0 L0) (in_of (by omega)) dX12_isLonely_30 rfl ?_
        refine lv_topi (fun x9 ex9 => ?_)
        have gx9 : x9.toInt = (R0 16 (Int32.toNatClampNeg x8)).toInt := congrArg Int32.toInt (ex9)
        have fx9 : ((0 : Int) ≤ x9.toInt ∧ x9.toInt ≤ (11 : Int)) := by rw [ex9]; exact hvR 16 (by decide) _ (clamp_lt (n := 60) (in_of (by omega)))
        refine lv_iload_n hx hb dX12_isLonely_31 rfl (lv_at hl 1 rfl) ?_
        refine lv_icmp_eq (tgt := 56) hx hb dX12_isLonely_32 (by decide) (fun c10 => ?_) (fun c10 => ?_)
        · have gc10 : x9.toInt = p1.toInt := congrArg Int32.toInt c10
          exact lab_56  _ _ _ (show ((0 : Int) ≤ a3_4.toInt ∧ a3_4.toInt ≤ (29 : Int)) from by omega) hP hD hS (lv_sub hl [0, 1, 3] rfl)
        · have gc10 : ¬ (x9.toInt = p1.toInt) := fun q0 => c10 (Int32.toInt_inj.mp q0)
          refine lv_aload_n hx hb dX12_isLonely_35 rfl (lv_at hl 0 rfl) ?_
          refine g_get F hK hP 0 (Wm_at0 G g q I0 J0 R0 L0) clX12 32 (by decide) flX12_110 rfl dX12_isLonely_36 ?_
          refine lv_bipush (v := 30) hx hb dX12_isLonely_39 (by decide) ?_
          refine lv_aload_n hx hb dX12_isLonely_41 rfl (lv_at hl 0 rfl) ?_
          refine g_get F hK hP 0 (Wm_at0 G g q I0 J0 R0 L0) clX12 12 (by decide) flX12_48 rfl dX12_isLonely_42 ?_
          refine lv_imul hx hb dX12_isLonely_45 ?_
          refine lv_topi (fun x11 ex11 => ?_)
          have fx11 : x11.toInt = 30 * (I0 10).toInt := by rw [ex11]; exact t_mul (by show (-2147483648 : Int) ≤ 30 * (I0 10).toInt; omega) (by show 30 * (I0 10).toInt ≤ 2147483647; omega)
          refine lv_iload_n hx hb dX12_isLonely_46 rfl (lv_at hl 3 rfl) ?_
          refine lv_iadd hx hb dX12_isLonely_47 ?_
          refine lv_topi (fun x12 ex12 => ?_)
          have fx12 : x12.toInt = x11.toInt + a3_4.toInt := by rw [ex12]; exact t_add (by show (-2147483648 : Int) ≤ x11.toInt + a3_4.toInt; omega) (by show x11.toInt + a3_4.toInt ≤ 2147483647; omega)
          refine g_iald F hK hP 21 (Wm_at21 G g q I0 J0 R0 L0) (in_of (by omega)) dX12_isLonely_48 rfl ?_
          refine lv_topi (fun x13 ex13 => ?_)
          have gx13 : x13.toInt = (R0 17 (Int32.toNatClampNeg x12)).toInt := congrArg Int32.toInt (ex13)
          have fx13 : ((0 : Int) ≤ x13.toInt ∧ x13.toInt ≤ (11 : Int)) := by rw [ex13]; exact hvR 17 (by decide) _ (clamp_lt (n := 60) (in_of (by omega)))
          refine lv_iload_n hx hb dX12_isLonely_49 rfl (lv_at hl 1 rfl) ?_
          refine lv_icmp_eq (tgt := 56) hx hb dX12_isLonely_50 (by decide) (fun c14 => ?_) (fun c14 => ?_)
          · have gc14 : x13.toInt = p1.toInt := congrArg Int32.toInt c14
            exact lab_56  _ _ _ (show ((0 : Int) ≤ a3_4.toInt ∧ a3_4.toInt ≤ (29 : Int)) from by omega) hP hD hS (lv_sub hl [0, 1, 3] rfl)
          · have gc14 : ¬ (x13.toInt = p1.toInt) := fun q0 => c14 (Int32.toInt_inj.mp q0)
            refine lv_goto (tgt := 68) hx hb dX12_isLonely_53 (by decide) ?_
            exact lab_68 a2_4 _ _ _ (show ((0 : Int) ≤ a2_4.toInt ∧ a2_4.toInt ≤ (1 : Int)) from by omega) (show ((0 : Int) ≤ a3_4.toInt ∧ a3_4.toInt ≤ (29 : Int)) from by omega) hP hD hS (lv_sub hl [0, 1, 2, 3] rfl)
  refine lv_iconst (v := 0) hx hb dX12_isLonely_0 (by decide) ?_
  refine lv_istore_n (lv' := [(2, .int 0), (0, .ref (g 45)), (1, .int p1)]) hx hb dX12_isLonely_1 rfl hl (by decide) rfl (fun ls hl => ?_)
  refine lv_iconst (v := 0) hx hb dX12_isLonely_2 (by decide) ?_
  refine lv_istore_n (lv' := [(3, .int 0), (2, .int 0), (0, .ref (g 45)), (1, .int p1)]) hx hb dX12_isLonely_3 rfl hl (by decide) rfl (fun ls hl => ?_)
  exact lab_4 31 0 0 _ _ _ (show (30 - 0) < ((31 : Nat) : Int) from by omega) (by decide) (by decide) hP hD hS (lv_sub hl [2, 3, 1, 0] rfl)
set_option maxHeartbeats 4000000 in
set_option maxRecDepth 100000 in
theorem s_X12_letterOf (l : Launch) (G : Gx)  (p0 : Int64) (p1 : Int32)  : CtI (S := Unit) l yX12_letterOf cX12_letterOf 6 (some .int) (rmD 1 0 0) G [.long p0, .int p1] [] (fun r _ => True) (fun _ => []) := by
  refine ctI_of (own := RX12) (by decide +kernel) rfl (Nat.le_of_ble_eq_true rfl) ?_
  intro p e s m below meth c A ls F hr hlk hnm hK hP hD hA hS hl
  have hx := F.1
  have hb := F.2.1
  have hown := F.2.2.2.1
  have hl : lv_has ls 6 [(0, .long p0), (2, .int p1)] := hl
  obtain ⟨Q, hQ⟩ : ∃ Q : State → Prop, Q = MQ below (va_Qi (S := Unit) (fun r _ => True) (BX G A (fun _ => [])) A) [.long p0, .int p1].toArray s 0 0 A := ⟨_, rfl⟩
  rw [show (MQ below (va_Qi (S := Unit) (fun r _ => True) (BX G A (fun _ => [])) A) [.long p0, .int p1].toArray s (rmD 1 0 0).cells (rmD 1 0 0).slots A) = Q from hQ.symm]
  have lab_34 : ∀  (H : Heap) (locs : List Loc) (ls : Array Slot), va_P G.1 vwCl [] H → va_D A [] → va_S A s.heap H locs → lv_has ls 6 [] → W p l e (rmD 1 0 0) s m [.long p0, .int p1].toArray below meth c H locs 0 0 Q (F0 m 34 ls []) := by
    intro H locs ls hP hD hS hl
    refine lv_iconst (v := (-1)) hx hb dX12_letterOf_34 (by decide) ?_
    refine lv_goto (tgt := 53) hx hb dX12_letterOf_35 (by decide) ?_
    rw [hQ]
    exact q_i F hr hlk () hP hD hS trivial dX12_letterOf_53 (Nat.le_of_ble_eq_true rfl) (Nat.le_of_ble_eq_true rfl)
  have lab_5 : ∀ (k_5 : Nat) (a3_5 : Int32) (a4_5 : Int64) (H : Heap) (locs : List Loc) (ls : Array Slot), ((((a4_5 : Int64).toUInt64.toNat : Int)) < (k_5 : Int)) → va_P G.1 vwCl [] H → va_D A [] → va_S A s.heap H locs → lv_has ls 6 [(0, .long p0), (2, .int p1), (3, .int a3_5), (4, .long a4_5)] → W p l e (rmD 1 0 0) s m [.long p0, .int p1].toArray below meth c H locs 0 0 Q (F0 m 5 ls []) := by
    intro k_5
    induction k_5 with
    | zero =>
      intro a3_5 a4_5 H locs ls hm hP hD hS hl
      exact absurd hm (by omega)
    | succ k_5 ih_5 =>
      intro a3_5 a4_5 H locs ls hm hP hD hS hl
      refine lv_lload hx hb dX12_letterOf_5 (lv_at hl 3 rfl) ?_
      refine lv_lconst (v := 0) hx hb dX12_letterOf_7 (by decide) ?_
      refine W.lcmp hx hb dX12_letterOf_8 ?_
      refine lv_topi (fun x1 ex1 => ?_)
      refine lv_if_eq (tgt := 25) hx hb dX12_letterOf_9 (by decide) (fun c2 => ?_) (fun c2 => ?_)
      · have gc2 : x1.toInt = 0 := congrArg Int32.toInt c2
        refine lv_iload_n hx hb dX12_letterOf_25 rfl (lv_at hl 1 rfl) ?_
        refine lv_if_lt (tgt := 34) hx hb dX12_letterOf_26 (by decide) (fun c3 => ?_) (fun c3 => ?_)
        · have gc3 : p1.toInt < 0 := (tlt _ _).mp c3
          exact lab_34  _ _ _  hP hD hS (lv_sub hl [] rfl)
        · have gc3 : ¬ (p1.toInt < 0) := fun q0 => c3 ((tlt _ _).mpr q0)
          refine lv_iload_n hx hb dX12_letterOf_29 rfl (lv_at hl 1 rfl) ?_
          refine lv_iload_n hx hb dX12_letterOf_30 rfl (lv_at hl 2 rfl) ?_
          refine lv_icmp_lt (tgt := 38) hx hb dX12_letterOf_31 (by decide) (fun c4 => ?_) (fun c4 => ?_)
          · have gc4 : p1.toInt < a3_5.toInt := (tlt _ _).mp c4
            refine lv_lload_n hx hb dX12_letterOf_38 rfl (lv_at hl 0 rfl) ?_
            refine lv_bipush (v := 8) hx hb dX12_letterOf_39 (by decide) ?_
            refine lv_iload_n hx hb dX12_letterOf_41 rfl (lv_at hl 2 rfl) ?_
            refine lv_iconst (v := 1) hx hb dX12_letterOf_42 (by decide) ?_
            refine lv_isub hx hb dX12_letterOf_43 ?_
            refine lv_topi (fun x5 ex5 => ?_)
            refine lv_iload_n hx hb dX12_letterOf_44 rfl (lv_at hl 1 rfl) ?_
            refine lv_isub hx hb dX12_letterOf_45 ?_
            refine lv_topi (fun x6 ex6 => ?_)
            refine lv_imul hx hb dX12_letterOf_46 ?_
            refine lv_topi (fun x7 ex7 => ?_)
            obtain ⟨x8, ex8⟩ : ∃ y : Int64, ((p0 : Int64).toUInt64 >>> ((x7 : Int32).toInt64.toUInt64 &&& Int64.toUInt64 63)).toInt64 = y := ⟨_, rfl⟩
            refine lv_lushr (v := x8) hx hb dX12_letterOf_47 ex8 ?_
            refine lv_ldc2 hx hb hown (F.2.2.2.2 _ clX12_460) dX12_letterOf_48 ?_
            refine lv_land hx hb dX12_letterOf_51 ?_
            refine lv_topl (fun x9 ex9 => ?_)
            obtain ⟨x10, ex10⟩ : ∃ y : Int32, (x9 : Int64).toInt32 = y := ⟨_, rfl⟩
            refine lv_l2i (v := x10) hx hb dX12_letterOf_52 ex10 ?_
            rw [hQ]
            exact q_i F hr hlk () hP hD hS trivial dX12_letterOf_53 (Nat.le_of_ble_eq_true rfl) (Nat.le_of_ble_eq_true rfl)
          · have gc4 : ¬ (p1.toInt < a3_5.toInt) := fun q0 => c4 ((tlt _ _).mpr q0)
            exact lab_34  _ _ _  hP hD hS (lv_sub hl [] rfl)
      · have gc2 : ¬ (x1.toInt = 0) := fun q0 => c2 (Int32.toInt_inj.mp q0)
        have nc2 : ¬ a4_5 = 0 := fun q0 => c2 (by rw [ex1, q0]; exact lcmp_s _)
        obtain ⟨x11, ex11⟩ : ∃ y : Int32, y = a3_5 + 1 := ⟨_, rfl⟩
        refine lv_iinc (v := x11) (lv' := [(3, .int x11), (0, .long p0), (2, .int p1), (4, .long a4_5)]) hx hb dX12_letterOf_12 hl (k := 2) rfl (by rw [ex11]; rfl) (by decide) rfl (fun ls hl => ?_)
        refine lv_lload hx hb dX12_letterOf_15 (lv_at hl 3 rfl) ?_
        refine lv_bipush (v := 8) hx hb dX12_letterOf_17 (by decide) ?_
        obtain ⟨x12, ex12⟩ : ∃ y : Int64, ((a4_5 : Int64).toUInt64 >>> ((8 : Int32).toInt64.toUInt64 &&& Int64.toUInt64 63)).toInt64 = y := ⟨_, rfl⟩
        refine lv_lushr (v := x12) hx hb dX12_letterOf_19 ex12 ?_
        have mx12 := ushr8 ex12
        have qx12 := u64_pos (x := a4_5) (by assumption)
        refine lv_lstore (lv' := [(4, .long x12), (3, .int x11), (0, .long p0), (2, .int p1)]) hx hb dX12_letterOf_20 hl (by decide) rfl (fun ls hl => ?_)
        refine lv_goto (tgt := 5) hx hb dX12_letterOf_22 (by decide) ?_
        exact ih_5 x11 x12 _ _ _ (show (((x12 : Int64).toUInt64.toNat : Int)) < (k_5 : Int) from by omega)  hP hD hS (lv_sub hl [2, 3, 1, 0] rfl)
  refine lv_iconst (v := 0) hx hb dX12_letterOf_0 (by decide) ?_
  refine lv_istore_n (lv' := [(3, .int 0), (0, .long p0), (2, .int p1)]) hx hb dX12_letterOf_1 rfl hl (by decide) rfl (fun ls hl => ?_)
  refine lv_lload_n hx hb dX12_letterOf_2 rfl (lv_at hl 1 rfl) ?_
  have hu := u64_lt p0
  refine lv_lstore (lv' := [(4, .long p0), (3, .int 0), (0, .long p0), (2, .int p1)]) hx hb dX12_letterOf_3 hl (by decide) rfl (fun ls hl => ?_)
  exact lab_5 18446744073709551616 0 p0 _ _ _ (show (((p0 : Int64).toUInt64.toNat : Int)) < ((18446744073709551616 : Nat) : Int) from by omega)  hP hD hS (lv_sub hl [2, 3, 1, 0] rfl)
set_option maxHeartbeats 4000000 in
set_option maxRecDepth 100000 in
theorem s_X12_letter (l : Launch) (G : Gx) (g q : Nat → Nat) (I0 : Nat → Int32) (J0 : Nat → Int64) (R0 : Nat → Nat → Int32) (L0 : Nat → Nat → Int64) (hvI : InvI Wm_lo Wm_hi I0) (hvR : InvR Wm_rl R0)  (p1 : Int32) (p2 : Int32) (p3 : Int32)  : CtI (S := Unit) l yX12_letter cX12_letter 4 (some .int) (rmD 3 0 0) G [.ref (g 45), .int p1, .int p2, .int p3] (Wm G g q I0 J0 R0 L0) (fun r _ => True) (fun _ => (Wm G g q I0 J0 R0 L0)) := by
  refine ctI_of (own := RX12) (by decide +kernel) rfl (Nat.le_of_ble_eq_true rfl) ?_
  intro p e s m below meth c A ls F hr hlk hnm hK hP hD hA hS hl
  have hx := F.1
  have hb := F.2.1
  have hown := F.2.2.2.1
  have hl : lv_has ls 4 [(0, .ref (g 45)), (1, .int p1), (2, .int p2), (3, .int p3)] := hl
  obtain ⟨Q, hQ⟩ : ∃ Q : State → Prop, Q = MQ below (va_Qi (S := Unit) (fun r _ => True) (BX G A (fun _ => (Wm G g q I0 J0 R0 L0))) A) [.ref (g 45), .int p1, .int p2, .int p3].toArray s 0 0 A := ⟨_, rfl⟩
  rw [show (MQ below (va_Qi (S := Unit) (fun r _ => True) (BX G A (fun _ => (Wm G g q I0 J0 R0 L0))) A) [.ref (g 45), .int p1, .int p2, .int p3].toArray s (rmD 3 0 0).cells (rmD 3 0 0).slots A) = Q from hQ.symm]
  have hvI0 := hvI
  have lab_84 : ∀  (H : Heap) (locs : List Loc) (ls : Array Slot), va_P G.1 vwCl (Wm G g q I0 J0 R0 L0) H → va_D A (Wm G g q I0 J0 R0 L0) → va_S A s.heap H locs → lv_has ls 4 [(0, .ref (g 45)), (1, .int p1), (2, .int p2), (3, .int p3)] → W p l e (rmD 3 0 0) s m [.ref (g 45), .int p1, .int p2, .int p3].toArray below meth c H locs 0 0 Q (F0 m 84 ls []) := by
    intro H locs ls hP hD hS hl
    refine lv_iload_n hx hb dX12_letter_84 rfl (lv_at hl 1 rfl) ?_
    refine lv_iconst (v := 2) hx hb dX12_letter_85 (by decide) ?_
    refine lv_icmp_ne (tgt := 118) hx hb dX12_letter_86 (by decide) (fun c1 => ?_) (fun c1 => ?_)
    · have gc1 : ¬ (p1.toInt = 2) := fun q0 => c1 (Int32.toInt_inj.mp q0)
      refine lv_iconst (v := (-1)) hx hb dX12_letter_118 (by decide) ?_
      rw [hQ]
      exact q_i F hr hlk () hP hD hS trivial dX12_letter_119 (Nat.le_of_ble_eq_true rfl) (Nat.le_of_ble_eq_true rfl)
    · have gc1 : p1.toInt = 2 := congrArg Int32.toInt c1
      refine lv_aload_n hx hb dX12_letter_89 rfl (lv_at hl 0 rfl) ?_
      refine lv_iload_n hx hb dX12_letter_90 rfl (lv_at hl 2 rfl) ?_
      refine wvi (As := [.int p2]) (rest := []) (b := (g 45)) (d := 2) F hK hP hD hS hA (s_X12_isPerson l G g q I0 J0 R0 L0 hvI hvR  p2 ) kmV_X12_isPerson mlX12_466 clX12 rfl 0 (Wm_at0 G g q I0 J0 R0 L0) ⟨(Nat.le_of_ble_eq_true rfl), (Nat.le_of_ble_eq_true rfl)⟩ hl.1 rfl (Nat.le_of_ble_eq_true rfl) dX12_letter_91 (fun r2 u3 H locs hwr2 hP hD hS => ?_)
      obtain ⟨F0r2, F1r2⟩ := hwr2
      replace F0r2 : ((0 : Int) ≤ r2.toInt ∧ r2.toInt ≤ (1 : Int)) := F0r2
      replace F1r2 : (r2.toInt = 1 → (0 ≤ p2.toInt ∧ p2.toInt ≤ 11)) := F1r2
      refine lv_if_eq (tgt := 118) hx hb dX12_letter_94 (by decide) (fun c4 => ?_) (fun c4 => ?_)
      · have gc4 : r2.toInt = 0 := congrArg Int32.toInt c4
        refine lv_iconst (v := (-1)) hx hb dX12_letter_118 (by decide) ?_
        rw [hQ]
        exact q_i F hr hlk () hP hD hS trivial dX12_letter_119 (Nat.le_of_ble_eq_true rfl) (Nat.le_of_ble_eq_true rfl)
      · have gc4 : ¬ (r2.toInt = 0) := fun q0 => c4 (Int32.toInt_inj.mp q0)
        refine lv_aload_n hx hb dX12_letter_97 rfl (lv_at hl 0 rfl) ?_
        refine g_get F hK hP 0 (Wm_at0 G g q I0 J0 R0 L0) clX12 22 (by decide) flX12_80 rfl dX12_letter_98 ?_
        refine lv_bipush (v := 12) hx hb dX12_letter_101 (by decide) ?_
        refine lv_aload_n hx hb dX12_letter_103 rfl (lv_at hl 0 rfl) ?_
        refine g_get F hK hP 0 (Wm_at0 G g q I0 J0 R0 L0) clX12 12 (by decide) flX12_48 rfl dX12_letter_104 ?_
        have w_I0_10 := rg (hvI0 10 (by decide)) (0) (1) rfl rfl
        refine lv_imul hx hb dX12_letter_107 ?_
        refine lv_topi (fun x5 ex5 => ?_)
        have fx5 : x5.toInt = 12 * (I0 10).toInt := by rw [ex5]; exact t_mul (by show (-2147483648 : Int) ≤ 12 * (I0 10).toInt; omega) (by show 12 * (I0 10).toInt ≤ 2147483647; omega)
        refine lv_iload_n hx hb dX12_letter_108 rfl (lv_at hl 2 rfl) ?_
        refine lv_iadd hx hb dX12_letter_109 ?_
        refine lv_topi (fun x6 ex6 => ?_)
        have fx6 : x6.toInt = x5.toInt + p2.toInt := by rw [ex6]; exact t_add (by show (-2147483648 : Int) ≤ x5.toInt + p2.toInt; omega) (by show x5.toInt + p2.toInt ≤ 2147483647; omega)
        refine g_lald F hK hP 11 (Wm_at11 G g q I0 J0 R0 L0) (in_of (by omega)) dX12_letter_110 rfl ?_
        refine lv_topl (fun x7 ex7 => ?_)
        refine lv_iload_n hx hb dX12_letter_111 rfl (lv_at hl 3 rfl) ?_
        refine w0i (As := [.long x7, .int p3]) (rest := []) (d := 1) F hK hP hD hS hA (s_X12_letterOf l G  x7 p3 ) kmS_X12_letterOf mlX12_462 ⟨(Nat.le_of_ble_eq_true rfl), (Nat.le_of_ble_eq_true rfl)⟩ hl.1 rfl (Nat.le_of_ble_eq_true rfl) dX12_letter_112 (fun r8 u9 H locs hwr8 hP hD hS => ?_)
        refine lv_goto (tgt := 119) hx hb dX12_letter_115 (by decide) ?_
        rw [hQ]
        exact q_i F hr hlk () hP hD hS trivial dX12_letter_119 (Nat.le_of_ble_eq_true rfl) (Nat.le_of_ble_eq_true rfl)
  have lab_41 : ∀  (H : Heap) (locs : List Loc) (ls : Array Slot), va_P G.1 vwCl (Wm G g q I0 J0 R0 L0) H → va_D A (Wm G g q I0 J0 R0 L0) → va_S A s.heap H locs → lv_has ls 4 [(0, .ref (g 45)), (1, .int p1), (2, .int p2), (3, .int p3)] → W p l e (rmD 3 0 0) s m [.ref (g 45), .int p1, .int p2, .int p3].toArray below meth c H locs 0 0 Q (F0 m 41 ls []) := by
    intro H locs ls hP hD hS hl
    refine lv_iload_n hx hb dX12_letter_41 rfl (lv_at hl 1 rfl) ?_
    refine lv_iconst (v := 1) hx hb dX12_letter_42 (by decide) ?_
    refine lv_icmp_ne (tgt := 84) hx hb dX12_letter_43 (by decide) (fun c10 => ?_) (fun c10 => ?_)
    · have gc10 : ¬ (p1.toInt = 1) := fun q0 => c10 (Int32.toInt_inj.mp q0)
      exact lab_84  _ _ _  hP hD hS (lv_sub hl [0, 1, 2, 3] rfl)
    · have gc10 : p1.toInt = 1 := congrArg Int32.toInt c10
      refine lv_iload_n hx hb dX12_letter_46 rfl (lv_at hl 2 rfl) ?_
      refine lv_iconst (v := 0) hx hb dX12_letter_47 (by decide) ?_
      refine lv_aload_n hx hb dX12_letter_48 rfl (lv_at hl 0 rfl) ?_
      refine g_get F hK hP 0 (Wm_at0 G g q I0 J0 R0 L0) clX12 18 (by decide) flX12_67 rfl dX12_letter_49 ?_
      refine lv_aload_n hx hb dX12_letter_52 rfl (lv_at hl 0 rfl) ?_
      refine g_get F hK hP 0 (Wm_at0 G g q I0 J0 R0 L0) clX12 12 (by decide) flX12_48 rfl dX12_letter_53 ?_
      have w_I0_10 := rg (hvI0 10 (by decide)) (0) (1) rfl rfl
      refine g_iald F hK hP 7 (Wm_at7 G g q I0 J0 R0 L0) (in_of (by omega)) dX12_letter_56 rfl ?_
      refine lv_topi (fun x11 ex11 => ?_)
      have gx11 : x11.toInt = (R0 5 (Int32.toNatClampNeg (I0 10))).toInt := congrArg Int32.toInt (ex11)
      have fx11 : ((0 : Int) ≤ x11.toInt ∧ x11.toInt ≤ (6 : Int)) := by rw [ex11]; exact hvR 5 (by decide) _ (clamp_lt (n := 2) (in_of (by omega)))
      refine lv_iconst (v := 1) hx hb dX12_letter_57 (by decide) ?_
      refine lv_isub hx hb dX12_letter_58 ?_
      refine lv_topi (fun x12 ex12 => ?_)
      have fx12 : x12.toInt = x11.toInt - 1 := by rw [ex12]; exact t_sub (by show (-2147483648 : Int) ≤ x11.toInt - 1; omega) (by show x11.toInt - 1 ≤ 2147483647; omega)
      refine w0i (As := [.int p2, .int 0, .int x12]) (rest := []) (d := 1) F hK hP hD hS hA (s_X12_is l G  p2 0 x12 (by decide) (show ((-1 : Int) ≤ x12.toInt ∧ x12.toInt ≤ (2000 : Int)) from by omega)) kmS_X12_is mlX12_316 ⟨(Nat.le_of_ble_eq_true rfl), (Nat.le_of_ble_eq_true rfl)⟩ hl.1 rfl (Nat.le_of_ble_eq_true rfl) dX12_letter_59 (fun r13 u14 H locs hwr13 hP hD hS => ?_)
      obtain ⟨F0r13, F1r13⟩ := hwr13
      replace F0r13 : ((0 : Int) ≤ r13.toInt ∧ r13.toInt ≤ (1 : Int)) := F0r13
      replace F1r13 : (r13.toInt = 1 → ((0 : Int) ≤ p2.toInt ∧ p2.toInt ≤ x12.toInt)) := F1r13
      refine lv_if_eq (tgt := 84) hx hb dX12_letter_62 (by decide) (fun c15 => ?_) (fun c15 => ?_)
      · have gc15 : r13.toInt = 0 := congrArg Int32.toInt c15
        exact lab_84  _ _ _  hP hD hS (lv_sub hl [0, 1, 2, 3] rfl)
      · have gc15 : ¬ (r13.toInt = 0) := fun q0 => c15 (Int32.toInt_inj.mp q0)
        refine lv_aload_n hx hb dX12_letter_65 rfl (lv_at hl 0 rfl) ?_
        refine g_get F hK hP 0 (Wm_at0 G g q I0 J0 R0 L0) clX12 19 (by decide) flX12_70 rfl dX12_letter_66 ?_
        refine lv_bipush (v := 6) hx hb dX12_letter_69 (by decide) ?_
        refine lv_aload_n hx hb dX12_letter_71 rfl (lv_at hl 0 rfl) ?_
        refine g_get F hK hP 0 (Wm_at0 G g q I0 J0 R0 L0) clX12 12 (by decide) flX12_48 rfl dX12_letter_72 ?_
        refine lv_imul hx hb dX12_letter_75 ?_
        refine lv_topi (fun x16 ex16 => ?_)
        have fx16 : x16.toInt = 6 * (I0 10).toInt := by rw [ex16]; exact t_mul (by show (-2147483648 : Int) ≤ 6 * (I0 10).toInt; omega) (by show 6 * (I0 10).toInt ≤ 2147483647; omega)
        refine lv_iload_n hx hb dX12_letter_76 rfl (lv_at hl 2 rfl) ?_
        refine lv_iadd hx hb dX12_letter_77 ?_
        refine lv_topi (fun x17 ex17 => ?_)
        have fx17 : x17.toInt = x16.toInt + p2.toInt := by rw [ex17]; exact t_add (by show (-2147483648 : Int) ≤ x16.toInt + p2.toInt; omega) (by show x16.toInt + p2.toInt ≤ 2147483647; omega)
        refine g_lald F hK hP 8 (Wm_at8 G g q I0 J0 R0 L0) (in_of (by omega)) dX12_letter_78 rfl ?_
        refine lv_topl (fun x18 ex18 => ?_)
        refine lv_iload_n hx hb dX12_letter_79 rfl (lv_at hl 3 rfl) ?_
        refine w0i (As := [.long x18, .int p3]) (rest := []) (d := 1) F hK hP hD hS hA (s_X12_letterOf l G  x18 p3 ) kmS_X12_letterOf mlX12_462 ⟨(Nat.le_of_ble_eq_true rfl), (Nat.le_of_ble_eq_true rfl)⟩ hl.1 rfl (Nat.le_of_ble_eq_true rfl) dX12_letter_80 (fun r19 u20 H locs hwr19 hP hD hS => ?_)
        rw [hQ]
        exact q_i F hr hlk () hP hD hS trivial dX12_letter_83 (Nat.le_of_ble_eq_true rfl) (Nat.le_of_ble_eq_true rfl)
  refine lv_iload_n hx hb dX12_letter_0 rfl (lv_at hl 1 rfl) ?_
  refine lv_if_ne (tgt := 41) hx hb dX12_letter_1 (by decide) (fun c21 => ?_) (fun c21 => ?_)
  · have gc21 : ¬ (p1.toInt = 0) := fun q0 => c21 (Int32.toInt_inj.mp q0)
    exact lab_41  _ _ _  hP hD hS (lv_sub hl [0, 1, 2, 3] rfl)
  · have gc21 : p1.toInt = 0 := congrArg Int32.toInt c21
    refine lv_iload_n hx hb dX12_letter_4 rfl (lv_at hl 2 rfl) ?_
    refine lv_iconst (v := 0) hx hb dX12_letter_5 (by decide) ?_
    refine lv_aload_n hx hb dX12_letter_6 rfl (lv_at hl 0 rfl) ?_
    refine g_get F hK hP 0 (Wm_at0 G g q I0 J0 R0 L0) clX12 13 (by decide) flX12_51 rfl dX12_letter_7 ?_
    refine lv_aload_n hx hb dX12_letter_10 rfl (lv_at hl 0 rfl) ?_
    refine g_get F hK hP 0 (Wm_at0 G g q I0 J0 R0 L0) clX12 12 (by decide) flX12_48 rfl dX12_letter_11 ?_
    have w_I0_10 := rg (hvI0 10 (by decide)) (0) (1) rfl rfl
    refine g_iald F hK hP 2 (Wm_at2 G g q I0 J0 R0 L0) (in_of (by omega)) dX12_letter_14 rfl ?_
    refine lv_topi (fun x22 ex22 => ?_)
    have gx22 : x22.toInt = (R0 1 (Int32.toNatClampNeg (I0 10))).toInt := congrArg Int32.toInt (ex22)
    have fx22 : ((0 : Int) ≤ x22.toInt ∧ x22.toInt ≤ (5 : Int)) := by rw [ex22]; exact hvR 1 (by decide) _ (clamp_lt (n := 2) (in_of (by omega)))
    refine lv_iconst (v := 1) hx hb dX12_letter_15 (by decide) ?_
    refine lv_isub hx hb dX12_letter_16 ?_
    refine lv_topi (fun x23 ex23 => ?_)
    have fx23 : x23.toInt = x22.toInt - 1 := by rw [ex23]; exact t_sub (by show (-2147483648 : Int) ≤ x22.toInt - 1; omega) (by show x22.toInt - 1 ≤ 2147483647; omega)
    refine w0i (As := [.int p2, .int 0, .int x23]) (rest := []) (d := 1) F hK hP hD hS hA (s_X12_is l G  p2 0 x23 (by decide) (show ((-1 : Int) ≤ x23.toInt ∧ x23.toInt ≤ (2000 : Int)) from by omega)) kmS_X12_is mlX12_316 ⟨(Nat.le_of_ble_eq_true rfl), (Nat.le_of_ble_eq_true rfl)⟩ hl.1 rfl (Nat.le_of_ble_eq_true rfl) dX12_letter_17 (fun r24 u25 H locs hwr24 hP hD hS => ?_)
    obtain ⟨F0r24, F1r24⟩ := hwr24
    replace F0r24 : ((0 : Int) ≤ r24.toInt ∧ r24.toInt ≤ (1 : Int)) := F0r24
    replace F1r24 : (r24.toInt = 1 → ((0 : Int) ≤ p2.toInt ∧ p2.toInt ≤ x23.toInt)) := F1r24
    refine lv_if_eq (tgt := 41) hx hb dX12_letter_20 (by decide) (fun c26 => ?_) (fun c26 => ?_)
    · have gc26 : r24.toInt = 0 := congrArg Int32.toInt c26
      exact lab_41  _ _ _  hP hD hS (lv_sub hl [0, 1, 2, 3] rfl)
    · have gc26 : ¬ (r24.toInt = 0) := fun q0 => c26 (Int32.toInt_inj.mp q0)
      refine lv_aload_n hx hb dX12_letter_23 rfl (lv_at hl 0 rfl) ?_
      refine g_get F hK hP 0 (Wm_at0 G g q I0 J0 R0 L0) clX12 14 (by decide) flX12_54 rfl dX12_letter_24 ?_
      refine lv_iconst (v := 5) hx hb dX12_letter_27 (by decide) ?_
      refine lv_aload_n hx hb dX12_letter_28 rfl (lv_at hl 0 rfl) ?_
      refine g_get F hK hP 0 (Wm_at0 G g q I0 J0 R0 L0) clX12 12 (by decide) flX12_48 rfl dX12_letter_29 ?_
      refine lv_imul hx hb dX12_letter_32 ?_
      refine lv_topi (fun x27 ex27 => ?_)
      have fx27 : x27.toInt = 5 * (I0 10).toInt := by rw [ex27]; exact t_mul (by show (-2147483648 : Int) ≤ 5 * (I0 10).toInt; omega) (by show 5 * (I0 10).toInt ≤ 2147483647; omega)
      refine lv_iload_n hx hb dX12_letter_33 rfl (lv_at hl 2 rfl) ?_
      refine lv_iadd hx hb dX12_letter_34 ?_
      refine lv_topi (fun x28 ex28 => ?_)
      have fx28 : x28.toInt = x27.toInt + p2.toInt := by rw [ex28]; exact t_add (by show (-2147483648 : Int) ≤ x27.toInt + p2.toInt; omega) (by show x27.toInt + p2.toInt ≤ 2147483647; omega)
      refine g_lald F hK hP 3 (Wm_at3 G g q I0 J0 R0 L0) (in_of (by omega)) dX12_letter_35 rfl ?_
      refine lv_topl (fun x29 ex29 => ?_)
      refine lv_iload_n hx hb dX12_letter_36 rfl (lv_at hl 3 rfl) ?_
      refine w0i (As := [.long x29, .int p3]) (rest := []) (d := 1) F hK hP hD hS hA (s_X12_letterOf l G  x29 p3 ) kmS_X12_letterOf mlX12_462 ⟨(Nat.le_of_ble_eq_true rfl), (Nat.le_of_ble_eq_true rfl)⟩ hl.1 rfl (Nat.le_of_ble_eq_true rfl) dX12_letter_37 (fun r30 u31 H locs hwr30 hP hD hS => ?_)
      rw [hQ]
      exact q_i F hr hlk () hP hD hS trivial dX12_letter_40 (Nat.le_of_ble_eq_true rfl) (Nat.le_of_ble_eq_true rfl)
set_option maxHeartbeats 4000000 in
set_option maxRecDepth 100000 in
theorem s_X12_met (l : Launch) (G : Gx) (g q : Nat → Nat) (I0 : Nat → Int32) (J0 : Nat → Int64) (R0 : Nat → Nat → Int32) (L0 : Nat → Nat → Int64) (hvI : InvI Wm_lo Wm_hi I0) (hvR : InvR Wm_rl R0)  (p1 : Int32)  : CtI (S := Unit) l yX12_met cX12_met 2 (some .int) (rmD 3 0 0) G [.ref (g 45), .int p1] (Wm G g q I0 J0 R0 L0) (fun r _ => True) (fun _ => (Wm G g q I0 J0 R0 L0)) := by
  refine ctI_of (own := RX12) (by decide +kernel) rfl (Nat.le_of_ble_eq_true rfl) ?_
  intro p e s m below meth c A ls F hr hlk hnm hK hP hD hA hS hl
  have hx := F.1
  have hb := F.2.1
  have hown := F.2.2.2.1
  have hl : lv_has ls 2 [(0, .ref (g 45)), (1, .int p1)] := hl
  obtain ⟨Q, hQ⟩ : ∃ Q : State → Prop, Q = MQ below (va_Qi (S := Unit) (fun r _ => True) (BX G A (fun _ => (Wm G g q I0 J0 R0 L0))) A) [.ref (g 45), .int p1].toArray s 0 0 A := ⟨_, rfl⟩
  rw [show (MQ below (va_Qi (S := Unit) (fun r _ => True) (BX G A (fun _ => (Wm G g q I0 J0 R0 L0))) A) [.ref (g 45), .int p1].toArray s (rmD 3 0 0).cells (rmD 3 0 0).slots A) = Q from hQ.symm]
  have hvI0 := hvI
  refine lv_iload_n hx hb dX12_met_0 rfl (lv_at hl 1 rfl) ?_
  refine lv_iconst (v := 0) hx hb dX12_met_1 (by decide) ?_
  refine lv_aload_n hx hb dX12_met_2 rfl (lv_at hl 0 rfl) ?_
  refine g_get F hK hP 0 (Wm_at0 G g q I0 J0 R0 L0) clX12 30 (by decide) flX12_104 rfl dX12_met_3 ?_
  refine lv_aload_n hx hb dX12_met_6 rfl (lv_at hl 0 rfl) ?_
  refine g_get F hK hP 0 (Wm_at0 G g q I0 J0 R0 L0) clX12 12 (by decide) flX12_48 rfl dX12_met_7 ?_
  have w_I0_10 := rg (hvI0 10 (by decide)) (0) (1) rfl rfl
  refine g_iald F hK hP 19 (Wm_at19 G g q I0 J0 R0 L0) (in_of (by omega)) dX12_met_10 rfl ?_
  refine lv_topi (fun x1 ex1 => ?_)
  have gx1 : x1.toInt = (R0 15 (Int32.toNatClampNeg (I0 10))).toInt := congrArg Int32.toInt (ex1)
  have fx1 : ((0 : Int) ≤ x1.toInt ∧ x1.toInt ≤ (30 : Int)) := by rw [ex1]; exact hvR 15 (by decide) _ (clamp_lt (n := 2) (in_of (by omega)))
  refine lv_iconst (v := 1) hx hb dX12_met_11 (by decide) ?_
  refine lv_isub hx hb dX12_met_12 ?_
  refine lv_topi (fun x2 ex2 => ?_)
  have fx2 : x2.toInt = x1.toInt - 1 := by rw [ex2]; exact t_sub (by show (-2147483648 : Int) ≤ x1.toInt - 1; omega) (by show x1.toInt - 1 ≤ 2147483647; omega)
  refine w0i (As := [.int p1, .int 0, .int x2]) (rest := []) (d := 1) F hK hP hD hS hA (s_X12_is l G  p1 0 x2 (by decide) (show ((-1 : Int) ≤ x2.toInt ∧ x2.toInt ≤ (2000 : Int)) from by omega)) kmS_X12_is mlX12_316 ⟨(Nat.le_of_ble_eq_true rfl), (Nat.le_of_ble_eq_true rfl)⟩ hl.1 rfl (Nat.le_of_ble_eq_true rfl) dX12_met_13 (fun r3 u4 H locs hwr3 hP hD hS => ?_)
  obtain ⟨F0r3, F1r3⟩ := hwr3
  replace F0r3 : ((0 : Int) ≤ r3.toInt ∧ r3.toInt ≤ (1 : Int)) := F0r3
  replace F1r3 : (r3.toInt = 1 → ((0 : Int) ≤ p1.toInt ∧ p1.toInt ≤ x2.toInt)) := F1r3
  refine lv_if_eq (tgt := 27) hx hb dX12_met_16 (by decide) (fun c5 => ?_) (fun c5 => ?_)
  · have gc5 : r3.toInt = 0 := congrArg Int32.toInt c5
    refine lv_iconst (v := (-1)) hx hb dX12_met_27 (by decide) ?_
    rw [hQ]
    exact q_i F hr hlk () hP hD hS trivial dX12_met_28 (Nat.le_of_ble_eq_true rfl) (Nat.le_of_ble_eq_true rfl)
  · have gc5 : ¬ (r3.toInt = 0) := fun q0 => c5 (Int32.toInt_inj.mp q0)
    refine lv_aload_n hx hb dX12_met_19 rfl (lv_at hl 0 rfl) ?_
    refine lv_iload_n hx hb dX12_met_20 rfl (lv_at hl 1 rfl) ?_
    refine wvi (As := [.int p1]) (rest := []) (b := (g 45)) (d := 2) F hK hP hD hS hA (s_X12_metOn l G g q I0 J0 R0 L0 hvI hvR  p1 (show ((0 : Int) ≤ p1.toInt ∧ p1.toInt ≤ (29 : Int)) from by omega)) kmV_X12_metOn mlX12_497 clX12 rfl 0 (Wm_at0 G g q I0 J0 R0 L0) ⟨(Nat.le_of_ble_eq_true rfl), (Nat.le_of_ble_eq_true rfl)⟩ hl.1 rfl (Nat.le_of_ble_eq_true rfl) dX12_met_21 (fun r6 u7 H locs hwr6 hP hD hS => ?_)
    refine lv_goto (tgt := 28) hx hb dX12_met_24 (by decide) ?_
    rw [hQ]
    exact q_i F hr hlk () hP hD hS trivial dX12_met_28 (Nat.le_of_ble_eq_true rfl) (Nat.le_of_ble_eq_true rfl)
set_option maxHeartbeats 4000000 in
set_option maxRecDepth 100000 in
theorem s_X12_turned (l : Launch) (G : Gx) (g q : Nat → Nat) (I0 : Nat → Int32) (J0 : Nat → Int64) (R0 : Nat → Nat → Int32) (L0 : Nat → Nat → Int64) (hvI : InvI Wm_lo Wm_hi I0) (hvR : InvR Wm_rl R0)  (p1 : Int32) (p2 : Int32) (hp1 : ((0 : Int) ≤ p1.toInt ∧ p1.toInt ≤ (11 : Int))) (hp2 : ((0 : Int) ≤ p2.toInt ∧ p2.toInt ≤ (8 : Int))) : CtI (S := Unit) l yX12_turned cX12_turned 5 (some .int) (rmD 2 0 0) G [.ref (g 45), .int p1, .int p2] (Wm G g q I0 J0 R0 L0) (fun r _ => True) (fun _ => (Wm G g q I0 J0 R0 L0)) := by
  refine ctI_of (own := RX12) (by decide +kernel) rfl (Nat.le_of_ble_eq_true rfl) ?_
  intro p e s m below meth c A ls F hr hlk hnm hK hP hD hA hS hl
  have hx := F.1
  have hb := F.2.1
  have hown := F.2.2.2.1
  have hl : lv_has ls 5 [(0, .ref (g 45)), (1, .int p1), (2, .int p2)] := hl
  obtain ⟨Q, hQ⟩ : ∃ Q : State → Prop, Q = MQ below (va_Qi (S := Unit) (fun r _ => True) (BX G A (fun _ => (Wm G g q I0 J0 R0 L0))) A) [.ref (g 45), .int p1, .int p2].toArray s 0 0 A := ⟨_, rfl⟩
  rw [show (MQ below (va_Qi (S := Unit) (fun r _ => True) (BX G A (fun _ => (Wm G g q I0 J0 R0 L0))) A) [.ref (g 45), .int p1, .int p2].toArray s (rmD 2 0 0).cells (rmD 2 0 0).slots A) = Q from hQ.symm]
  have hvI0 := hvI
  have lab_5 : ∀ (k_5 : Nat) (a3_5 : Int32) (a4_5 : Int32) (H : Heap) (locs : List Loc) (ls : Array Slot), ((5 - a4_5.toInt) < (k_5 : Int)) → ((0 : Int) ≤ a4_5.toInt ∧ a4_5.toInt ≤ (5 : Int)) → va_P G.1 vwCl (Wm G g q I0 J0 R0 L0) H → va_D A (Wm G g q I0 J0 R0 L0) → va_S A s.heap H locs → lv_has ls 5 [(0, .ref (g 45)), (1, .int p1), (2, .int p2), (3, .int a3_5), (4, .int a4_5)] → W p l e (rmD 2 0 0) s m [.ref (g 45), .int p1, .int p2].toArray below meth c H locs 0 0 Q (F0 m 5 ls []) := by
    intro k_5
    induction k_5 with
    | zero =>
      intro a3_5 a4_5 H locs ls hm y0_5 hP hD hS hl
      exact absurd hm (by omega)
    | succ k_5 ih_5 =>
      intro a3_5 a4_5 H locs ls hm y0_5 hP hD hS hl
      have lab_49 : ∀ (b0_49 : Int32) (b1_49 : Int32) (H : Heap) (locs : List Loc) (ls : Array Slot), ((0 : Int) ≤ a4_5.toInt ∧ a4_5.toInt ≤ (4 : Int)) → va_P G.1 vwCl (Wm G g q I0 J0 R0 L0) H → va_D A (Wm G g q I0 J0 R0 L0) → va_S A s.heap H locs → lv_has ls 5 [(0, .ref (g 45)), (1, .int p1), (2, .int p2), (4, .int a4_5)] → W p l e (rmD 2 0 0) s m [.ref (g 45), .int p1, .int p2].toArray below meth c H locs 0 0 Q (F0 m 49 ls [.int b0_49, .int b1_49]) := by
        intro b0_49 b1_49 H locs ls y0_49 hP hD hS hl
        refine lv_ior hx hb dX12_turned_49 ?_
        refine lv_topi (fun x1 ex1 => ?_)
        refine lv_istore_n (lv' := [(3, .int x1), (0, .ref (g 45)), (1, .int p1), (2, .int p2), (4, .int a4_5)]) hx hb dX12_turned_50 rfl hl (by decide) rfl (fun ls hl => ?_)
        obtain ⟨x2, ex2⟩ : ∃ y : Int32, y = a4_5 + 1 := ⟨_, rfl⟩
        have fx2 : x2.toInt = a4_5.toInt + (1 : Int) := by rw [ex2]; exact t_add (by show (-2147483648 : Int) ≤ a4_5.toInt + (1 : Int); omega) (by show a4_5.toInt + (1 : Int) ≤ 2147483647; omega)
        refine lv_iinc (v := x2) (lv' := [(4, .int x2), (3, .int x1), (0, .ref (g 45)), (1, .int p1), (2, .int p2)]) hx hb dX12_turned_51 hl (k := 4) rfl (by rw [ex2]; rfl) (by decide) rfl (fun ls hl => ?_)
        refine lv_goto (tgt := 5) hx hb dX12_turned_54 (by decide) ?_
        exact ih_5 x1 x2 _ _ _ (show (5 - x2.toInt) < (k_5 : Int) from by omega) (show ((0 : Int) ≤ x2.toInt ∧ x2.toInt ≤ (5 : Int)) from by omega) hP hD hS (lv_sub hl [2, 3, 4, 1, 0] rfl)
      refine lv_iload hx hb dX12_turned_5 (lv_at hl 4 rfl) ?_
      refine lv_iconst (v := 5) hx hb dX12_turned_7 (by decide) ?_
      refine lv_icmp_ge (tgt := 57) hx hb dX12_turned_8 (by decide) (fun c3 => ?_) (fun c3 => ?_)
      · have gc3 : 5 ≤ a4_5.toInt := (tle _ _).mp c3
        refine lv_iload_n hx hb dX12_turned_57 rfl (lv_at hl 3 rfl) ?_
        rw [hQ]
        exact q_i F hr hlk () hP hD hS trivial dX12_turned_58 (Nat.le_of_ble_eq_true rfl) (Nat.le_of_ble_eq_true rfl)
      · have gc3 : ¬ (5 ≤ a4_5.toInt) := fun q0 => c3 ((tle _ _).mpr q0)
        refine lv_iload_n hx hb dX12_turned_11 rfl (lv_at hl 3 rfl) ?_
        refine lv_aload_n hx hb dX12_turned_12 rfl (lv_at hl 0 rfl) ?_
        refine lv_iload_n hx hb dX12_turned_13 rfl (lv_at hl 1 rfl) ?_
        refine lv_iload hx hb dX12_turned_14 (lv_at hl 4 rfl) ?_
        refine wvi (As := [.int p1, .int a4_5]) (rest := [.int a3_5]) (b := (g 45)) (d := 1) F hK hP hD hS hA (s_X12_isIn l G g q I0 J0 R0 L0 hvI hvR  p1 a4_5 (show ((0 : Int) ≤ p1.toInt ∧ p1.toInt ≤ (11 : Int)) from by omega) (show ((0 : Int) ≤ a4_5.toInt ∧ a4_5.toInt ≤ (4 : Int)) from by omega)) kmV_X12_isIn mlX12_479 clX12 rfl 0 (Wm_at0 G g q I0 J0 R0 L0) ⟨(Nat.le_of_ble_eq_true rfl), (Nat.le_of_ble_eq_true rfl)⟩ hl.1 rfl (Nat.le_of_ble_eq_true rfl) dX12_turned_16 (fun r4 u5 H locs hwr4 hP hD hS => ?_)
        have F0r4 := hwr4
        replace F0r4 : ((0 : Int) ≤ r4.toInt ∧ r4.toInt ≤ (1 : Int)) := F0r4
        refine lv_if_eq (tgt := 48) hx hb dX12_turned_19 (by decide) (fun c6 => ?_) (fun c6 => ?_)
        · have gc6 : r4.toInt = 0 := congrArg Int32.toInt c6
          refine lv_iconst (v := 0) hx hb dX12_turned_48 (by decide) ?_
          exact lab_49 0 a3_5 _ _ _ (show ((0 : Int) ≤ a4_5.toInt ∧ a4_5.toInt ≤ (4 : Int)) from by omega) hP hD hS (lv_sub hl [0, 1, 2, 4] rfl)
        · have gc6 : ¬ (r4.toInt = 0) := fun q0 => c6 (Int32.toInt_inj.mp q0)
          refine lv_iconst (v := 1) hx hb dX12_turned_22 (by decide) ?_
          refine lv_iload hx hb dX12_turned_23 (lv_at hl 4 rfl) ?_
          refine lv_iload_n hx hb dX12_turned_25 rfl (lv_at hl 2 rfl) ?_
          refine lv_aload_n hx hb dX12_turned_26 rfl (lv_at hl 0 rfl) ?_
          refine g_get F hK hP 0 (Wm_at0 G g q I0 J0 R0 L0) clX12 29 (by decide) flX12_101 rfl dX12_turned_27 ?_
          refine lv_bipush (v := 12) hx hb dX12_turned_30 (by decide) ?_
          refine lv_aload_n hx hb dX12_turned_32 rfl (lv_at hl 0 rfl) ?_
          refine g_get F hK hP 0 (Wm_at0 G g q I0 J0 R0 L0) clX12 12 (by decide) flX12_48 rfl dX12_turned_33 ?_
          have w_I0_10 := rg (hvI0 10 (by decide)) (0) (1) rfl rfl
          refine lv_imul hx hb dX12_turned_36 ?_
          refine lv_topi (fun x7 ex7 => ?_)
          have fx7 : x7.toInt = 12 * (I0 10).toInt := by rw [ex7]; exact t_mul (by show (-2147483648 : Int) ≤ 12 * (I0 10).toInt; omega) (by show 12 * (I0 10).toInt ≤ 2147483647; omega)
          refine lv_iload_n hx hb dX12_turned_37 rfl (lv_at hl 1 rfl) ?_
          refine lv_iadd hx hb dX12_turned_38 ?_
          refine lv_topi (fun x8 ex8 => ?_)
          have fx8 : x8.toInt = x7.toInt + p1.toInt := by rw [ex8]; exact t_add (by show (-2147483648 : Int) ≤ x7.toInt + p1.toInt; omega) (by show x7.toInt + p1.toInt ≤ 2147483647; omega)
          refine g_iald F hK hP 18 (Wm_at18 G g q I0 J0 R0 L0) (in_of (by omega)) dX12_turned_39 rfl ?_
          refine lv_topi (fun x9 ex9 => ?_)
          have gx9 : x9.toInt = (R0 14 (Int32.toNatClampNeg x8)).toInt := congrArg Int32.toInt (ex9)
          refine lv_imul hx hb dX12_turned_40 ?_
          refine lv_topi (fun x10 ex10 => ?_)
          refine lv_iadd hx hb dX12_turned_41 ?_
          refine lv_topi (fun x11 ex11 => ?_)
          refine lv_iconst (v := 5) hx hb dX12_turned_42 (by decide) ?_
          refine lv_irem hx hb dX12_turned_43 (by decide) ?_
          refine lv_topi (fun x12 ex12 => ?_)
          refine lv_ishl hx hb dX12_turned_44 ?_
          refine lv_topi (fun x13 ex13 => ?_)
          refine lv_goto (tgt := 49) hx hb dX12_turned_45 (by decide) ?_
          exact lab_49 x13 a3_5 _ _ _ (show ((0 : Int) ≤ a4_5.toInt ∧ a4_5.toInt ≤ (4 : Int)) from by omega) hP hD hS (lv_sub hl [0, 1, 2, 4] rfl)
  refine lv_iconst (v := 0) hx hb dX12_turned_0 (by decide) ?_
  refine lv_istore_n (lv' := [(3, .int 0), (0, .ref (g 45)), (1, .int p1), (2, .int p2)]) hx hb dX12_turned_1 rfl hl (by decide) rfl (fun ls hl => ?_)
  refine lv_iconst (v := 0) hx hb dX12_turned_2 (by decide) ?_
  refine lv_istore (lv' := [(4, .int 0), (3, .int 0), (0, .ref (g 45)), (1, .int p1), (2, .int p2)]) hx hb dX12_turned_3 hl (by decide) rfl (fun ls hl => ?_)
  exact lab_5 6 0 0 _ _ _ (show (5 - 0) < ((6 : Nat) : Int) from by omega) (by decide) hP hD hS (lv_sub hl [2, 3, 4, 1, 0] rfl)
set_option maxHeartbeats 4000000 in
set_option maxRecDepth 100000 in
theorem s_X12_neverIn (l : Launch) (G : Gx) (g q : Nat → Nat) (I0 : Nat → Int32) (J0 : Nat → Int64) (R0 : Nat → Nat → Int32) (L0 : Nat → Nat → Int64) (hvI : InvI Wm_lo Wm_hi I0) (hvR : InvR Wm_rl R0)  (p1 : Int32) (hp1 : ((1 : Int) ≤ p1.toInt ∧ p1.toInt ≤ (9 : Int))) : CtI (S := Unit) l yX12_neverIn cX12_neverIn 6 (some .int) (rmD 3 0 0) G [.ref (g 45), .int p1] (Wm G g q I0 J0 R0 L0) (fun r _ => True) (fun _ => (Wm G g q I0 J0 R0 L0)) := by
  refine ctI_of (own := RX12) (by decide +kernel) rfl (Nat.le_of_ble_eq_true rfl) ?_
  intro p e s m below meth c A ls F hr hlk hnm hK hP hD hA hS hl
  have hx := F.1
  have hb := F.2.1
  have hown := F.2.2.2.1
  have hl : lv_has ls 6 [(0, .ref (g 45)), (1, .int p1)] := hl
  obtain ⟨Q, hQ⟩ : ∃ Q : State → Prop, Q = MQ below (va_Qi (S := Unit) (fun r _ => True) (BX G A (fun _ => (Wm G g q I0 J0 R0 L0))) A) [.ref (g 45), .int p1].toArray s 0 0 A := ⟨_, rfl⟩
  rw [show (MQ below (va_Qi (S := Unit) (fun r _ => True) (BX G A (fun _ => (Wm G g q I0 J0 R0 L0))) A) [.ref (g 45), .int p1].toArray s (rmD 3 0 0).cells (rmD 3 0 0).slots A) = Q from hQ.symm]
  have hvI0 := hvI
  have lab_10 : ∀ (k_10 : Nat) (a2_10 : Int32) (a3_10 : Int32) (H : Heap) (locs : List Loc) (ls : Array Slot), ((60 - a3_10.toInt) < (k_10 : Int)) → ((0 : Int) ≤ a3_10.toInt ∧ a3_10.toInt ≤ (60 : Int)) → va_P G.1 vwCl (Wm G g q I0 J0 R0 L0) H → va_D A (Wm G g q I0 J0 R0 L0) → va_S A s.heap H locs → lv_has ls 6 [(0, .ref (g 45)), (1, .int p1), (2, .int a2_10), (3, .int a3_10)] → W p l e (rmD 3 0 0) s m [.ref (g 45), .int p1].toArray below meth c H locs 0 0 Q (F0 m 10 ls []) := by
    intro k_10
    induction k_10 with
    | zero =>
      intro a2_10 a3_10 H locs ls hm y0_10 hP hD hS hl
      exact absurd hm (by omega)
    | succ k_10 ih_10 =>
      intro a2_10 a3_10 H locs ls hm y0_10 hP hD hS hl
      have lab_100 : ∀ (b0_100 : Int32) (b1_100 : Int32) (H : Heap) (locs : List Loc) (ls : Array Slot), ((0 : Int) ≤ a3_10.toInt ∧ a3_10.toInt ≤ (59 : Int)) → ((0 : Int) ≤ b0_100.toInt ∧ b0_100.toInt ≤ (1 : Int)) → va_P G.1 vwCl (Wm G g q I0 J0 R0 L0) H → va_D A (Wm G g q I0 J0 R0 L0) → va_S A s.heap H locs → lv_has ls 6 [(0, .ref (g 45)), (1, .int p1), (3, .int a3_10)] → W p l e (rmD 3 0 0) s m [.ref (g 45), .int p1].toArray below meth c H locs 0 0 Q (F0 m 100 ls [.int b0_100, .int b1_100]) := by
        intro b0_100 b1_100 H locs ls y0_100 y1_100 hP hD hS hl
        refine lv_iadd hx hb dX12_neverIn_100 ?_
        refine lv_topi (fun x1 ex1 => ?_)
        refine lv_istore_n (lv' := [(2, .int x1), (0, .ref (g 45)), (1, .int p1), (3, .int a3_10)]) hx hb dX12_neverIn_101 rfl hl (by decide) rfl (fun ls hl => ?_)
        obtain ⟨x2, ex2⟩ : ∃ y : Int32, y = a3_10 + 1 := ⟨_, rfl⟩
        have fx2 : x2.toInt = a3_10.toInt + (1 : Int) := by rw [ex2]; exact t_add (by show (-2147483648 : Int) ≤ a3_10.toInt + (1 : Int); omega) (by show a3_10.toInt + (1 : Int) ≤ 2147483647; omega)
        refine lv_iinc (v := x2) (lv' := [(3, .int x2), (2, .int x1), (0, .ref (g 45)), (1, .int p1)]) hx hb dX12_neverIn_102 hl (k := 3) rfl (by rw [ex2]; rfl) (by decide) rfl (fun ls hl => ?_)
        refine lv_goto (tgt := 10) hx hb dX12_neverIn_105 (by decide) ?_
        exact ih_10 x1 x2 _ _ _ (show (60 - x2.toInt) < (k_10 : Int) from by omega) (show ((0 : Int) ≤ x2.toInt ∧ x2.toInt ≤ (60 : Int)) from by omega) hP hD hS (lv_sub hl [2, 3, 1, 0] rfl)
      have lab_37 : ∀ (k_37 : Nat) (a4_37 : Int32) (a5_37 : Int32) (H : Heap) (locs : List Loc) (ls : Array Slot), ((9 - a5_37.toInt) < (k_37 : Int)) → ((0 : Int) ≤ a3_10.toInt ∧ a3_10.toInt ≤ (59 : Int)) → ((0 : Int) ≤ a4_37.toInt ∧ a4_37.toInt ≤ (1 : Int)) → ((0 : Int) ≤ a5_37.toInt ∧ a5_37.toInt ≤ (9 : Int)) → va_P G.1 vwCl (Wm G g q I0 J0 R0 L0) H → va_D A (Wm G g q I0 J0 R0 L0) → va_S A s.heap H locs → lv_has ls 6 [(0, .ref (g 45)), (1, .int p1), (2, .int a2_10), (3, .int a3_10), (4, .int a4_37), (5, .int a5_37)] → W p l e (rmD 3 0 0) s m [.ref (g 45), .int p1].toArray below meth c H locs 0 0 Q (F0 m 37 ls []) := by
        intro k_37
        induction k_37 with
        | zero =>
          intro a4_37 a5_37 H locs ls hm y0_37 y1_37 y2_37 hP hD hS hl
          exact absurd hm (by omega)
        | succ k_37 ih_37 =>
          intro a4_37 a5_37 H locs ls hm y0_37 y1_37 y2_37 hP hD hS hl
          have lab_81 : ∀ (b0_81 : Int32) (H : Heap) (locs : List Loc) (ls : Array Slot), ((0 : Int) ≤ a5_37.toInt ∧ a5_37.toInt ≤ (8 : Int)) → ((0 : Int) ≤ b0_81.toInt ∧ b0_81.toInt ≤ (1 : Int)) → va_P G.1 vwCl (Wm G g q I0 J0 R0 L0) H → va_D A (Wm G g q I0 J0 R0 L0) → va_S A s.heap H locs → lv_has ls 6 [(0, .ref (g 45)), (1, .int p1), (2, .int a2_10), (3, .int a3_10), (5, .int a5_37)] → W p l e (rmD 3 0 0) s m [.ref (g 45), .int p1].toArray below meth c H locs 0 0 Q (F0 m 81 ls [.int b0_81]) := by
            intro b0_81 H locs ls y0_81 y1_81 hP hD hS hl
            refine lv_istore (lv' := [(4, .int b0_81), (0, .ref (g 45)), (1, .int p1), (2, .int a2_10), (3, .int a3_10), (5, .int a5_37)]) hx hb dX12_neverIn_81 hl (by decide) rfl (fun ls hl => ?_)
            obtain ⟨x3, ex3⟩ : ∃ y : Int32, y = a5_37 + 1 := ⟨_, rfl⟩
            have fx3 : x3.toInt = a5_37.toInt + (1 : Int) := by rw [ex3]; exact t_add (by show (-2147483648 : Int) ≤ a5_37.toInt + (1 : Int); omega) (by show a5_37.toInt + (1 : Int) ≤ 2147483647; omega)
            refine lv_iinc (v := x3) (lv' := [(5, .int x3), (4, .int b0_81), (0, .ref (g 45)), (1, .int p1), (2, .int a2_10), (3, .int a3_10)]) hx hb dX12_neverIn_83 hl (k := 5) rfl (by rw [ex3]; rfl) (by decide) rfl (fun ls hl => ?_)
            refine lv_goto (tgt := 37) hx hb dX12_neverIn_86 (by decide) ?_
            exact ih_37 b0_81 x3 _ _ _ (show (9 - x3.toInt) < (k_37 : Int) from by omega) (show ((0 : Int) ≤ a3_10.toInt ∧ a3_10.toInt ≤ (59 : Int)) from by omega) (show ((0 : Int) ≤ b0_81.toInt ∧ b0_81.toInt ≤ (1 : Int)) from by omega) (show ((0 : Int) ≤ x3.toInt ∧ x3.toInt ≤ (9 : Int)) from by omega) hP hD hS (lv_sub hl [2, 3, 4, 5, 1, 0] rfl)
          have lab_76 : ∀  (H : Heap) (locs : List Loc) (ls : Array Slot), ((0 : Int) ≤ a5_37.toInt ∧ a5_37.toInt ≤ (8 : Int)) → va_P G.1 vwCl (Wm G g q I0 J0 R0 L0) H → va_D A (Wm G g q I0 J0 R0 L0) → va_S A s.heap H locs → lv_has ls 6 [(0, .ref (g 45)), (1, .int p1), (2, .int a2_10), (3, .int a3_10), (5, .int a5_37)] → W p l e (rmD 3 0 0) s m [.ref (g 45), .int p1].toArray below meth c H locs 0 0 Q (F0 m 76 ls []) := by
            intro H locs ls y0_76 hP hD hS hl
            refine lv_iconst (v := 1) hx hb dX12_neverIn_76 (by decide) ?_
            refine lv_goto (tgt := 81) hx hb dX12_neverIn_77 (by decide) ?_
            exact lab_81 1 _ _ _ (show ((0 : Int) ≤ a5_37.toInt ∧ a5_37.toInt ≤ (8 : Int)) from by omega) (by decide) hP hD hS (lv_sub hl [0, 1, 2, 3, 4] rfl)
          refine lv_iload hx hb dX12_neverIn_37 (lv_at hl 5 rfl) ?_
          refine lv_iload_n hx hb dX12_neverIn_39 rfl (lv_at hl 1 rfl) ?_
          refine lv_icmp_ge (tgt := 89) hx hb dX12_neverIn_40 (by decide) (fun c4 => ?_) (fun c4 => ?_)
          · have gc4 : p1.toInt ≤ a5_37.toInt := (tle _ _).mp c4
            refine lv_iload_n hx hb dX12_neverIn_89 rfl (lv_at hl 2 rfl) ?_
            refine lv_iload hx hb dX12_neverIn_90 (lv_at hl 4 rfl) ?_
            refine lv_if_eq (tgt := 99) hx hb dX12_neverIn_92 (by decide) (fun c5 => ?_) (fun c5 => ?_)
            · have gc5 : a4_37.toInt = 0 := congrArg Int32.toInt c5
              refine lv_iconst (v := 1) hx hb dX12_neverIn_99 (by decide) ?_
              exact lab_100 1 a2_10 _ _ _ (show ((0 : Int) ≤ a3_10.toInt ∧ a3_10.toInt ≤ (59 : Int)) from by omega) (by decide) hP hD hS (lv_sub hl [0, 1, 3] rfl)
            · have gc5 : ¬ (a4_37.toInt = 0) := fun q0 => c5 (Int32.toInt_inj.mp q0)
              refine lv_iconst (v := 0) hx hb dX12_neverIn_95 (by decide) ?_
              refine lv_goto (tgt := 100) hx hb dX12_neverIn_96 (by decide) ?_
              exact lab_100 0 a2_10 _ _ _ (show ((0 : Int) ≤ a3_10.toInt ∧ a3_10.toInt ≤ (59 : Int)) from by omega) (by decide) hP hD hS (lv_sub hl [0, 1, 3] rfl)
          · have gc4 : ¬ (p1.toInt ≤ a5_37.toInt) := fun q0 => c4 ((tle _ _).mpr q0)
            refine lv_iload hx hb dX12_neverIn_43 (lv_at hl 4 rfl) ?_
            refine lv_if_ne (tgt := 76) hx hb dX12_neverIn_45 (by decide) (fun c6 => ?_) (fun c6 => ?_)
            · have gc6 : ¬ (a4_37.toInt = 0) := fun q0 => c6 (Int32.toInt_inj.mp q0)
              exact lab_76  _ _ _ (show ((0 : Int) ≤ a5_37.toInt ∧ a5_37.toInt ≤ (8 : Int)) from by omega) hP hD hS (lv_sub hl [0, 1, 2, 3, 5] rfl)
            · have gc6 : a4_37.toInt = 0 := congrArg Int32.toInt c6
              refine lv_aload_n hx hb dX12_neverIn_48 rfl (lv_at hl 0 rfl) ?_
              refine lv_aload_n hx hb dX12_neverIn_49 rfl (lv_at hl 0 rfl) ?_
              refine g_get F hK hP 0 (Wm_at0 G g q I0 J0 R0 L0) clX12 31 (by decide) flX12_107 rfl dX12_neverIn_50 ?_
              refine lv_iload_n hx hb dX12_neverIn_53 rfl (lv_at hl 3 rfl) ?_
              refine g_iald F hK hP 20 (Wm_at20 G g q I0 J0 R0 L0) (in_of (by omega)) dX12_neverIn_54 rfl ?_
              refine lv_topi (fun x7 ex7 => ?_)
              have gx7 : x7.toInt = (R0 16 (Int32.toNatClampNeg a3_10)).toInt := congrArg Int32.toInt (ex7)
              have fx7 : ((0 : Int) ≤ x7.toInt ∧ x7.toInt ≤ (11 : Int)) := by rw [ex7]; exact hvR 16 (by decide) _ (clamp_lt (n := 60) (in_of (by omega)))
              refine lv_iload hx hb dX12_neverIn_55 (lv_at hl 5 rfl) ?_
              refine wvi (As := [.int x7, .int a5_37]) (rest := []) (b := (g 45)) (d := 2) F hK hP hD hS hA (s_X12_turned l G g q I0 J0 R0 L0 hvI hvR  x7 a5_37 (show ((0 : Int) ≤ x7.toInt ∧ x7.toInt ≤ (11 : Int)) from by omega) (show ((0 : Int) ≤ a5_37.toInt ∧ a5_37.toInt ≤ (8 : Int)) from by omega)) kmV_X12_turned mlX12_611 clX12 rfl 0 (Wm_at0 G g q I0 J0 R0 L0) ⟨(Nat.le_of_ble_eq_true rfl), (Nat.le_of_ble_eq_true rfl)⟩ hl.1 rfl (Nat.le_of_ble_eq_true rfl) dX12_neverIn_57 (fun r8 u9 H locs hwr8 hP hD hS => ?_)
              refine lv_aload_n hx hb dX12_neverIn_60 rfl (lv_at hl 0 rfl) ?_
              refine lv_aload_n hx hb dX12_neverIn_61 rfl (lv_at hl 0 rfl) ?_
              refine g_get F hK hP 0 (Wm_at0 G g q I0 J0 R0 L0) clX12 32 (by decide) flX12_110 rfl dX12_neverIn_62 ?_
              refine lv_iload_n hx hb dX12_neverIn_65 rfl (lv_at hl 3 rfl) ?_
              refine g_iald F hK hP 21 (Wm_at21 G g q I0 J0 R0 L0) (in_of (by omega)) dX12_neverIn_66 rfl ?_
              refine lv_topi (fun x10 ex10 => ?_)
              have gx10 : x10.toInt = (R0 17 (Int32.toNatClampNeg a3_10)).toInt := congrArg Int32.toInt (ex10)
              have fx10 : ((0 : Int) ≤ x10.toInt ∧ x10.toInt ≤ (11 : Int)) := by rw [ex10]; exact hvR 17 (by decide) _ (clamp_lt (n := 60) (in_of (by omega)))
              refine lv_iload hx hb dX12_neverIn_67 (lv_at hl 5 rfl) ?_
              refine wvi (As := [.int x10, .int a5_37]) (rest := [.int r8]) (b := (g 45)) (d := 2) F hK hP hD hS hA (s_X12_turned l G g q I0 J0 R0 L0 hvI hvR  x10 a5_37 (show ((0 : Int) ≤ x10.toInt ∧ x10.toInt ≤ (11 : Int)) from by omega) (show ((0 : Int) ≤ a5_37.toInt ∧ a5_37.toInt ≤ (8 : Int)) from by omega)) kmV_X12_turned mlX12_611 clX12 rfl 0 (Wm_at0 G g q I0 J0 R0 L0) ⟨(Nat.le_of_ble_eq_true rfl), (Nat.le_of_ble_eq_true rfl)⟩ hl.1 rfl (Nat.le_of_ble_eq_true rfl) dX12_neverIn_69 (fun r11 u12 H locs hwr11 hP hD hS => ?_)
              refine lv_iand hx hb dX12_neverIn_72 ?_
              refine lv_topi (fun x13 ex13 => ?_)
              refine lv_if_eq (tgt := 80) hx hb dX12_neverIn_73 (by decide) (fun c14 => ?_) (fun c14 => ?_)
              · have gc14 : x13.toInt = 0 := congrArg Int32.toInt c14
                refine lv_iconst (v := 0) hx hb dX12_neverIn_80 (by decide) ?_
                exact lab_81 0 _ _ _ (show ((0 : Int) ≤ a5_37.toInt ∧ a5_37.toInt ≤ (8 : Int)) from by omega) (by decide) hP hD hS (lv_sub hl [0, 1, 2, 3, 5] rfl)
              · have gc14 : ¬ (x13.toInt = 0) := fun q0 => c14 (Int32.toInt_inj.mp q0)
                exact lab_76  _ _ _ (show ((0 : Int) ≤ a5_37.toInt ∧ a5_37.toInt ≤ (8 : Int)) from by omega) hP hD hS (lv_sub hl [0, 1, 2, 3, 5] rfl)
      refine lv_iload_n hx hb dX12_neverIn_10 rfl (lv_at hl 3 rfl) ?_
      refine lv_bipush (v := 30) hx hb dX12_neverIn_11 (by decide) ?_
      refine lv_aload_n hx hb dX12_neverIn_13 rfl (lv_at hl 0 rfl) ?_
      refine g_get F hK hP 0 (Wm_at0 G g q I0 J0 R0 L0) clX12 12 (by decide) flX12_48 rfl dX12_neverIn_14 ?_
      have w_I0_10 := rg (hvI0 10 (by decide)) (0) (1) rfl rfl
      refine lv_imul hx hb dX12_neverIn_17 ?_
      refine lv_topi (fun x15 ex15 => ?_)
      have fx15 : x15.toInt = 30 * (I0 10).toInt := by rw [ex15]; exact t_mul (by show (-2147483648 : Int) ≤ 30 * (I0 10).toInt; omega) (by show 30 * (I0 10).toInt ≤ 2147483647; omega)
      refine lv_aload_n hx hb dX12_neverIn_18 rfl (lv_at hl 0 rfl) ?_
      refine g_get F hK hP 0 (Wm_at0 G g q I0 J0 R0 L0) clX12 30 (by decide) flX12_104 rfl dX12_neverIn_19 ?_
      refine lv_aload_n hx hb dX12_neverIn_22 rfl (lv_at hl 0 rfl) ?_
      refine g_get F hK hP 0 (Wm_at0 G g q I0 J0 R0 L0) clX12 12 (by decide) flX12_48 rfl dX12_neverIn_23 ?_
      refine g_iald F hK hP 19 (Wm_at19 G g q I0 J0 R0 L0) (in_of (by omega)) dX12_neverIn_26 rfl ?_
      refine lv_topi (fun x16 ex16 => ?_)
      have gx16 : x16.toInt = (R0 15 (Int32.toNatClampNeg (I0 10))).toInt := congrArg Int32.toInt (ex16)
      have fx16 : ((0 : Int) ≤ x16.toInt ∧ x16.toInt ≤ (30 : Int)) := by rw [ex16]; exact hvR 15 (by decide) _ (clamp_lt (n := 2) (in_of (by omega)))
      refine lv_iadd hx hb dX12_neverIn_27 ?_
      refine lv_topi (fun x17 ex17 => ?_)
      have fx17 : x17.toInt = x15.toInt + x16.toInt := by rw [ex17]; exact t_add (by show (-2147483648 : Int) ≤ x15.toInt + x16.toInt; omega) (by show x15.toInt + x16.toInt ≤ 2147483647; omega)
      refine lv_icmp_ge (tgt := 108) hx hb dX12_neverIn_28 (by decide) (fun c18 => ?_) (fun c18 => ?_)
      · have gc18 : x17.toInt ≤ a3_10.toInt := (tle _ _).mp c18
        refine lv_iload_n hx hb dX12_neverIn_108 rfl (lv_at hl 2 rfl) ?_
        rw [hQ]
        exact q_i F hr hlk () hP hD hS trivial dX12_neverIn_109 (Nat.le_of_ble_eq_true rfl) (Nat.le_of_ble_eq_true rfl)
      · have gc18 : ¬ (x17.toInt ≤ a3_10.toInt) := fun q0 => c18 ((tle _ _).mpr q0)
        refine lv_iconst (v := 0) hx hb dX12_neverIn_31 (by decide) ?_
        refine lv_istore (lv' := [(4, .int 0), (0, .ref (g 45)), (1, .int p1), (2, .int a2_10), (3, .int a3_10)]) hx hb dX12_neverIn_32 hl (by decide) rfl (fun ls hl => ?_)
        refine lv_iconst (v := 0) hx hb dX12_neverIn_34 (by decide) ?_
        refine lv_istore (lv' := [(5, .int 0), (4, .int 0), (0, .ref (g 45)), (1, .int p1), (2, .int a2_10), (3, .int a3_10)]) hx hb dX12_neverIn_35 hl (by decide) rfl (fun ls hl => ?_)
        exact lab_37 10 0 0 _ _ _ (show (9 - 0) < ((10 : Nat) : Int) from by omega) (show ((0 : Int) ≤ a3_10.toInt ∧ a3_10.toInt ≤ (59 : Int)) from by omega) (by decide) (by decide) hP hD hS (lv_sub hl [2, 3, 4, 5, 1, 0] rfl)
  refine lv_iconst (v := 0) hx hb dX12_neverIn_0 (by decide) ?_
  refine lv_istore_n (lv' := [(2, .int 0), (0, .ref (g 45)), (1, .int p1)]) hx hb dX12_neverIn_1 rfl hl (by decide) rfl (fun ls hl => ?_)
  refine lv_bipush (v := 30) hx hb dX12_neverIn_2 (by decide) ?_
  refine lv_aload_n hx hb dX12_neverIn_4 rfl (lv_at hl 1 rfl) ?_
  refine g_get F hK hP 0 (Wm_at0 G g q I0 J0 R0 L0) clX12 12 (by decide) flX12_48 rfl dX12_neverIn_5 ?_
  have w_I0_10 := rg (hvI0 10 (by decide)) (0) (1) rfl rfl
  refine lv_imul hx hb dX12_neverIn_8 ?_
  refine lv_topi (fun x19 ex19 => ?_)
  have fx19 : x19.toInt = 30 * (I0 10).toInt := by rw [ex19]; exact t_mul (by show (-2147483648 : Int) ≤ 30 * (I0 10).toInt; omega) (by show 30 * (I0 10).toInt ≤ 2147483647; omega)
  refine lv_istore_n (lv' := [(3, .int x19), (2, .int 0), (0, .ref (g 45)), (1, .int p1)]) hx hb dX12_neverIn_9 rfl hl (by decide) rfl (fun ls hl => ?_)
  exact lab_10 61 0 x19 _ _ _ (show (60 - x19.toInt) < ((61 : Nat) : Int) from by omega) (show ((0 : Int) ≤ x19.toInt ∧ x19.toInt ≤ (60 : Int)) from by omega) hP hD hS (lv_sub hl [2, 3, 1, 0] rfl)
set_option maxHeartbeats 4000000 in
set_option maxRecDepth 100000 in
theorem s_X12_never (l : Launch) (G : Gx) (g q : Nat → Nat) (I0 : Nat → Int32) (J0 : Nat → Int64) (R0 : Nat → Nat → Int32) (L0 : Nat → Nat → Int64) (hvI : InvI Wm_lo Wm_hi I0) (hvR : InvR Wm_rl R0)  (p1 : Int32)  : CtI (S := Unit) l yX12_never cX12_never 2 (some .int) (rmD 4 0 0) G [.ref (g 45), .int p1] (Wm G g q I0 J0 R0 L0) (fun r _ => True) (fun _ => (Wm G g q I0 J0 R0 L0)) := by
  refine ctI_of (own := RX12) (by decide +kernel) rfl (Nat.le_of_ble_eq_true rfl) ?_
  intro p e s m below meth c A ls F hr hlk hnm hK hP hD hA hS hl
  have hx := F.1
  have hb := F.2.1
  have hown := F.2.2.2.1
  have hl : lv_has ls 2 [(0, .ref (g 45)), (1, .int p1)] := hl
  obtain ⟨Q, hQ⟩ : ∃ Q : State → Prop, Q = MQ below (va_Qi (S := Unit) (fun r _ => True) (BX G A (fun _ => (Wm G g q I0 J0 R0 L0))) A) [.ref (g 45), .int p1].toArray s 0 0 A := ⟨_, rfl⟩
  rw [show (MQ below (va_Qi (S := Unit) (fun r _ => True) (BX G A (fun _ => (Wm G g q I0 J0 R0 L0))) A) [.ref (g 45), .int p1].toArray s (rmD 4 0 0).cells (rmD 4 0 0).slots A) = Q from hQ.symm]
  have hvI0 := hvI
  refine lv_iload_n hx hb dX12_never_0 rfl (lv_at hl 1 rfl) ?_
  refine lv_iconst (v := 1) hx hb dX12_never_1 (by decide) ?_
  refine lv_bipush (v := 9) hx hb dX12_never_2 (by decide) ?_
  refine w0i (As := [.int p1, .int 1, .int 9]) (rest := []) (d := 1) F hK hP hD hS hA (s_X12_is l G  p1 1 9 (by decide) (by decide)) kmS_X12_is mlX12_316 ⟨(Nat.le_of_ble_eq_true rfl), (Nat.le_of_ble_eq_true rfl)⟩ hl.1 rfl (Nat.le_of_ble_eq_true rfl) dX12_never_4 (fun r1 u2 H locs hwr1 hP hD hS => ?_)
  obtain ⟨F0r1, F1r1⟩ := hwr1
  replace F0r1 : ((0 : Int) ≤ r1.toInt ∧ r1.toInt ≤ (1 : Int)) := F0r1
  replace F1r1 : (r1.toInt = 1 → ((1 : Int) ≤ p1.toInt ∧ p1.toInt ≤ (9 : Int))) := F1r1
  refine lv_if_eq (tgt := 18) hx hb dX12_never_7 (by decide) (fun c3 => ?_) (fun c3 => ?_)
  · have gc3 : r1.toInt = 0 := congrArg Int32.toInt c3
    refine lv_iconst (v := (-1)) hx hb dX12_never_18 (by decide) ?_
    rw [hQ]
    exact q_i F hr hlk () hP hD hS trivial dX12_never_19 (Nat.le_of_ble_eq_true rfl) (Nat.le_of_ble_eq_true rfl)
  · have gc3 : ¬ (r1.toInt = 0) := fun q0 => c3 (Int32.toInt_inj.mp q0)
    refine lv_aload_n hx hb dX12_never_10 rfl (lv_at hl 0 rfl) ?_
    refine lv_iload_n hx hb dX12_never_11 rfl (lv_at hl 1 rfl) ?_
    refine wvi (As := [.int p1]) (rest := []) (b := (g 45)) (d := 3) F hK hP hD hS hA (s_X12_neverIn l G g q I0 J0 R0 L0 hvI hvR  p1 (show ((1 : Int) ≤ p1.toInt ∧ p1.toInt ≤ (9 : Int)) from by omega)) kmV_X12_neverIn mlX12_614 clX12 rfl 0 (Wm_at0 G g q I0 J0 R0 L0) ⟨(Nat.le_of_ble_eq_true rfl), (Nat.le_of_ble_eq_true rfl)⟩ hl.1 rfl (Nat.le_of_ble_eq_true rfl) dX12_never_12 (fun r4 u5 H locs hwr4 hP hD hS => ?_)
    refine lv_goto (tgt := 19) hx hb dX12_never_15 (by decide) ?_
    rw [hQ]
    exact q_i F hr hlk () hP hD hS trivial dX12_never_19 (Nat.le_of_ble_eq_true rfl) (Nat.le_of_ble_eq_true rfl)
set_option maxHeartbeats 4000000 in
set_option maxRecDepth 100000 in
theorem s_X12_octet (l : Launch) (G : Gx) (g q : Nat → Nat) (I0 : Nat → Int32) (J0 : Nat → Int64) (R0 : Nat → Nat → Int32) (L0 : Nat → Nat → Int64) (hvI : InvI Wm_lo Wm_hi I0) (hvR : InvR Wm_rl R0)  (p1 : Int32)  : CtI (S := Unit) l yX12_octet cX12_octet 2 (some .int) (rmD 1 0 0) G [.ref (g 45), .int p1] (Wm G g q I0 J0 R0 L0) (fun r _ => True) (fun _ => (Wm G g q I0 J0 R0 L0)) := by
  refine ctI_of (own := RX12) (by decide +kernel) rfl (Nat.le_of_ble_eq_true rfl) ?_
  intro p e s m below meth c A ls F hr hlk hnm hK hP hD hA hS hl
  have hx := F.1
  have hb := F.2.1
  have hown := F.2.2.2.1
  have hl : lv_has ls 2 [(0, .ref (g 45)), (1, .int p1)] := hl
  obtain ⟨Q, hQ⟩ : ∃ Q : State → Prop, Q = MQ below (va_Qi (S := Unit) (fun r _ => True) (BX G A (fun _ => (Wm G g q I0 J0 R0 L0))) A) [.ref (g 45), .int p1].toArray s 0 0 A := ⟨_, rfl⟩
  rw [show (MQ below (va_Qi (S := Unit) (fun r _ => True) (BX G A (fun _ => (Wm G g q I0 J0 R0 L0))) A) [.ref (g 45), .int p1].toArray s (rmD 1 0 0).cells (rmD 1 0 0).slots A) = Q from hQ.symm]
  have hvI0 := hvI
  refine lv_iload_n hx hb dX12_octet_0 rfl (lv_at hl 1 rfl) ?_
  refine lv_if_lt (tgt := 21) hx hb dX12_octet_1 (by decide) (fun c1 => ?_) (fun c1 => ?_)
  · have gc1 : p1.toInt < 0 := (tlt _ _).mp c1
    refine lv_iconst (v := (-1)) hx hb dX12_octet_21 (by decide) ?_
    rw [hQ]
    exact q_i F hr hlk () hP hD hS trivial dX12_octet_22 (Nat.le_of_ble_eq_true rfl) (Nat.le_of_ble_eq_true rfl)
  · have gc1 : ¬ (p1.toInt < 0) := fun q0 => c1 ((tlt _ _).mpr q0)
    refine lv_iload_n hx hb dX12_octet_4 rfl (lv_at hl 1 rfl) ?_
    refine lv_aload_n hx hb dX12_octet_5 rfl (lv_at hl 0 rfl) ?_
    refine g_get F hK hP 0 (Wm_at0 G g q I0 J0 R0 L0) clX12 69 (by decide) flX12_222 rfl dX12_octet_6 ?_
    have w_I0_22 := rg (hvI0 22 (by decide)) (0) (16) rfl rfl
    refine lv_icmp_ge (tgt := 21) hx hb dX12_octet_9 (by decide) (fun c2 => ?_) (fun c2 => ?_)
    · have gc2 : (I0 22).toInt ≤ p1.toInt := (tle _ _).mp c2
      refine lv_iconst (v := (-1)) hx hb dX12_octet_21 (by decide) ?_
      rw [hQ]
      exact q_i F hr hlk () hP hD hS trivial dX12_octet_22 (Nat.le_of_ble_eq_true rfl) (Nat.le_of_ble_eq_true rfl)
    · have gc2 : ¬ ((I0 22).toInt ≤ p1.toInt) := fun q0 => c2 ((tle _ _).mpr q0)
      refine lv_aload_n hx hb dX12_octet_12 rfl (lv_at hl 0 rfl) ?_
      refine g_get F hK hP 0 (Wm_at0 G g q I0 J0 R0 L0) clX12 68 (by decide) flX12_219 rfl dX12_octet_13 ?_
      refine lv_iload_n hx hb dX12_octet_16 rfl (lv_at hl 1 rfl) ?_
      refine g_iald F hK hP 45 (Wm_at45 G g q I0 J0 R0 L0) (in_of (by omega)) dX12_octet_17 rfl ?_
      refine lv_topi (fun x3 ex3 => ?_)
      have gx3 : x3.toInt = (R0 39 (Int32.toNatClampNeg p1)).toInt := congrArg Int32.toInt (ex3)
      refine lv_goto (tgt := 22) hx hb dX12_octet_18 (by decide) ?_
      rw [hQ]
      exact q_i F hr hlk () hP hD hS trivial dX12_octet_22 (Nat.le_of_ble_eq_true rfl) (Nat.le_of_ble_eq_true rfl)
set_option maxHeartbeats 4000000 in
set_option maxRecDepth 100000 in
theorem s_X12_ownerIn (l : Launch) (G : Gx) (g q : Nat → Nat) (I0 : Nat → Int32) (J0 : Nat → Int64) (R0 : Nat → Nat → Int32) (L0 : Nat → Nat → Int64) (hvI : InvI Wm_lo Wm_hi I0) (hvR : InvR Wm_rl R0)  (p1 : Int32) (p2 : Int32) (hp1 : ((0 : Int) ≤ p1.toInt ∧ p1.toInt ≤ (4 : Int))) (hp2 : ((0 : Int) ≤ p2.toInt ∧ p2.toInt ≤ (4 : Int))) : CtI (S := Unit) l yX12_ownerIn cX12_ownerIn 4 (some .boolean) (rmD 2 0 0) G [.ref (g 45), .int p1, .int p2] (Wm G g q I0 J0 R0 L0) (fun r _ => ((0 : Int) ≤ r.toInt ∧ r.toInt ≤ (1 : Int))) (fun _ => (Wm G g q I0 J0 R0 L0)) := by
  refine ctI_of (own := RX12) (by decide +kernel) rfl (Nat.le_of_ble_eq_true rfl) ?_
  intro p e s m below meth c A ls F hr hlk hnm hK hP hD hA hS hl
  have hx := F.1
  have hb := F.2.1
  have hown := F.2.2.2.1
  have hl : lv_has ls 4 [(0, .ref (g 45)), (1, .int p1), (2, .int p2)] := hl
  obtain ⟨Q, hQ⟩ : ∃ Q : State → Prop, Q = MQ below (va_Qi (S := Unit) (fun r _ => ((0 : Int) ≤ r.toInt ∧ r.toInt ≤ (1 : Int))) (BX G A (fun _ => (Wm G g q I0 J0 R0 L0))) A) [.ref (g 45), .int p1, .int p2].toArray s 0 0 A := ⟨_, rfl⟩
  rw [show (MQ below (va_Qi (S := Unit) (fun r _ => ((0 : Int) ≤ r.toInt ∧ r.toInt ≤ (1 : Int))) (BX G A (fun _ => (Wm G g q I0 J0 R0 L0))) A) [.ref (g 45), .int p1, .int p2].toArray s (rmD 2 0 0).cells (rmD 2 0 0).slots A) = Q from hQ.symm]
  have hvI0 := hvI
  have lab_2 : ∀ (k_2 : Nat) (a3_2 : Int32) (H : Heap) (locs : List Loc) (ls : Array Slot), ((12 - a3_2.toInt) < (k_2 : Int)) → ((0 : Int) ≤ a3_2.toInt ∧ a3_2.toInt ≤ (12 : Int)) → va_P G.1 vwCl (Wm G g q I0 J0 R0 L0) H → va_D A (Wm G g q I0 J0 R0 L0) → va_S A s.heap H locs → lv_has ls 4 [(0, .ref (g 45)), (1, .int p1), (2, .int p2), (3, .int a3_2)] → W p l e (rmD 2 0 0) s m [.ref (g 45), .int p1, .int p2].toArray below meth c H locs 0 0 Q (F0 m 2 ls []) := by
    intro k_2
    induction k_2 with
    | zero =>
      intro a3_2 H locs ls hm y0_2 hP hD hS hl
      exact absurd hm (by omega)
    | succ k_2 ih_2 =>
      intro a3_2 H locs ls hm y0_2 hP hD hS hl
      have lab_35 : ∀  (H : Heap) (locs : List Loc) (ls : Array Slot), ((0 : Int) ≤ a3_2.toInt ∧ a3_2.toInt ≤ (11 : Int)) → va_P G.1 vwCl (Wm G g q I0 J0 R0 L0) H → va_D A (Wm G g q I0 J0 R0 L0) → va_S A s.heap H locs → lv_has ls 4 [(0, .ref (g 45)), (1, .int p1), (2, .int p2), (3, .int a3_2)] → W p l e (rmD 2 0 0) s m [.ref (g 45), .int p1, .int p2].toArray below meth c H locs 0 0 Q (F0 m 35 ls []) := by
        intro H locs ls y0_35 hP hD hS hl
        obtain ⟨x1, ex1⟩ : ∃ y : Int32, y = a3_2 + 1 := ⟨_, rfl⟩
        have fx1 : x1.toInt = a3_2.toInt + (1 : Int) := by rw [ex1]; exact t_add (by show (-2147483648 : Int) ≤ a3_2.toInt + (1 : Int); omega) (by show a3_2.toInt + (1 : Int) ≤ 2147483647; omega)
        refine lv_iinc (v := x1) (lv' := [(3, .int x1), (0, .ref (g 45)), (1, .int p1), (2, .int p2)]) hx hb dX12_ownerIn_35 hl (k := 3) rfl (by rw [ex1]; rfl) (by decide) rfl (fun ls hl => ?_)
        refine lv_goto (tgt := 2) hx hb dX12_ownerIn_38 (by decide) ?_
        exact ih_2 x1 _ _ _ (show (12 - x1.toInt) < (k_2 : Int) from by omega) (show ((0 : Int) ≤ x1.toInt ∧ x1.toInt ≤ (12 : Int)) from by omega) hP hD hS (lv_sub hl [1, 2, 3, 0] rfl)
      refine lv_iload_n hx hb dX12_ownerIn_2 rfl (lv_at hl 3 rfl) ?_
      refine lv_aload_n hx hb dX12_ownerIn_3 rfl (lv_at hl 0 rfl) ?_
      refine g_get F hK hP 0 (Wm_at0 G g q I0 J0 R0 L0) clX12 21 (by decide) flX12_77 rfl dX12_ownerIn_4 ?_
      refine lv_aload_n hx hb dX12_ownerIn_7 rfl (lv_at hl 0 rfl) ?_
      refine g_get F hK hP 0 (Wm_at0 G g q I0 J0 R0 L0) clX12 12 (by decide) flX12_48 rfl dX12_ownerIn_8 ?_
      have w_I0_10 := rg (hvI0 10 (by decide)) (0) (1) rfl rfl
      refine g_iald F hK hP 10 (Wm_at10 G g q I0 J0 R0 L0) (in_of (by omega)) dX12_ownerIn_11 rfl ?_
      refine lv_topi (fun x2 ex2 => ?_)
      have gx2 : x2.toInt = (R0 7 (Int32.toNatClampNeg (I0 10))).toInt := congrArg Int32.toInt (ex2)
      have fx2 : ((0 : Int) ≤ x2.toInt ∧ x2.toInt ≤ (12 : Int)) := by rw [ex2]; exact hvR 7 (by decide) _ (clamp_lt (n := 2) (in_of (by omega)))
      refine lv_icmp_ge (tgt := 41) hx hb dX12_ownerIn_12 (by decide) (fun c3 => ?_) (fun c3 => ?_)
      · have gc3 : x2.toInt ≤ a3_2.toInt := (tle _ _).mp c3
        refine lv_iconst (v := 0) hx hb dX12_ownerIn_41 (by decide) ?_
        rw [hQ]
        exact q_z F hr hlk () hP hD hS (show ((0 : Int) ≤ 0 ∧ 0 ≤ (1 : Int)) from by omega) dX12_ownerIn_42 (Nat.le_of_ble_eq_true rfl) (Nat.le_of_ble_eq_true rfl) (nar01 (by decide))
      · have gc3 : ¬ (x2.toInt ≤ a3_2.toInt) := fun q0 => c3 ((tle _ _).mpr q0)
        refine lv_aload_n hx hb dX12_ownerIn_15 rfl (lv_at hl 0 rfl) ?_
        refine lv_iload_n hx hb dX12_ownerIn_16 rfl (lv_at hl 3 rfl) ?_
        refine wvi (As := [.int a3_2]) (rest := []) (b := (g 45)) (d := 1) F hK hP hD hS hA (s_X12_floorOf l G g q I0 J0 R0 L0 hvI hvR  a3_2 (show ((0 : Int) ≤ a3_2.toInt ∧ a3_2.toInt ≤ (11 : Int)) from by omega)) kmV_X12_floorOf mlX12_451 clX12 rfl 0 (Wm_at0 G g q I0 J0 R0 L0) ⟨(Nat.le_of_ble_eq_true rfl), (Nat.le_of_ble_eq_true rfl)⟩ hl.1 rfl (Nat.le_of_ble_eq_true rfl) dX12_ownerIn_17 (fun r4 u5 H locs hwr4 hP hD hS => ?_)
        have F0r4 := hwr4
        replace F0r4 : ((-1 : Int) ≤ r4.toInt ∧ r4.toInt ≤ (4 : Int)) := F0r4
        refine lv_iload_n hx hb dX12_ownerIn_20 rfl (lv_at hl 1 rfl) ?_
        refine lv_icmp_ne (tgt := 35) hx hb dX12_ownerIn_21 (by decide) (fun c6 => ?_) (fun c6 => ?_)
        · have gc6 : ¬ (r4.toInt = p1.toInt) := fun q0 => c6 (Int32.toInt_inj.mp q0)
          exact lab_35  _ _ _ (show ((0 : Int) ≤ a3_2.toInt ∧ a3_2.toInt ≤ (11 : Int)) from by omega) hP hD hS (lv_sub hl [0, 1, 2, 3] rfl)
        · have gc6 : r4.toInt = p1.toInt := congrArg Int32.toInt c6
          refine lv_aload_n hx hb dX12_ownerIn_24 rfl (lv_at hl 0 rfl) ?_
          refine lv_iload_n hx hb dX12_ownerIn_25 rfl (lv_at hl 3 rfl) ?_
          refine lv_iload_n hx hb dX12_ownerIn_26 rfl (lv_at hl 2 rfl) ?_
          refine wvi (As := [.int a3_2, .int p2]) (rest := []) (b := (g 45)) (d := 1) F hK hP hD hS hA (s_X12_isIn l G g q I0 J0 R0 L0 hvI hvR  a3_2 p2 (show ((0 : Int) ≤ a3_2.toInt ∧ a3_2.toInt ≤ (11 : Int)) from by omega) (show ((0 : Int) ≤ p2.toInt ∧ p2.toInt ≤ (4 : Int)) from by omega)) kmV_X12_isIn mlX12_479 clX12 rfl 0 (Wm_at0 G g q I0 J0 R0 L0) ⟨(Nat.le_of_ble_eq_true rfl), (Nat.le_of_ble_eq_true rfl)⟩ hl.1 rfl (Nat.le_of_ble_eq_true rfl) dX12_ownerIn_27 (fun r7 u8 H locs hwr7 hP hD hS => ?_)
          have F0r7 := hwr7
          replace F0r7 : ((0 : Int) ≤ r7.toInt ∧ r7.toInt ≤ (1 : Int)) := F0r7
          refine lv_if_eq (tgt := 35) hx hb dX12_ownerIn_30 (by decide) (fun c9 => ?_) (fun c9 => ?_)
          · have gc9 : r7.toInt = 0 := congrArg Int32.toInt c9
            exact lab_35  _ _ _ (show ((0 : Int) ≤ a3_2.toInt ∧ a3_2.toInt ≤ (11 : Int)) from by omega) hP hD hS (lv_sub hl [0, 1, 2, 3] rfl)
          · have gc9 : ¬ (r7.toInt = 0) := fun q0 => c9 (Int32.toInt_inj.mp q0)
            refine lv_iconst (v := 1) hx hb dX12_ownerIn_33 (by decide) ?_
            rw [hQ]
            exact q_z F hr hlk () hP hD hS (show ((0 : Int) ≤ 1 ∧ 1 ≤ (1 : Int)) from by omega) dX12_ownerIn_34 (Nat.le_of_ble_eq_true rfl) (Nat.le_of_ble_eq_true rfl) (nar01 (by decide))
  refine lv_iconst (v := 0) hx hb dX12_ownerIn_0 (by decide) ?_
  refine lv_istore_n (lv' := [(3, .int 0), (0, .ref (g 45)), (1, .int p1), (2, .int p2)]) hx hb dX12_ownerIn_1 rfl hl (by decide) rfl (fun ls hl => ?_)
  exact lab_2 13 0 _ _ _ (show (12 - 0) < ((13 : Nat) : Int) from by omega) (by decide) hP hD hS (lv_sub hl [1, 2, 3, 0] rfl)
set_option maxHeartbeats 4000000 in
set_option maxRecDepth 100000 in
theorem s_X12_suiting (l : Launch) (G : Gx) (g q : Nat → Nat) (I0 : Nat → Int32) (J0 : Nat → Int64) (R0 : Nat → Nat → Int32) (L0 : Nat → Nat → Int64) (hvI : InvI Wm_lo Wm_hi I0) (hvR : InvR Wm_rl R0)  (p1 : Int32) (hp1 : ((0 : Int) ≤ p1.toInt ∧ p1.toInt ≤ (11 : Int))) : CtI (S := Unit) l yX12_suiting cX12_suiting 4 (some .int) (rmD 3 0 0) G [.ref (g 45), .int p1] (Wm G g q I0 J0 R0 L0) (fun r _ => True) (fun _ => (Wm G g q I0 J0 R0 L0)) := by
  refine ctI_of (own := RX12) (by decide +kernel) rfl (Nat.le_of_ble_eq_true rfl) ?_
  intro p e s m below meth c A ls F hr hlk hnm hK hP hD hA hS hl
  have hx := F.1
  have hb := F.2.1
  have hown := F.2.2.2.1
  have hl : lv_has ls 4 [(0, .ref (g 45)), (1, .int p1)] := hl
  obtain ⟨Q, hQ⟩ : ∃ Q : State → Prop, Q = MQ below (va_Qi (S := Unit) (fun r _ => True) (BX G A (fun _ => (Wm G g q I0 J0 R0 L0))) A) [.ref (g 45), .int p1].toArray s 0 0 A := ⟨_, rfl⟩
  rw [show (MQ below (va_Qi (S := Unit) (fun r _ => True) (BX G A (fun _ => (Wm G g q I0 J0 R0 L0))) A) [.ref (g 45), .int p1].toArray s (rmD 3 0 0).cells (rmD 3 0 0).slots A) = Q from hQ.symm]
  have hvI0 := hvI
  have lab_4 : ∀ (k_4 : Nat) (a2_4 : Int32) (a3_4 : Int32) (H : Heap) (locs : List Loc) (ls : Array Slot), ((32 - a3_4.toInt) < (k_4 : Int)) → ((0 : Int) ≤ a3_4.toInt ∧ a3_4.toInt ≤ (32 : Int)) → va_P G.1 vwCl (Wm G g q I0 J0 R0 L0) H → va_D A (Wm G g q I0 J0 R0 L0) → va_S A s.heap H locs → lv_has ls 4 [(0, .ref (g 45)), (1, .int p1), (2, .int a2_4), (3, .int a3_4)] → W p l e (rmD 3 0 0) s m [.ref (g 45), .int p1].toArray below meth c H locs 0 0 Q (F0 m 4 ls []) := by
    intro k_4
    induction k_4 with
    | zero =>
      intro a2_4 a3_4 H locs ls hm y0_4 hP hD hS hl
      exact absurd hm (by omega)
    | succ k_4 ih_4 =>
      intro a2_4 a3_4 H locs ls hm y0_4 hP hD hS hl
      have lab_25 : ∀ (b0_25 : Int32) (b1_25 : Int32) (H : Heap) (locs : List Loc) (ls : Array Slot), ((0 : Int) ≤ a3_4.toInt ∧ a3_4.toInt ≤ (31 : Int)) → ((0 : Int) ≤ b0_25.toInt ∧ b0_25.toInt ≤ (1 : Int)) → va_P G.1 vwCl (Wm G g q I0 J0 R0 L0) H → va_D A (Wm G g q I0 J0 R0 L0) → va_S A s.heap H locs → lv_has ls 4 [(0, .ref (g 45)), (1, .int p1), (3, .int a3_4)] → W p l e (rmD 3 0 0) s m [.ref (g 45), .int p1].toArray below meth c H locs 0 0 Q (F0 m 25 ls [.int b0_25, .int b1_25]) := by
        intro b0_25 b1_25 H locs ls y0_25 y1_25 hP hD hS hl
        refine lv_iadd hx hb dX12_suiting_25 ?_
        refine lv_topi (fun x1 ex1 => ?_)
        refine lv_istore_n (lv' := [(2, .int x1), (0, .ref (g 45)), (1, .int p1), (3, .int a3_4)]) hx hb dX12_suiting_26 rfl hl (by decide) rfl (fun ls hl => ?_)
        obtain ⟨x2, ex2⟩ : ∃ y : Int32, y = a3_4 + 1 := ⟨_, rfl⟩
        have fx2 : x2.toInt = a3_4.toInt + (1 : Int) := by rw [ex2]; exact t_add (by show (-2147483648 : Int) ≤ a3_4.toInt + (1 : Int); omega) (by show a3_4.toInt + (1 : Int) ≤ 2147483647; omega)
        refine lv_iinc (v := x2) (lv' := [(3, .int x2), (2, .int x1), (0, .ref (g 45)), (1, .int p1)]) hx hb dX12_suiting_27 hl (k := 3) rfl (by rw [ex2]; rfl) (by decide) rfl (fun ls hl => ?_)
        refine lv_goto (tgt := 4) hx hb dX12_suiting_30 (by decide) ?_
        exact ih_4 x1 x2 _ _ _ (show (32 - x2.toInt) < (k_4 : Int) from by omega) (show ((0 : Int) ≤ x2.toInt ∧ x2.toInt ≤ (32 : Int)) from by omega) hP hD hS (lv_sub hl [2, 3, 1, 0] rfl)
      refine lv_iload_n hx hb dX12_suiting_4 rfl (lv_at hl 3 rfl) ?_
      refine lv_bipush (v := 32) hx hb dX12_suiting_5 (by decide) ?_
      refine lv_icmp_ge (tgt := 33) hx hb dX12_suiting_7 (by decide) (fun c3 => ?_) (fun c3 => ?_)
      · have gc3 : 32 ≤ a3_4.toInt := (tle _ _).mp c3
        refine lv_iload_n hx hb dX12_suiting_33 rfl (lv_at hl 2 rfl) ?_
        rw [hQ]
        exact q_i F hr hlk () hP hD hS trivial dX12_suiting_34 (Nat.le_of_ble_eq_true rfl) (Nat.le_of_ble_eq_true rfl)
      · have gc3 : ¬ (32 ≤ a3_4.toInt) := fun q0 => c3 ((tle _ _).mpr q0)
        refine lv_iload_n hx hb dX12_suiting_10 rfl (lv_at hl 2 rfl) ?_
        refine lv_aload_n hx hb dX12_suiting_11 rfl (lv_at hl 0 rfl) ?_
        refine lv_iload_n hx hb dX12_suiting_12 rfl (lv_at hl 1 rfl) ?_
        refine lv_iload_n hx hb dX12_suiting_13 rfl (lv_at hl 3 rfl) ?_
        refine wvi (As := [.int p1, .int a3_4]) (rest := [.int a2_4]) (b := (g 45)) (d := 2) F hK hP hD hS hA (s_X12_suits l G g q I0 J0 R0 L0 hvI hvR  p1 a3_4 (show ((0 : Int) ≤ p1.toInt ∧ p1.toInt ≤ (11 : Int)) from by omega)) kmV_X12_suits mlX12_472 clX12 rfl 0 (Wm_at0 G g q I0 J0 R0 L0) ⟨(Nat.le_of_ble_eq_true rfl), (Nat.le_of_ble_eq_true rfl)⟩ hl.1 rfl (Nat.le_of_ble_eq_true rfl) dX12_suiting_14 (fun r4 u5 H locs hwr4 hP hD hS => ?_)
        have F0r4 := hwr4
        replace F0r4 : ((0 : Int) ≤ r4.toInt ∧ r4.toInt ≤ (1 : Int)) := F0r4
        refine lv_if_eq (tgt := 24) hx hb dX12_suiting_17 (by decide) (fun c6 => ?_) (fun c6 => ?_)
        · have gc6 : r4.toInt = 0 := congrArg Int32.toInt c6
          refine lv_iconst (v := 0) hx hb dX12_suiting_24 (by decide) ?_
          exact lab_25 0 a2_4 _ _ _ (show ((0 : Int) ≤ a3_4.toInt ∧ a3_4.toInt ≤ (31 : Int)) from by omega) (by decide) hP hD hS (lv_sub hl [0, 1, 3] rfl)
        · have gc6 : ¬ (r4.toInt = 0) := fun q0 => c6 (Int32.toInt_inj.mp q0)
          refine lv_iconst (v := 1) hx hb dX12_suiting_20 (by decide) ?_
          refine lv_goto (tgt := 25) hx hb dX12_suiting_21 (by decide) ?_
          exact lab_25 1 a2_4 _ _ _ (show ((0 : Int) ≤ a3_4.toInt ∧ a3_4.toInt ≤ (31 : Int)) from by omega) (by decide) hP hD hS (lv_sub hl [0, 1, 3] rfl)
  refine lv_iconst (v := 0) hx hb dX12_suiting_0 (by decide) ?_
  refine lv_istore_n (lv' := [(2, .int 0), (0, .ref (g 45)), (1, .int p1)]) hx hb dX12_suiting_1 rfl hl (by decide) rfl (fun ls hl => ?_)
  refine lv_iconst (v := 0) hx hb dX12_suiting_2 (by decide) ?_
  refine lv_istore_n (lv' := [(3, .int 0), (2, .int 0), (0, .ref (g 45)), (1, .int p1)]) hx hb dX12_suiting_3 rfl hl (by decide) rfl (fun ls hl => ?_)
  exact lab_4 33 0 0 _ _ _ (show (32 - 0) < ((33 : Nat) : Int) from by omega) (by decide) hP hD hS (lv_sub hl [2, 3, 1, 0] rfl)
set_option maxHeartbeats 4000000 in
set_option maxRecDepth 100000 in
theorem s_X12_person_ (l : Launch) (G : Gx) (g q : Nat → Nat) (I0 : Nat → Int32) (J0 : Nat → Int64) (R0 : Nat → Nat → Int32) (L0 : Nat → Nat → Int64) (hvI : InvI Wm_lo Wm_hi I0) (hvR : InvR Wm_rl R0)  (p1 : Int32) (p2 : Int32)  : CtI (S := Unit) l yX12_person_ cX12_person_ 4 (some .int) (rmD 4 0 0) G [.ref (g 45), .int p1, .int p2] (Wm G g q I0 J0 R0 L0) (fun r _ => True) (fun _ => (Wm G g q I0 J0 R0 L0)) := by
  refine ctI_of (own := RX12) (by decide +kernel) rfl (Nat.le_of_ble_eq_true rfl) ?_
  intro p e s m below meth c A ls F hr hlk hnm hK hP hD hA hS hl
  have hx := F.1
  have hb := F.2.1
  have hown := F.2.2.2.1
  have hl : lv_has ls 4 [(0, .ref (g 45)), (1, .int p1), (2, .int p2)] := hl
  obtain ⟨Q, hQ⟩ : ∃ Q : State → Prop, Q = MQ below (va_Qi (S := Unit) (fun r _ => True) (BX G A (fun _ => (Wm G g q I0 J0 R0 L0))) A) [.ref (g 45), .int p1, .int p2].toArray s 0 0 A := ⟨_, rfl⟩
  rw [show (MQ below (va_Qi (S := Unit) (fun r _ => True) (BX G A (fun _ => (Wm G g q I0 J0 R0 L0))) A) [.ref (g 45), .int p1, .int p2].toArray s (rmD 4 0 0).cells (rmD 4 0 0).slots A) = Q from hQ.symm]
  have hvI0 := hvI
  refine lv_aload_n hx hb dX12_person__0 rfl (lv_at hl 0 rfl) ?_
  refine lv_iload_n hx hb dX12_person__1 rfl (lv_at hl 1 rfl) ?_
  refine wvi (As := [.int p1]) (rest := []) (b := (g 45)) (d := 2) F hK hP hD hS hA (s_X12_isPerson l G g q I0 J0 R0 L0 hvI hvR  p1 ) kmV_X12_isPerson mlX12_466 clX12 rfl 0 (Wm_at0 G g q I0 J0 R0 L0) ⟨(Nat.le_of_ble_eq_true rfl), (Nat.le_of_ble_eq_true rfl)⟩ hl.1 rfl (Nat.le_of_ble_eq_true rfl) dX12_person__2 (fun r1 u2 H locs hwr1 hP hD hS => ?_)
  obtain ⟨F0r1, F1r1⟩ := hwr1
  replace F0r1 : ((0 : Int) ≤ r1.toInt ∧ r1.toInt ≤ (1 : Int)) := F0r1
  replace F1r1 : (r1.toInt = 1 → (0 ≤ p1.toInt ∧ p1.toInt ≤ 11)) := F1r1
  refine lv_if_ne (tgt := 10) hx hb dX12_person__5 (by decide) (fun c3 => ?_) (fun c3 => ?_)
  · have gc3 : ¬ (r1.toInt = 0) := fun q0 => c3 (Int32.toInt_inj.mp q0)
    refine lv_bipush (v := 12) hx hb dX12_person__10 (by decide) ?_
    refine lv_aload_n hx hb dX12_person__12 rfl (lv_at hl 0 rfl) ?_
    refine g_get F hK hP 0 (Wm_at0 G g q I0 J0 R0 L0) clX12 12 (by decide) flX12_48 rfl dX12_person__13 ?_
    have w_I0_10 := rg (hvI0 10 (by decide)) (0) (1) rfl rfl
    refine lv_imul hx hb dX12_person__16 ?_
    refine lv_topi (fun x4 ex4 => ?_)
    have fx4 : x4.toInt = 12 * (I0 10).toInt := by rw [ex4]; exact t_mul (by show (-2147483648 : Int) ≤ 12 * (I0 10).toInt; omega) (by show 12 * (I0 10).toInt ≤ 2147483647; omega)
    refine lv_iload_n hx hb dX12_person__17 rfl (lv_at hl 1 rfl) ?_
    refine lv_iadd hx hb dX12_person__18 ?_
    refine lv_topi (fun x5 ex5 => ?_)
    have fx5 : x5.toInt = x4.toInt + p1.toInt := by rw [ex5]; exact t_add (by show (-2147483648 : Int) ≤ x4.toInt + p1.toInt; omega) (by show x4.toInt + p1.toInt ≤ 2147483647; omega)
    refine lv_istore_n (lv' := [(3, .int x5), (0, .ref (g 45)), (1, .int p1), (2, .int p2)]) hx hb dX12_person__19 rfl hl (by decide) rfl (fun ls hl => ?_)
    refine lv_iload_n hx hb dX12_person__20 rfl (lv_at hl 3 rfl) ?_
    by_cases h6 : p2 = 0
    · have gh6 : p2.toInt = 0 := congrArg Int32.toInt h6
      refine cst_i h6 ?_
      refine lv_tableIn (off := 47) (tgt := 68) hx hb dX12_person__21 (by decide) (by decide) rfl (by decide) ?_
      refine lv_aload_n hx hb dX12_person__68 rfl (lv_at hl 1 rfl) ?_
      refine g_get F hK hP 0 (Wm_at0 G g q I0 J0 R0 L0) clX12 23 (by decide) flX12_83 rfl dX12_person__69 ?_
      refine lv_iload_n hx hb dX12_person__72 rfl (lv_at hl 0 rfl) ?_
      refine g_iald F hK hP 12 (Wm_at12 G g q I0 J0 R0 L0) (in_of (by omega)) dX12_person__73 rfl ?_
      refine lv_topi (fun x7 ex7 => ?_)
      have gx7 : x7.toInt = (R0 8 (Int32.toNatClampNeg x5)).toInt := congrArg Int32.toInt (ex7)
      have fx7 : ((0 : Int) ≤ x7.toInt ∧ x7.toInt ≤ (5 : Int)) := by rw [ex7]; exact hvR 8 (by decide) _ (clamp_lt (n := 24) (in_of (by omega)))
      rw [hQ]
      exact q_i F hr hlk () hP hD hS trivial dX12_person__74 (Nat.le_of_ble_eq_true rfl) (Nat.le_of_ble_eq_true rfl)
    by_cases h8 : p2 = 1
    · have gh8 : p2.toInt = 1 := congrArg Int32.toInt h8
      refine cst_i h8 ?_
      refine lv_tableIn (off := 54) (tgt := 75) hx hb dX12_person__21 (by decide) (by decide) rfl (by decide) ?_
      refine lv_aload_n hx hb dX12_person__75 rfl (lv_at hl 1 rfl) ?_
      refine g_get F hK hP 0 (Wm_at0 G g q I0 J0 R0 L0) clX12 24 (by decide) flX12_86 rfl dX12_person__76 ?_
      refine lv_iload_n hx hb dX12_person__79 rfl (lv_at hl 0 rfl) ?_
      refine g_iald F hK hP 13 (Wm_at13 G g q I0 J0 R0 L0) (in_of (by omega)) dX12_person__80 rfl ?_
      refine lv_topi (fun x9 ex9 => ?_)
      have gx9 : x9.toInt = (R0 9 (Int32.toNatClampNeg x5)).toInt := congrArg Int32.toInt (ex9)
      rw [hQ]
      exact q_i F hr hlk () hP hD hS trivial dX12_person__81 (Nat.le_of_ble_eq_true rfl) (Nat.le_of_ble_eq_true rfl)
    by_cases h10 : p2 = 2
    · have gh10 : p2.toInt = 2 := congrArg Int32.toInt h10
      refine cst_i h10 ?_
      refine lv_tableIn (off := 61) (tgt := 82) hx hb dX12_person__21 (by decide) (by decide) rfl (by decide) ?_
      refine lv_aload_n hx hb dX12_person__82 rfl (lv_at hl 1 rfl) ?_
      refine g_get F hK hP 0 (Wm_at0 G g q I0 J0 R0 L0) clX12 25 (by decide) flX12_89 rfl dX12_person__83 ?_
      refine lv_iload_n hx hb dX12_person__86 rfl (lv_at hl 0 rfl) ?_
      refine g_iald F hK hP 14 (Wm_at14 G g q I0 J0 R0 L0) (in_of (by omega)) dX12_person__87 rfl ?_
      refine lv_topi (fun x11 ex11 => ?_)
      have gx11 : x11.toInt = (R0 10 (Int32.toNatClampNeg x5)).toInt := congrArg Int32.toInt (ex11)
      rw [hQ]
      exact q_i F hr hlk () hP hD hS trivial dX12_person__88 (Nat.le_of_ble_eq_true rfl) (Nat.le_of_ble_eq_true rfl)
    by_cases h12 : p2 = 3
    · have gh12 : p2.toInt = 3 := congrArg Int32.toInt h12
      refine cst_i h12 ?_
      refine lv_tableIn (off := 68) (tgt := 89) hx hb dX12_person__21 (by decide) (by decide) rfl (by decide) ?_
      refine lv_aload_n hx hb dX12_person__89 rfl (lv_at hl 1 rfl) ?_
      refine g_get F hK hP 0 (Wm_at0 G g q I0 J0 R0 L0) clX12 27 (by decide) flX12_95 rfl dX12_person__90 ?_
      refine lv_iload_n hx hb dX12_person__93 rfl (lv_at hl 0 rfl) ?_
      refine g_iald F hK hP 16 (Wm_at16 G g q I0 J0 R0 L0) (in_of (by omega)) dX12_person__94 rfl ?_
      refine lv_topi (fun x13 ex13 => ?_)
      have gx13 : x13.toInt = (R0 12 (Int32.toNatClampNeg x5)).toInt := congrArg Int32.toInt (ex13)
      rw [hQ]
      exact q_i F hr hlk () hP hD hS trivial dX12_person__95 (Nat.le_of_ble_eq_true rfl) (Nat.le_of_ble_eq_true rfl)
    by_cases h14 : p2 = 4
    · have gh14 : p2.toInt = 4 := congrArg Int32.toInt h14
      refine cst_i h14 ?_
      refine lv_tableIn (off := 75) (tgt := 96) hx hb dX12_person__21 (by decide) (by decide) rfl (by decide) ?_
      refine lv_aload_n hx hb dX12_person__96 rfl (lv_at hl 1 rfl) ?_
      refine g_get F hK hP 0 (Wm_at0 G g q I0 J0 R0 L0) clX12 28 (by decide) flX12_98 rfl dX12_person__97 ?_
      refine lv_iload_n hx hb dX12_person__100 rfl (lv_at hl 0 rfl) ?_
      refine g_iald F hK hP 17 (Wm_at17 G g q I0 J0 R0 L0) (in_of (by omega)) dX12_person__101 rfl ?_
      refine lv_topi (fun x15 ex15 => ?_)
      have gx15 : x15.toInt = (R0 13 (Int32.toNatClampNeg x5)).toInt := congrArg Int32.toInt (ex15)
      have fx15 : ((-1 : Int) ≤ x15.toInt ∧ x15.toInt ≤ (4 : Int)) := by rw [ex15]; exact hvR 13 (by decide) _ (clamp_lt (n := 24) (in_of (by omega)))
      rw [hQ]
      exact q_i F hr hlk () hP hD hS trivial dX12_person__102 (Nat.le_of_ble_eq_true rfl) (Nat.le_of_ble_eq_true rfl)
    by_cases h16 : p2 = 5
    · have gh16 : p2.toInt = 5 := congrArg Int32.toInt h16
      refine cst_i h16 ?_
      refine lv_tableIn (off := 82) (tgt := 103) hx hb dX12_person__21 (by decide) (by decide) rfl (by decide) ?_
      refine lv_aload_n hx hb dX12_person__103 rfl (lv_at hl 1 rfl) ?_
      refine g_get F hK hP 0 (Wm_at0 G g q I0 J0 R0 L0) clX12 29 (by decide) flX12_101 rfl dX12_person__104 ?_
      refine lv_iload_n hx hb dX12_person__107 rfl (lv_at hl 0 rfl) ?_
      refine g_iald F hK hP 18 (Wm_at18 G g q I0 J0 R0 L0) (in_of (by omega)) dX12_person__108 rfl ?_
      refine lv_topi (fun x17 ex17 => ?_)
      have gx17 : x17.toInt = (R0 14 (Int32.toNatClampNeg x5)).toInt := congrArg Int32.toInt (ex17)
      rw [hQ]
      exact q_i F hr hlk () hP hD hS trivial dX12_person__109 (Nat.le_of_ble_eq_true rfl) (Nat.le_of_ble_eq_true rfl)
    by_cases h18 : p2 = 6
    · have gh18 : p2.toInt = 6 := congrArg Int32.toInt h18
      refine cst_i h18 ?_
      refine lv_tableIn (off := 89) (tgt := 110) hx hb dX12_person__21 (by decide) (by decide) rfl (by decide) ?_
      refine lv_aload_n hx hb dX12_person__110 rfl (lv_at hl 1 rfl) ?_
      refine g_get F hK hP 0 (Wm_at0 G g q I0 J0 R0 L0) clX12 58 (by decide) flX12_189 rfl dX12_person__111 ?_
      refine lv_iload_n hx hb dX12_person__114 rfl (lv_at hl 2 rfl) ?_
      refine g_iald F hK hP 41 (Wm_at41 G g q I0 J0 R0 L0) (in_of (by omega)) dX12_person__115 rfl ?_
      refine lv_topi (fun x19 ex19 => ?_)
      have gx19 : x19.toInt = (R0 36 (Int32.toNatClampNeg p1)).toInt := congrArg Int32.toInt (ex19)
      rw [hQ]
      exact q_i F hr hlk () hP hD hS trivial dX12_person__116 (Nat.le_of_ble_eq_true rfl) (Nat.le_of_ble_eq_true rfl)
    by_cases h20 : p2 = 7
    · have gh20 : p2.toInt = 7 := congrArg Int32.toInt h20
      refine cst_i h20 ?_
      refine lv_tableIn (off := 96) (tgt := 117) hx hb dX12_person__21 (by decide) (by decide) rfl (by decide) ?_
      refine lv_aload_n hx hb dX12_person__117 rfl (lv_at hl 1 rfl) ?_
      refine lv_iload_n hx hb dX12_person__118 rfl (lv_at hl 2 rfl) ?_
      refine wvi (As := [.int p1]) (rest := []) (b := (g 45)) (d := 3) F hK hP hD hS hA (s_X12_suiting l G g q I0 J0 R0 L0 hvI hvR  p1 (show ((0 : Int) ≤ p1.toInt ∧ p1.toInt ≤ (11 : Int)) from by omega)) kmV_X12_suiting mlX12_476 clX12 rfl 0 (Wm_at0 G g q I0 J0 R0 L0) ⟨(Nat.le_of_ble_eq_true rfl), (Nat.le_of_ble_eq_true rfl)⟩ hl.1 rfl (Nat.le_of_ble_eq_true rfl) dX12_person__119 (fun r21 u22 H locs hwr21 hP hD hS => ?_)
      rw [hQ]
      exact q_i F hr hlk () hP hD hS trivial dX12_person__122 (Nat.le_of_ble_eq_true rfl) (Nat.le_of_ble_eq_true rfl)
    refine lv_tableOut (tgt := 123) hx hb dX12_person__21 (by have gh6 := lv_neT h6 (a := 0) rfl; have gh8 := lv_neT h8 (a := 1) rfl; have gh10 := lv_neT h10 (a := 2) rfl; have gh12 := lv_neT h12 (a := 3) rfl; have gh14 := lv_neT h14 (a := 4) rfl; have gh16 := lv_neT h16 (a := 5) rfl; have gh18 := lv_neT h18 (a := 6) rfl; have gh20 := lv_neT h20 (a := 7) rfl; omega) (by decide) ?_
    refine lv_iconst (v := (-1)) hx hb dX12_person__123 (by decide) ?_
    rw [hQ]
    exact q_i F hr hlk () hP hD hS trivial dX12_person__124 (Nat.le_of_ble_eq_true rfl) (Nat.le_of_ble_eq_true rfl)
  · have gc3 : r1.toInt = 0 := congrArg Int32.toInt c3
    refine lv_iconst (v := (-1)) hx hb dX12_person__8 (by decide) ?_
    rw [hQ]
    exact q_i F hr hlk () hP hD hS trivial dX12_person__9 (Nat.le_of_ble_eq_true rfl) (Nat.le_of_ble_eq_true rfl)
set_option maxHeartbeats 4000000 in
set_option maxRecDepth 100000 in
theorem s_X12_should (l : Launch) (G : Gx) (g q : Nat → Nat) (I0 : Nat → Int32) (J0 : Nat → Int64) (R0 : Nat → Nat → Int32) (L0 : Nat → Nat → Int64) (hvI : InvI Wm_lo Wm_hi I0) (hvR : InvR Wm_rl R0)  (p1 : Int32)  : CtI (S := Unit) l yX12_should cX12_should 6 (some .int) (rmD 4 0 0) G [.ref (g 45), .int p1] (Wm G g q I0 J0 R0 L0) (fun r _ => True) (fun _ => (Wm G g q I0 J0 R0 L0)) := by
  refine ctI_of (own := RX12) (by decide +kernel) rfl (Nat.le_of_ble_eq_true rfl) ?_
  intro p e s m below meth c A ls F hr hlk hnm hK hP hD hA hS hl
  have hx := F.1
  have hb := F.2.1
  have hown := F.2.2.2.1
  have hl : lv_has ls 6 [(0, .ref (g 45)), (1, .int p1)] := hl
  obtain ⟨Q, hQ⟩ : ∃ Q : State → Prop, Q = MQ below (va_Qi (S := Unit) (fun r _ => True) (BX G A (fun _ => (Wm G g q I0 J0 R0 L0))) A) [.ref (g 45), .int p1].toArray s 0 0 A := ⟨_, rfl⟩
  rw [show (MQ below (va_Qi (S := Unit) (fun r _ => True) (BX G A (fun _ => (Wm G g q I0 J0 R0 L0))) A) [.ref (g 45), .int p1].toArray s (rmD 4 0 0).cells (rmD 4 0 0).slots A) = Q from hQ.symm]
  have hvI0 := hvI
  have lab_103 : ∀ (k_103 : Nat) (a2_103 : Int32) (a3_103 : Int32) (a4_103 : Int32) (a5_103 : Int32) (H : Heap) (locs : List Loc) (ls : Array Slot), ((12 - a5_103.toInt) < (k_103 : Int)) → ((0 : Int) ≤ p1.toInt ∧ p1.toInt ≤ (2 : Int)) → ((-1 : Int) ≤ a2_103.toInt ∧ a2_103.toInt ≤ (29 : Int)) → ((0 : Int) ≤ a5_103.toInt ∧ a5_103.toInt ≤ (12 : Int)) → va_P G.1 vwCl (Wm G g q I0 J0 R0 L0) H → va_D A (Wm G g q I0 J0 R0 L0) → va_S A s.heap H locs → lv_has ls 6 [(0, .ref (g 45)), (1, .int p1), (2, .int a2_103), (3, .int a3_103), (4, .int a4_103), (5, .int a5_103)] → W p l e (rmD 4 0 0) s m [.ref (g 45), .int p1].toArray below meth c H locs 0 0 Q (F0 m 103 ls []) := by
    intro k_103
    induction k_103 with
    | zero =>
      intro a2_103 a3_103 a4_103 a5_103 H locs ls hm y0_103 y1_103 y2_103 hP hD hS hl
      exact absurd hm (by omega)
    | succ k_103 ih_103 =>
      intro a2_103 a3_103 a4_103 a5_103 H locs ls hm y0_103 y1_103 y2_103 hP hD hS hl
      have lab_133 : ∀ (b0_133 : Int32) (b1_133 : Int32) (H : Heap) (locs : List Loc) (ls : Array Slot), ((0 : Int) ≤ a5_103.toInt ∧ a5_103.toInt ≤ (11 : Int)) → ((0 : Int) ≤ b0_133.toInt ∧ b0_133.toInt ≤ (1 : Int)) → va_P G.1 vwCl (Wm G g q I0 J0 R0 L0) H → va_D A (Wm G g q I0 J0 R0 L0) → va_S A s.heap H locs → lv_has ls 6 [(0, .ref (g 45)), (1, .int p1), (2, .int a2_103), (3, .int a3_103), (5, .int a5_103)] → W p l e (rmD 4 0 0) s m [.ref (g 45), .int p1].toArray below meth c H locs 0 0 Q (F0 m 133 ls [.int b0_133, .int b1_133]) := by
        intro b0_133 b1_133 H locs ls y0_133 y1_133 hP hD hS hl
        refine lv_iadd hx hb dX12_should_133 ?_
        refine lv_topi (fun x1 ex1 => ?_)
        refine lv_istore (lv' := [(4, .int x1), (0, .ref (g 45)), (1, .int p1), (2, .int a2_103), (3, .int a3_103), (5, .int a5_103)]) hx hb dX12_should_134 hl (by decide) rfl (fun ls hl => ?_)
        obtain ⟨x2, ex2⟩ : ∃ y : Int32, y = a5_103 + 1 := ⟨_, rfl⟩
        have fx2 : x2.toInt = a5_103.toInt + (1 : Int) := by rw [ex2]; exact t_add (by show (-2147483648 : Int) ≤ a5_103.toInt + (1 : Int); omega) (by show a5_103.toInt + (1 : Int) ≤ 2147483647; omega)
        refine lv_iinc (v := x2) (lv' := [(5, .int x2), (4, .int x1), (0, .ref (g 45)), (1, .int p1), (2, .int a2_103), (3, .int a3_103)]) hx hb dX12_should_136 hl (k := 5) rfl (by rw [ex2]; rfl) (by decide) rfl (fun ls hl => ?_)
        refine lv_goto (tgt := 103) hx hb dX12_should_139 (by decide) ?_
        exact ih_103 a2_103 a3_103 x1 x2 _ _ _ (show (12 - x2.toInt) < (k_103 : Int) from by omega) (show ((0 : Int) ≤ p1.toInt ∧ p1.toInt ≤ (2 : Int)) from by omega) (show ((-1 : Int) ≤ a2_103.toInt ∧ a2_103.toInt ≤ (29 : Int)) from by omega) (show ((0 : Int) ≤ x2.toInt ∧ x2.toInt ≤ (12 : Int)) from by omega) hP hD hS (lv_sub hl [2, 3, 4, 5, 1, 0] rfl)
      refine lv_iload hx hb dX12_should_103 (lv_at hl 5 rfl) ?_
      refine lv_aload_n hx hb dX12_should_105 rfl (lv_at hl 0 rfl) ?_
      refine g_get F hK hP 0 (Wm_at0 G g q I0 J0 R0 L0) clX12 21 (by decide) flX12_77 rfl dX12_should_106 ?_
      refine lv_aload_n hx hb dX12_should_109 rfl (lv_at hl 0 rfl) ?_
      refine g_get F hK hP 0 (Wm_at0 G g q I0 J0 R0 L0) clX12 12 (by decide) flX12_48 rfl dX12_should_110 ?_
      have w_I0_10 := rg (hvI0 10 (by decide)) (0) (1) rfl rfl
      refine g_iald F hK hP 10 (Wm_at10 G g q I0 J0 R0 L0) (in_of (by omega)) dX12_should_113 rfl ?_
      refine lv_topi (fun x3 ex3 => ?_)
      have gx3 : x3.toInt = (R0 7 (Int32.toNatClampNeg (I0 10))).toInt := congrArg Int32.toInt (ex3)
      have fx3 : ((0 : Int) ≤ x3.toInt ∧ x3.toInt ≤ (12 : Int)) := by rw [ex3]; exact hvR 7 (by decide) _ (clamp_lt (n := 2) (in_of (by omega)))
      refine lv_icmp_ge (tgt := 142) hx hb dX12_should_114 (by decide) (fun c4 => ?_) (fun c4 => ?_)
      · have gc4 : x3.toInt ≤ a5_103.toInt := (tle _ _).mp c4
        refine lv_iload_n hx hb dX12_should_142 rfl (lv_at hl 1 rfl) ?_
        refine lv_if_ne (tgt := 150) hx hb dX12_should_143 (by decide) (fun c5 => ?_) (fun c5 => ?_)
        · have gc5 : ¬ (p1.toInt = 0) := fun q0 => c5 (Int32.toInt_inj.mp q0)
          refine lv_iload_n hx hb dX12_should_150 rfl (lv_at hl 1 rfl) ?_
          refine lv_iconst (v := 1) hx hb dX12_should_151 (by decide) ?_
          refine lv_icmp_ne (tgt := 159) hx hb dX12_should_152 (by decide) (fun c6 => ?_) (fun c6 => ?_)
          · have gc6 : ¬ (p1.toInt = 1) := fun q0 => c6 (Int32.toInt_inj.mp q0)
            refine lv_iload hx hb dX12_should_159 (lv_at hl 4 rfl) ?_
            rw [hQ]
            exact q_i F hr hlk () hP hD hS trivial dX12_should_161 (Nat.le_of_ble_eq_true rfl) (Nat.le_of_ble_eq_true rfl)
          · have gc6 : p1.toInt = 1 := congrArg Int32.toInt c6
            refine lv_iload_n hx hb dX12_should_155 rfl (lv_at hl 3 rfl) ?_
            refine lv_goto (tgt := 161) hx hb dX12_should_156 (by decide) ?_
            rw [hQ]
            exact q_i F hr hlk () hP hD hS trivial dX12_should_161 (Nat.le_of_ble_eq_true rfl) (Nat.le_of_ble_eq_true rfl)
        · have gc5 : p1.toInt = 0 := congrArg Int32.toInt c5
          refine lv_iload_n hx hb dX12_should_146 rfl (lv_at hl 2 rfl) ?_
          refine lv_goto (tgt := 161) hx hb dX12_should_147 (by decide) ?_
          rw [hQ]
          exact q_i F hr hlk () hP hD hS trivial dX12_should_161 (Nat.le_of_ble_eq_true rfl) (Nat.le_of_ble_eq_true rfl)
      · have gc4 : ¬ (x3.toInt ≤ a5_103.toInt) := fun q0 => c4 ((tle _ _).mpr q0)
        refine lv_iload hx hb dX12_should_117 (lv_at hl 4 rfl) ?_
        refine lv_aload_n hx hb dX12_should_119 rfl (lv_at hl 0 rfl) ?_
        refine lv_iload hx hb dX12_should_120 (lv_at hl 5 rfl) ?_
        refine wvi (As := [.int a5_103]) (rest := [.int a4_103]) (b := (g 45)) (d := 3) F hK hP hD hS hA (s_X12_isLonely l G g q I0 J0 R0 L0 hvI hvR  a5_103 (show ((0 : Int) ≤ a5_103.toInt ∧ a5_103.toInt ≤ (11 : Int)) from by omega)) kmV_X12_isLonely mlX12_539 clX12 rfl 0 (Wm_at0 G g q I0 J0 R0 L0) ⟨(Nat.le_of_ble_eq_true rfl), (Nat.le_of_ble_eq_true rfl)⟩ hl.1 rfl (Nat.le_of_ble_eq_true rfl) dX12_should_122 (fun r7 u8 H locs hwr7 hP hD hS => ?_)
        have F0r7 := hwr7
        replace F0r7 : ((0 : Int) ≤ r7.toInt ∧ r7.toInt ≤ (1 : Int)) := F0r7
        refine lv_if_eq (tgt := 132) hx hb dX12_should_125 (by decide) (fun c9 => ?_) (fun c9 => ?_)
        · have gc9 : r7.toInt = 0 := congrArg Int32.toInt c9
          refine lv_iconst (v := 0) hx hb dX12_should_132 (by decide) ?_
          exact lab_133 0 a4_103 _ _ _ (show ((0 : Int) ≤ a5_103.toInt ∧ a5_103.toInt ≤ (11 : Int)) from by omega) (by decide) hP hD hS (lv_sub hl [0, 1, 2, 3, 5] rfl)
        · have gc9 : ¬ (r7.toInt = 0) := fun q0 => c9 (Int32.toInt_inj.mp q0)
          refine lv_iconst (v := 1) hx hb dX12_should_128 (by decide) ?_
          refine lv_goto (tgt := 133) hx hb dX12_should_129 (by decide) ?_
          exact lab_133 1 a4_103 _ _ _ (show ((0 : Int) ≤ a5_103.toInt ∧ a5_103.toInt ≤ (11 : Int)) from by omega) (by decide) hP hD hS (lv_sub hl [0, 1, 2, 3, 5] rfl)
  have lab_18 : ∀ (k_18 : Nat) (a2_18 : Int32) (a3_18 : Int32) (a4_18 : Int32) (H : Heap) (locs : List Loc) (ls : Array Slot), ((30 - a4_18.toInt) < (k_18 : Int)) → ((0 : Int) ≤ p1.toInt ∧ p1.toInt ≤ (2 : Int)) → ((-1 : Int) ≤ a2_18.toInt ∧ a2_18.toInt ≤ (29 : Int)) → ((0 : Int) ≤ a4_18.toInt ∧ a4_18.toInt ≤ (30 : Int)) → va_P G.1 vwCl (Wm G g q I0 J0 R0 L0) H → va_D A (Wm G g q I0 J0 R0 L0) → va_S A s.heap H locs → lv_has ls 6 [(0, .ref (g 45)), (1, .int p1), (2, .int a2_18), (3, .int a3_18), (4, .int a4_18)] → W p l e (rmD 4 0 0) s m [.ref (g 45), .int p1].toArray below meth c H locs 0 0 Q (F0 m 18 ls []) := by
    intro k_18
    induction k_18 with
    | zero =>
      intro a2_18 a3_18 a4_18 H locs ls hm y0_18 y1_18 y2_18 hP hD hS hl
      exact absurd hm (by omega)
    | succ k_18 ih_18 =>
      intro a2_18 a3_18 a4_18 H locs ls hm y0_18 y1_18 y2_18 hP hD hS hl
      have lab_91 : ∀ (a2_91 : Int32) (a3_91 : Int32) (H : Heap) (locs : List Loc) (ls : Array Slot), ((-1 : Int) ≤ a2_91.toInt ∧ a2_91.toInt ≤ (29 : Int)) → ((0 : Int) ≤ a4_18.toInt ∧ a4_18.toInt ≤ (29 : Int)) → va_P G.1 vwCl (Wm G g q I0 J0 R0 L0) H → va_D A (Wm G g q I0 J0 R0 L0) → va_S A s.heap H locs → lv_has ls 6 [(0, .ref (g 45)), (1, .int p1), (2, .int a2_91), (3, .int a3_91), (4, .int a4_18)] → W p l e (rmD 4 0 0) s m [.ref (g 45), .int p1].toArray below meth c H locs 0 0 Q (F0 m 91 ls []) := by
        intro a2_91 a3_91 H locs ls y0_91 y1_91 hP hD hS hl
        obtain ⟨x10, ex10⟩ : ∃ y : Int32, y = a4_18 + 1 := ⟨_, rfl⟩
        have fx10 : x10.toInt = a4_18.toInt + (1 : Int) := by rw [ex10]; exact t_add (by show (-2147483648 : Int) ≤ a4_18.toInt + (1 : Int); omega) (by show a4_18.toInt + (1 : Int) ≤ 2147483647; omega)
        refine lv_iinc (v := x10) (lv' := [(4, .int x10), (0, .ref (g 45)), (1, .int p1), (2, .int a2_91), (3, .int a3_91)]) hx hb dX12_should_91 hl (k := 4) rfl (by rw [ex10]; rfl) (by decide) rfl (fun ls hl => ?_)
        refine lv_goto (tgt := 18) hx hb dX12_should_94 (by decide) ?_
        exact ih_18 a2_91 a3_91 x10 _ _ _ (show (30 - x10.toInt) < (k_18 : Int) from by omega) (show ((0 : Int) ≤ p1.toInt ∧ p1.toInt ≤ (2 : Int)) from by omega) (show ((-1 : Int) ≤ a2_91.toInt ∧ a2_91.toInt ≤ (29 : Int)) from by omega) (show ((0 : Int) ≤ x10.toInt ∧ x10.toInt ≤ (30 : Int)) from by omega) hP hD hS (lv_sub hl [1, 2, 3, 4, 0] rfl)
      have lab_90 : ∀ (a3_90 : Int32) (b0_90 : Int32) (H : Heap) (locs : List Loc) (ls : Array Slot), ((0 : Int) ≤ a4_18.toInt ∧ a4_18.toInt ≤ (29 : Int)) → ((0 : Int) ≤ b0_90.toInt ∧ b0_90.toInt ≤ (29 : Int)) → va_P G.1 vwCl (Wm G g q I0 J0 R0 L0) H → va_D A (Wm G g q I0 J0 R0 L0) → va_S A s.heap H locs → lv_has ls 6 [(0, .ref (g 45)), (1, .int p1), (3, .int a3_90), (4, .int a4_18)] → W p l e (rmD 4 0 0) s m [.ref (g 45), .int p1].toArray below meth c H locs 0 0 Q (F0 m 90 ls [.int b0_90]) := by
        intro a3_90 b0_90 H locs ls y0_90 y1_90 hP hD hS hl
        refine lv_istore_n (lv' := [(2, .int b0_90), (0, .ref (g 45)), (1, .int p1), (3, .int a3_90), (4, .int a4_18)]) hx hb dX12_should_90 rfl hl (by decide) rfl (fun ls hl => ?_)
        exact lab_91 b0_90 a3_90 _ _ _ (show ((-1 : Int) ≤ b0_90.toInt ∧ b0_90.toInt ≤ (29 : Int)) from by omega) (show ((0 : Int) ≤ a4_18.toInt ∧ a4_18.toInt ≤ (29 : Int)) from by omega) hP hD hS (lv_sub hl [1, 2, 0, 3, 4] rfl)
      have lab_84 : ∀ (a3_84 : Int32) (H : Heap) (locs : List Loc) (ls : Array Slot), ((0 : Int) ≤ a4_18.toInt ∧ a4_18.toInt ≤ (29 : Int)) → va_P G.1 vwCl (Wm G g q I0 J0 R0 L0) H → va_D A (Wm G g q I0 J0 R0 L0) → va_S A s.heap H locs → lv_has ls 6 [(0, .ref (g 45)), (1, .int p1), (3, .int a3_84), (4, .int a4_18)] → W p l e (rmD 4 0 0) s m [.ref (g 45), .int p1].toArray below meth c H locs 0 0 Q (F0 m 84 ls []) := by
        intro a3_84 H locs ls y0_84 hP hD hS hl
        refine lv_iload hx hb dX12_should_84 (lv_at hl 3 rfl) ?_
        refine lv_goto (tgt := 90) hx hb dX12_should_86 (by decide) ?_
        exact lab_90 a3_84 a4_18 _ _ _ (show ((0 : Int) ≤ a4_18.toInt ∧ a4_18.toInt ≤ (29 : Int)) from by omega) (show ((0 : Int) ≤ a4_18.toInt ∧ a4_18.toInt ≤ (29 : Int)) from by omega) hP hD hS (lv_sub hl [0, 1, 2, 3] rfl)
      refine lv_iload hx hb dX12_should_18 (lv_at hl 4 rfl) ?_
      refine lv_aload_n hx hb dX12_should_20 rfl (lv_at hl 0 rfl) ?_
      refine g_get F hK hP 0 (Wm_at0 G g q I0 J0 R0 L0) clX12 30 (by decide) flX12_104 rfl dX12_should_21 ?_
      refine lv_aload_n hx hb dX12_should_24 rfl (lv_at hl 0 rfl) ?_
      refine g_get F hK hP 0 (Wm_at0 G g q I0 J0 R0 L0) clX12 12 (by decide) flX12_48 rfl dX12_should_25 ?_
      have w_I0_10 := rg (hvI0 10 (by decide)) (0) (1) rfl rfl
      refine g_iald F hK hP 19 (Wm_at19 G g q I0 J0 R0 L0) (in_of (by omega)) dX12_should_28 rfl ?_
      refine lv_topi (fun x11 ex11 => ?_)
      have gx11 : x11.toInt = (R0 15 (Int32.toNatClampNeg (I0 10))).toInt := congrArg Int32.toInt (ex11)
      have fx11 : ((0 : Int) ≤ x11.toInt ∧ x11.toInt ≤ (30 : Int)) := by rw [ex11]; exact hvR 15 (by decide) _ (clamp_lt (n := 2) (in_of (by omega)))
      refine lv_icmp_ge (tgt := 97) hx hb dX12_should_29 (by decide) (fun c12 => ?_) (fun c12 => ?_)
      · have gc12 : x11.toInt ≤ a4_18.toInt := (tle _ _).mp c12
        refine lv_iconst (v := 0) hx hb dX12_should_97 (by decide) ?_
        refine lv_istore (lv' := [(4, .int 0), (0, .ref (g 45)), (1, .int p1), (2, .int a2_18), (3, .int a3_18)]) hx hb dX12_should_98 hl (by decide) rfl (fun ls hl => ?_)
        refine lv_iconst (v := 0) hx hb dX12_should_100 (by decide) ?_
        refine lv_istore (lv' := [(5, .int 0), (4, .int 0), (0, .ref (g 45)), (1, .int p1), (2, .int a2_18), (3, .int a3_18)]) hx hb dX12_should_101 hl (by decide) rfl (fun ls hl => ?_)
        exact lab_103 13 a2_18 a3_18 0 0 _ _ _ (show (12 - 0) < ((13 : Nat) : Int) from by omega) (show ((0 : Int) ≤ p1.toInt ∧ p1.toInt ≤ (2 : Int)) from by omega) (show ((-1 : Int) ≤ a2_18.toInt ∧ a2_18.toInt ≤ (29 : Int)) from by omega) (by decide) hP hD hS (lv_sub hl [2, 3, 4, 5, 1, 0] rfl)
      · have gc12 : ¬ (x11.toInt ≤ a4_18.toInt) := fun q0 => c12 ((tle _ _).mpr q0)
        refine lv_aload_n hx hb dX12_should_32 rfl (lv_at hl 0 rfl) ?_
        refine lv_iload hx hb dX12_should_33 (lv_at hl 4 rfl) ?_
        refine wvi (As := [.int a4_18]) (rest := []) (b := (g 45)) (d := 2) F hK hP hD hS hA (s_X12_metOn l G g q I0 J0 R0 L0 hvI hvR  a4_18 (show ((0 : Int) ≤ a4_18.toInt ∧ a4_18.toInt ≤ (29 : Int)) from by omega)) kmV_X12_metOn mlX12_497 clX12 rfl 0 (Wm_at0 G g q I0 J0 R0 L0) ⟨(Nat.le_of_ble_eq_true rfl), (Nat.le_of_ble_eq_true rfl)⟩ hl.1 rfl (Nat.le_of_ble_eq_true rfl) dX12_should_35 (fun r13 u14 H locs hwr13 hP hD hS => ?_)
        refine lv_if_le (tgt := 44) hx hb dX12_should_38 (by decide) (fun c15 => ?_) (fun c15 => ?_)
        · have gc15 : r13.toInt ≤ 0 := (tle _ _).mp c15
          obtain ⟨x16, ex16⟩ : ∃ y : Int32, y = a3_18 + 1 := ⟨_, rfl⟩
          refine lv_iinc (v := x16) (lv' := [(3, .int x16), (0, .ref (g 45)), (1, .int p1), (2, .int a2_18), (4, .int a4_18)]) hx hb dX12_should_44 hl (k := 3) rfl (by rw [ex16]; rfl) (by decide) rfl (fun ls hl => ?_)
          refine lv_iload_n hx hb dX12_should_47 rfl (lv_at hl 3 rfl) ?_
          refine lv_iconst (v := (-1)) hx hb dX12_should_48 (by decide) ?_
          refine lv_icmp_eq (tgt := 84) hx hb dX12_should_49 (by decide) (fun c17 => ?_) (fun c17 => ?_)
          · have gc17 : a2_18.toInt = (-1) := congrArg Int32.toInt c17
            exact lab_84 x16 _ _ _ (show ((0 : Int) ≤ a4_18.toInt ∧ a4_18.toInt ≤ (29 : Int)) from by omega) hP hD hS (lv_sub hl [1, 2, 0, 4] rfl)
          · have gc17 : ¬ (a2_18.toInt = (-1)) := fun q0 => c17 (Int32.toInt_inj.mp q0)
            refine lv_aload_n hx hb dX12_should_52 rfl (lv_at hl 1 rfl) ?_
            refine g_get F hK hP 0 (Wm_at0 G g q I0 J0 R0 L0) clX12 33 (by decide) flX12_113 rfl dX12_should_53 ?_
            refine lv_bipush (v := 30) hx hb dX12_should_56 (by decide) ?_
            refine lv_aload_n hx hb dX12_should_58 rfl (lv_at hl 1 rfl) ?_
            refine g_get F hK hP 0 (Wm_at0 G g q I0 J0 R0 L0) clX12 12 (by decide) flX12_48 rfl dX12_should_59 ?_
            refine lv_imul hx hb dX12_should_62 ?_
            refine lv_topi (fun x18 ex18 => ?_)
            have fx18 : x18.toInt = 30 * (I0 10).toInt := by rw [ex18]; exact t_mul (by show (-2147483648 : Int) ≤ 30 * (I0 10).toInt; omega) (by show 30 * (I0 10).toInt ≤ 2147483647; omega)
            refine lv_iload hx hb dX12_should_63 (lv_at hl 4 rfl) ?_
            refine lv_iadd hx hb dX12_should_65 ?_
            refine lv_topi (fun x19 ex19 => ?_)
            have fx19 : x19.toInt = x18.toInt + a4_18.toInt := by rw [ex19]; exact t_add (by show (-2147483648 : Int) ≤ x18.toInt + a4_18.toInt; omega) (by show x18.toInt + a4_18.toInt ≤ 2147483647; omega)
            refine g_iald F hK hP 22 (Wm_at22 G g q I0 J0 R0 L0) (in_of (by omega)) dX12_should_66 rfl ?_
            refine lv_topi (fun x20 ex20 => ?_)
            have gx20 : x20.toInt = (R0 18 (Int32.toNatClampNeg x19)).toInt := congrArg Int32.toInt (ex20)
            refine lv_aload_n hx hb dX12_should_67 rfl (lv_at hl 1 rfl) ?_
            refine g_get F hK hP 0 (Wm_at0 G g q I0 J0 R0 L0) clX12 33 (by decide) flX12_113 rfl dX12_should_68 ?_
            refine lv_bipush (v := 30) hx hb dX12_should_71 (by decide) ?_
            refine lv_aload_n hx hb dX12_should_73 rfl (lv_at hl 1 rfl) ?_
            refine g_get F hK hP 0 (Wm_at0 G g q I0 J0 R0 L0) clX12 12 (by decide) flX12_48 rfl dX12_should_74 ?_
            refine lv_imul hx hb dX12_should_77 ?_
            refine lv_topi (fun x21 ex21 => ?_)
            have fx21 : x21.toInt = 30 * (I0 10).toInt := by rw [ex21]; exact t_mul (by show (-2147483648 : Int) ≤ 30 * (I0 10).toInt; omega) (by show 30 * (I0 10).toInt ≤ 2147483647; omega)
            refine lv_iload_n hx hb dX12_should_78 rfl (lv_at hl 3 rfl) ?_
            refine lv_iadd hx hb dX12_should_79 ?_
            refine lv_topi (fun x22 ex22 => ?_)
            have fx22 : x22.toInt = x21.toInt + a2_18.toInt := by rw [ex22]; exact t_add (by show (-2147483648 : Int) ≤ x21.toInt + a2_18.toInt; omega) (by show x21.toInt + a2_18.toInt ≤ 2147483647; omega)
            refine g_iald F hK hP 22 (Wm_at22 G g q I0 J0 R0 L0) (in_of (by omega)) dX12_should_80 rfl ?_
            refine lv_topi (fun x23 ex23 => ?_)
            have gx23 : x23.toInt = (R0 18 (Int32.toNatClampNeg x22)).toInt := congrArg Int32.toInt (ex23)
            refine lv_icmp_le (tgt := 89) hx hb dX12_should_81 (by decide) (fun c24 => ?_) (fun c24 => ?_)
            · have gc24 : x20.toInt ≤ x23.toInt := (tle _ _).mp c24
              refine lv_iload_n hx hb dX12_should_89 rfl (lv_at hl 3 rfl) ?_
              exact lab_90 x16 a2_18 _ _ _ (show ((0 : Int) ≤ a4_18.toInt ∧ a4_18.toInt ≤ (29 : Int)) from by omega) (show ((0 : Int) ≤ a2_18.toInt ∧ a2_18.toInt ≤ (29 : Int)) from by omega) hP hD hS (lv_sub hl [1, 2, 0, 4] rfl)
            · have gc24 : ¬ (x20.toInt ≤ x23.toInt) := fun q0 => c24 ((tle _ _).mpr q0)
              exact lab_84 x16 _ _ _ (show ((0 : Int) ≤ a4_18.toInt ∧ a4_18.toInt ≤ (29 : Int)) from by omega) hP hD hS (lv_sub hl [1, 2, 0, 4] rfl)
        · have gc15 : ¬ (r13.toInt ≤ 0) := fun q0 => c15 ((tle _ _).mpr q0)
          refine lv_goto (tgt := 91) hx hb dX12_should_41 (by decide) ?_
          exact lab_91 a2_18 a3_18 _ _ _ (show ((-1 : Int) ≤ a2_18.toInt ∧ a2_18.toInt ≤ (29 : Int)) from by omega) (show ((0 : Int) ≤ a4_18.toInt ∧ a4_18.toInt ≤ (29 : Int)) from by omega) hP hD hS (lv_sub hl [0, 1, 2, 3, 4] rfl)
  refine lv_iload_n hx hb dX12_should_0 rfl (lv_at hl 1 rfl) ?_
  refine lv_iconst (v := 0) hx hb dX12_should_1 (by decide) ?_
  refine lv_iconst (v := 2) hx hb dX12_should_2 (by decide) ?_
  refine w0i (As := [.int p1, .int 0, .int 2]) (rest := []) (d := 1) F hK hP hD hS hA (s_X12_is l G  p1 0 2 (by decide) (by decide)) kmS_X12_is mlX12_316 ⟨(Nat.le_of_ble_eq_true rfl), (Nat.le_of_ble_eq_true rfl)⟩ hl.1 rfl (Nat.le_of_ble_eq_true rfl) dX12_should_3 (fun r25 u26 H locs hwr25 hP hD hS => ?_)
  obtain ⟨F0r25, F1r25⟩ := hwr25
  replace F0r25 : ((0 : Int) ≤ r25.toInt ∧ r25.toInt ≤ (1 : Int)) := F0r25
  replace F1r25 : (r25.toInt = 1 → ((0 : Int) ≤ p1.toInt ∧ p1.toInt ≤ (2 : Int))) := F1r25
  refine lv_if_ne (tgt := 11) hx hb dX12_should_6 (by decide) (fun c27 => ?_) (fun c27 => ?_)
  · have gc27 : ¬ (r25.toInt = 0) := fun q0 => c27 (Int32.toInt_inj.mp q0)
    refine lv_iconst (v := (-1)) hx hb dX12_should_11 (by decide) ?_
    refine lv_istore_n (lv' := [(2, .int (-1)), (0, .ref (g 45)), (1, .int p1)]) hx hb dX12_should_12 rfl hl (by decide) rfl (fun ls hl => ?_)
    refine lv_iconst (v := 0) hx hb dX12_should_13 (by decide) ?_
    refine lv_istore_n (lv' := [(3, .int 0), (2, .int (-1)), (0, .ref (g 45)), (1, .int p1)]) hx hb dX12_should_14 rfl hl (by decide) rfl (fun ls hl => ?_)
    refine lv_iconst (v := 0) hx hb dX12_should_15 (by decide) ?_
    refine lv_istore (lv' := [(4, .int 0), (3, .int 0), (2, .int (-1)), (0, .ref (g 45)), (1, .int p1)]) hx hb dX12_should_16 hl (by decide) rfl (fun ls hl => ?_)
    exact lab_18 31 ((-1)) 0 0 _ _ _ (show (30 - 0) < ((31 : Nat) : Int) from by omega) (show ((0 : Int) ≤ p1.toInt ∧ p1.toInt ≤ (2 : Int)) from by omega) (by decide) (by decide) hP hD hS (lv_sub hl [3, 4, 2, 1, 0] rfl)
  · have gc27 : r25.toInt = 0 := congrArg Int32.toInt c27
    refine lv_iconst (v := (-1)) hx hb dX12_should_9 (by decide) ?_
    rw [hQ]
    exact q_i F hr hlk () hP hD hS trivial dX12_should_10 (Nat.le_of_ble_eq_true rfl) (Nat.le_of_ble_eq_true rfl)
set_option maxHeartbeats 4000000 in
set_option maxRecDepth 100000 in
theorem s_X12_shut (l : Launch) (G : Gx) (g q : Nat → Nat) (I0 : Nat → Int32) (J0 : Nat → Int64) (R0 : Nat → Nat → Int32) (L0 : Nat → Nat → Int64) (hvI : InvI Wm_lo Wm_hi I0) (hvR : InvR Wm_rl R0)  (p1 : Int32)  : CtI (S := Unit) l yX12_shut cX12_shut 5 (some .int) (rmD 4 0 0) G [.ref (g 45), .int p1] (Wm G g q I0 J0 R0 L0) (fun r _ => ((-1 : Int) ≤ r.toInt ∧ r.toInt ≤ (4 : Int))) (fun _ => (Wm G g q I0 J0 R0 L0)) := by
  refine ctI_of (own := RX12) (by decide +kernel) rfl (Nat.le_of_ble_eq_true rfl) ?_
  intro p e s m below meth c A ls F hr hlk hnm hK hP hD hA hS hl
  have hx := F.1
  have hb := F.2.1
  have hown := F.2.2.2.1
  have hl : lv_has ls 5 [(0, .ref (g 45)), (1, .int p1)] := hl
  obtain ⟨Q, hQ⟩ : ∃ Q : State → Prop, Q = MQ below (va_Qi (S := Unit) (fun r _ => ((-1 : Int) ≤ r.toInt ∧ r.toInt ≤ (4 : Int))) (BX G A (fun _ => (Wm G g q I0 J0 R0 L0))) A) [.ref (g 45), .int p1].toArray s 0 0 A := ⟨_, rfl⟩
  rw [show (MQ below (va_Qi (S := Unit) (fun r _ => ((-1 : Int) ≤ r.toInt ∧ r.toInt ≤ (4 : Int))) (BX G A (fun _ => (Wm G g q I0 J0 R0 L0))) A) [.ref (g 45), .int p1].toArray s (rmD 4 0 0).cells (rmD 4 0 0).slots A) = Q from hQ.symm]
  have hvI0 := hvI
  have lab_13 : ∀ (k_13 : Nat) (a2_13 : Int32) (a3_13 : Int32) (H : Heap) (locs : List Loc) (ls : Array Slot), ((5 - a3_13.toInt) < (k_13 : Int)) → ((0 : Int) ≤ p1.toInt ∧ p1.toInt ≤ (4 : Int)) → ((-1 : Int) ≤ a2_13.toInt ∧ a2_13.toInt ≤ (4 : Int)) → ((0 : Int) ≤ a3_13.toInt ∧ a3_13.toInt ≤ (5 : Int)) → va_P G.1 vwCl (Wm G g q I0 J0 R0 L0) H → va_D A (Wm G g q I0 J0 R0 L0) → va_S A s.heap H locs → lv_has ls 5 [(0, .ref (g 45)), (1, .int p1), (2, .int a2_13), (3, .int a3_13)] → W p l e (rmD 4 0 0) s m [.ref (g 45), .int p1].toArray below meth c H locs 0 0 Q (F0 m 13 ls []) := by
    intro k_13
    induction k_13 with
    | zero =>
      intro a2_13 a3_13 H locs ls hm y0_13 y1_13 y2_13 hP hD hS hl
      exact absurd hm (by omega)
    | succ k_13 ih_13 =>
      intro a2_13 a3_13 H locs ls hm y0_13 y1_13 y2_13 hP hD hS hl
      have lab_118 : ∀ (a2_118 : Int32) (H : Heap) (locs : List Loc) (ls : Array Slot), ((-1 : Int) ≤ a2_118.toInt ∧ a2_118.toInt ≤ (4 : Int)) → ((0 : Int) ≤ a3_13.toInt ∧ a3_13.toInt ≤ (4 : Int)) → va_P G.1 vwCl (Wm G g q I0 J0 R0 L0) H → va_D A (Wm G g q I0 J0 R0 L0) → va_S A s.heap H locs → lv_has ls 5 [(0, .ref (g 45)), (1, .int p1), (2, .int a2_118), (3, .int a3_13)] → W p l e (rmD 4 0 0) s m [.ref (g 45), .int p1].toArray below meth c H locs 0 0 Q (F0 m 118 ls []) := by
        intro a2_118 H locs ls y0_118 y1_118 hP hD hS hl
        obtain ⟨x1, ex1⟩ : ∃ y : Int32, y = a3_13 + 1 := ⟨_, rfl⟩
        have fx1 : x1.toInt = a3_13.toInt + (1 : Int) := by rw [ex1]; exact t_add (by show (-2147483648 : Int) ≤ a3_13.toInt + (1 : Int); omega) (by show a3_13.toInt + (1 : Int) ≤ 2147483647; omega)
        refine lv_iinc (v := x1) (lv' := [(3, .int x1), (0, .ref (g 45)), (1, .int p1), (2, .int a2_118)]) hx hb dX12_shut_118 hl (k := 3) rfl (by rw [ex1]; rfl) (by decide) rfl (fun ls hl => ?_)
        refine lv_goto (tgt := 13) hx hb dX12_shut_121 (by decide) ?_
        exact ih_13 a2_118 x1 _ _ _ (show (5 - x1.toInt) < (k_13 : Int) from by omega) (show ((0 : Int) ≤ p1.toInt ∧ p1.toInt ≤ (4 : Int)) from by omega) (show ((-1 : Int) ≤ a2_118.toInt ∧ a2_118.toInt ≤ (4 : Int)) from by omega) (show ((0 : Int) ≤ x1.toInt ∧ x1.toInt ≤ (5 : Int)) from by omega) hP hD hS (lv_sub hl [1, 2, 3, 0] rfl)
      have lab_117 : ∀ (b0_117 : Int32) (H : Heap) (locs : List Loc) (ls : Array Slot), ((0 : Int) ≤ a3_13.toInt ∧ a3_13.toInt ≤ (4 : Int)) → ((0 : Int) ≤ b0_117.toInt ∧ b0_117.toInt ≤ (4 : Int)) → va_P G.1 vwCl (Wm G g q I0 J0 R0 L0) H → va_D A (Wm G g q I0 J0 R0 L0) → va_S A s.heap H locs → lv_has ls 5 [(0, .ref (g 45)), (1, .int p1), (3, .int a3_13)] → W p l e (rmD 4 0 0) s m [.ref (g 45), .int p1].toArray below meth c H locs 0 0 Q (F0 m 117 ls [.int b0_117]) := by
        intro b0_117 H locs ls y0_117 y1_117 hP hD hS hl
        refine lv_istore_n (lv' := [(2, .int b0_117), (0, .ref (g 45)), (1, .int p1), (3, .int a3_13)]) hx hb dX12_shut_117 rfl hl (by decide) rfl (fun ls hl => ?_)
        exact lab_118 b0_117 _ _ _ (show ((-1 : Int) ≤ b0_117.toInt ∧ b0_117.toInt ≤ (4 : Int)) from by omega) (show ((0 : Int) ≤ a3_13.toInt ∧ a3_13.toInt ≤ (4 : Int)) from by omega) hP hD hS (lv_sub hl [1, 2, 0, 3] rfl)
      have lab_112 : ∀  (H : Heap) (locs : List Loc) (ls : Array Slot), ((0 : Int) ≤ a3_13.toInt ∧ a3_13.toInt ≤ (4 : Int)) → va_P G.1 vwCl (Wm G g q I0 J0 R0 L0) H → va_D A (Wm G g q I0 J0 R0 L0) → va_S A s.heap H locs → lv_has ls 5 [(0, .ref (g 45)), (1, .int p1), (3, .int a3_13)] → W p l e (rmD 4 0 0) s m [.ref (g 45), .int p1].toArray below meth c H locs 0 0 Q (F0 m 112 ls []) := by
        intro H locs ls y0_112 hP hD hS hl
        refine lv_iload_n hx hb dX12_shut_112 rfl (lv_at hl 2 rfl) ?_
        refine lv_goto (tgt := 117) hx hb dX12_shut_113 (by decide) ?_
        exact lab_117 a3_13 _ _ _ (show ((0 : Int) ≤ a3_13.toInt ∧ a3_13.toInt ≤ (4 : Int)) from by omega) (show ((0 : Int) ≤ a3_13.toInt ∧ a3_13.toInt ≤ (4 : Int)) from by omega) hP hD hS (lv_sub hl [0, 1, 2] rfl)
      refine lv_iload_n hx hb dX12_shut_13 rfl (lv_at hl 3 rfl) ?_
      refine lv_aload_n hx hb dX12_shut_14 rfl (lv_at hl 0 rfl) ?_
      refine g_get F hK hP 0 (Wm_at0 G g q I0 J0 R0 L0) clX12 13 (by decide) flX12_51 rfl dX12_shut_15 ?_
      refine lv_aload_n hx hb dX12_shut_18 rfl (lv_at hl 0 rfl) ?_
      refine g_get F hK hP 0 (Wm_at0 G g q I0 J0 R0 L0) clX12 12 (by decide) flX12_48 rfl dX12_shut_19 ?_
      have w_I0_10 := rg (hvI0 10 (by decide)) (0) (1) rfl rfl
      refine g_iald F hK hP 2 (Wm_at2 G g q I0 J0 R0 L0) (in_of (by omega)) dX12_shut_22 rfl ?_
      refine lv_topi (fun x2 ex2 => ?_)
      have gx2 : x2.toInt = (R0 1 (Int32.toNatClampNeg (I0 10))).toInt := congrArg Int32.toInt (ex2)
      have fx2 : ((0 : Int) ≤ x2.toInt ∧ x2.toInt ≤ (5 : Int)) := by rw [ex2]; exact hvR 1 (by decide) _ (clamp_lt (n := 2) (in_of (by omega)))
      refine lv_icmp_ge (tgt := 124) hx hb dX12_shut_23 (by decide) (fun c3 => ?_) (fun c3 => ?_)
      · have gc3 : x2.toInt ≤ a3_13.toInt := (tle _ _).mp c3
        refine lv_iload_n hx hb dX12_shut_124 rfl (lv_at hl 2 rfl) ?_
        rw [hQ]
        exact q_i F hr hlk () hP hD hS (show ((-1 : Int) ≤ a2_13.toInt ∧ a2_13.toInt ≤ (4 : Int)) from by omega) dX12_shut_125 (Nat.le_of_ble_eq_true rfl) (Nat.le_of_ble_eq_true rfl)
      · have gc3 : ¬ (x2.toInt ≤ a3_13.toInt) := fun q0 => c3 ((tle _ _).mpr q0)
        refine lv_aload_n hx hb dX12_shut_26 rfl (lv_at hl 0 rfl) ?_
        refine wvi (As := []) (rest := []) (b := (g 45)) (d := 3) F hK hP hD hS hA (s_X12_spare l G g q I0 J0 R0 L0 hvI hvR   ) kmV_X12_spare mlX12_485 clX12 rfl 0 (Wm_at0 G g q I0 J0 R0 L0) ⟨(Nat.le_of_ble_eq_true rfl), (Nat.le_of_ble_eq_true rfl)⟩ hl.1 rfl (Nat.le_of_ble_eq_true rfl) dX12_shut_27 (fun r4 u5 H locs hwr4 hP hD hS => ?_)
        refine lv_aload_n hx hb dX12_shut_30 rfl (lv_at hl 0 rfl) ?_
        refine g_get F hK hP 0 (Wm_at0 G g q I0 J0 R0 L0) clX12 15 (by decide) flX12_58 rfl dX12_shut_31 ?_
        refine lv_iconst (v := 5) hx hb dX12_shut_34 (by decide) ?_
        refine lv_aload_n hx hb dX12_shut_35 rfl (lv_at hl 0 rfl) ?_
        refine g_get F hK hP 0 (Wm_at0 G g q I0 J0 R0 L0) clX12 12 (by decide) flX12_48 rfl dX12_shut_36 ?_
        refine lv_imul hx hb dX12_shut_39 ?_
        refine lv_topi (fun x6 ex6 => ?_)
        have fx6 : x6.toInt = 5 * (I0 10).toInt := by rw [ex6]; exact t_mul (by show (-2147483648 : Int) ≤ 5 * (I0 10).toInt; omega) (by show 5 * (I0 10).toInt ≤ 2147483647; omega)
        refine lv_iload_n hx hb dX12_shut_40 rfl (lv_at hl 3 rfl) ?_
        refine lv_iadd hx hb dX12_shut_41 ?_
        refine lv_topi (fun x7 ex7 => ?_)
        have fx7 : x7.toInt = x6.toInt + a3_13.toInt := by rw [ex7]; exact t_add (by show (-2147483648 : Int) ≤ x6.toInt + a3_13.toInt; omega) (by show x6.toInt + a3_13.toInt ≤ 2147483647; omega)
        refine g_iald F hK hP 4 (Wm_at4 G g q I0 J0 R0 L0) (in_of (by omega)) dX12_shut_42 rfl ?_
        refine lv_topi (fun x8 ex8 => ?_)
        have gx8 : x8.toInt = (R0 2 (Int32.toNatClampNeg x7)).toInt := congrArg Int32.toInt (ex8)
        have fx8 : ((0 : Int) ≤ x8.toInt ∧ x8.toInt ≤ (9999 : Int)) := by rw [ex8]; exact hvR 2 (by decide) _ (clamp_lt (n := 10) (in_of (by omega)))
        refine lv_aload_n hx hb dX12_shut_43 rfl (lv_at hl 0 rfl) ?_
        refine lv_aload_n hx hb dX12_shut_44 rfl (lv_at hl 0 rfl) ?_
        refine g_get F hK hP 0 (Wm_at0 G g q I0 J0 R0 L0) clX12 12 (by decide) flX12_48 rfl dX12_shut_45 ?_
        refine lv_iload_n hx hb dX12_shut_48 rfl (lv_at hl 3 rfl) ?_
        refine wvi (As := [.int (I0 10), .int a3_13]) (rest := [.int x8, .int r4]) (b := (g 45)) (d := 1) F hK hP hD hS hA (s_X12_ownedOn l G g q I0 J0 R0 L0 hvI hvR  ((I0 10)) a3_13 (show ((0 : Int) ≤ (I0 10).toInt ∧ (I0 10).toInt ≤ (1 : Int)) from by omega) (show ((0 : Int) ≤ a3_13.toInt ∧ a3_13.toInt ≤ (11 : Int)) from by omega)) kmV_X12_ownedOn mlX12_381 clX12 rfl 0 (Wm_at0 G g q I0 J0 R0 L0) ⟨(Nat.le_of_ble_eq_true rfl), (Nat.le_of_ble_eq_true rfl)⟩ hl.1 rfl (Nat.le_of_ble_eq_true rfl) dX12_shut_49 (fun r9 u10 H locs hwr9 hP hD hS => ?_)
        refine lv_isub hx hb dX12_shut_52 ?_
        refine lv_topi (fun x11 ex11 => ?_)
        refine lv_isub hx hb dX12_shut_53 ?_
        refine lv_topi (fun x12 ex12 => ?_)
        refine lv_istore (lv' := [(4, .int x12), (0, .ref (g 45)), (1, .int p1), (2, .int a2_13), (3, .int a3_13)]) hx hb dX12_shut_54 hl (by decide) rfl (fun ls hl => ?_)
        refine lv_aload_n hx hb dX12_shut_56 rfl (lv_at hl 1 rfl) ?_
        refine lv_iload_n hx hb dX12_shut_57 rfl (lv_at hl 4 rfl) ?_
        refine lv_iload_n hx hb dX12_shut_58 rfl (lv_at hl 2 rfl) ?_
        refine wvi (As := [.int a3_13, .int p1]) (rest := []) (b := (g 45)) (d := 2) F hK hP hD hS hA (s_X12_ownerIn l G g q I0 J0 R0 L0 hvI hvR  a3_13 p1 (show ((0 : Int) ≤ a3_13.toInt ∧ a3_13.toInt ≤ (4 : Int)) from by omega) (show ((0 : Int) ≤ p1.toInt ∧ p1.toInt ≤ (4 : Int)) from by omega)) kmV_X12_ownerIn mlX12_608 clX12 rfl 0 (Wm_at0 G g q I0 J0 R0 L0) ⟨(Nat.le_of_ble_eq_true rfl), (Nat.le_of_ble_eq_true rfl)⟩ hl.1 rfl (Nat.le_of_ble_eq_true rfl) dX12_shut_59 (fun r13 u14 H locs hwr13 hP hD hS => ?_)
        have F0r13 := hwr13
        replace F0r13 : ((0 : Int) ≤ r13.toInt ∧ r13.toInt ≤ (1 : Int)) := F0r13
        refine lv_if_ne (tgt := 118) hx hb dX12_shut_62 (by decide) (fun c15 => ?_) (fun c15 => ?_)
        · have gc15 : ¬ (r13.toInt = 0) := fun q0 => c15 (Int32.toInt_inj.mp q0)
          exact lab_118 a2_13 _ _ _ (show ((-1 : Int) ≤ a2_13.toInt ∧ a2_13.toInt ≤ (4 : Int)) from by omega) (show ((0 : Int) ≤ a3_13.toInt ∧ a3_13.toInt ≤ (4 : Int)) from by omega) hP hD hS (lv_sub hl [1, 2, 3, 4] rfl)
        · have gc15 : r13.toInt = 0 := congrArg Int32.toInt c15
          refine lv_iload hx hb dX12_shut_65 (lv_at hl 0 rfl) ?_
          refine lv_aload_n hx hb dX12_shut_67 rfl (lv_at hl 1 rfl) ?_
          refine lv_iload_n hx hb dX12_shut_68 rfl (lv_at hl 2 rfl) ?_
          refine wvi (As := [.int p1]) (rest := [.int x12]) (b := (g 45)) (d := 2) F hK hP hD hS hA (s_X12_othersOn l G g q I0 J0 R0 L0 hvI hvR  p1 (show ((0 : Int) ≤ p1.toInt ∧ p1.toInt ≤ (4 : Int)) from by omega)) kmV_X12_othersOn mlX12_482 clX12 rfl 0 (Wm_at0 G g q I0 J0 R0 L0) ⟨(Nat.le_of_ble_eq_true rfl), (Nat.le_of_ble_eq_true rfl)⟩ hl.1 rfl (Nat.le_of_ble_eq_true rfl) dX12_shut_69 (fun r16 u17 H locs hwr16 hP hD hS => ?_)
          refine lv_icmp_ge (tgt := 78) hx hb dX12_shut_72 (by decide) (fun c18 => ?_) (fun c18 => ?_)
          · have gc18 : r16.toInt ≤ x12.toInt := (tle _ _).mp c18
            refine lv_iload_n hx hb dX12_shut_78 rfl (lv_at hl 3 rfl) ?_
            refine lv_iconst (v := (-1)) hx hb dX12_shut_79 (by decide) ?_
            refine lv_icmp_eq (tgt := 112) hx hb dX12_shut_80 (by decide) (fun c19 => ?_) (fun c19 => ?_)
            · have gc19 : a2_13.toInt = (-1) := congrArg Int32.toInt c19
              exact lab_112  _ _ _ (show ((0 : Int) ≤ a3_13.toInt ∧ a3_13.toInt ≤ (4 : Int)) from by omega) hP hD hS (lv_sub hl [1, 2, 4] rfl)
            · have gc19 : ¬ (a2_13.toInt = (-1)) := fun q0 => c19 (Int32.toInt_inj.mp q0)
              refine lv_aload_n hx hb dX12_shut_83 rfl (lv_at hl 1 rfl) ?_
              refine g_get F hK hP 0 (Wm_at0 G g q I0 J0 R0 L0) clX12 17 (by decide) flX12_64 rfl dX12_shut_84 ?_
              refine lv_iconst (v := 5) hx hb dX12_shut_87 (by decide) ?_
              refine lv_aload_n hx hb dX12_shut_88 rfl (lv_at hl 1 rfl) ?_
              refine g_get F hK hP 0 (Wm_at0 G g q I0 J0 R0 L0) clX12 12 (by decide) flX12_48 rfl dX12_shut_89 ?_
              refine lv_imul hx hb dX12_shut_92 ?_
              refine lv_topi (fun x20 ex20 => ?_)
              have fx20 : x20.toInt = 5 * (I0 10).toInt := by rw [ex20]; exact t_mul (by show (-2147483648 : Int) ≤ 5 * (I0 10).toInt; omega) (by show 5 * (I0 10).toInt ≤ 2147483647; omega)
              refine lv_iload_n hx hb dX12_shut_93 rfl (lv_at hl 4 rfl) ?_
              refine lv_iadd hx hb dX12_shut_94 ?_
              refine lv_topi (fun x21 ex21 => ?_)
              have fx21 : x21.toInt = x20.toInt + a3_13.toInt := by rw [ex21]; exact t_add (by show (-2147483648 : Int) ≤ x20.toInt + a3_13.toInt; omega) (by show x20.toInt + a3_13.toInt ≤ 2147483647; omega)
              refine g_iald F hK hP 6 (Wm_at6 G g q I0 J0 R0 L0) (in_of (by omega)) dX12_shut_95 rfl ?_
              refine lv_topi (fun x22 ex22 => ?_)
              have gx22 : x22.toInt = (R0 4 (Int32.toNatClampNeg x21)).toInt := congrArg Int32.toInt (ex22)
              refine lv_aload_n hx hb dX12_shut_96 rfl (lv_at hl 1 rfl) ?_
              refine g_get F hK hP 0 (Wm_at0 G g q I0 J0 R0 L0) clX12 17 (by decide) flX12_64 rfl dX12_shut_97 ?_
              refine lv_iconst (v := 5) hx hb dX12_shut_100 (by decide) ?_
              refine lv_aload_n hx hb dX12_shut_101 rfl (lv_at hl 1 rfl) ?_
              refine g_get F hK hP 0 (Wm_at0 G g q I0 J0 R0 L0) clX12 12 (by decide) flX12_48 rfl dX12_shut_102 ?_
              refine lv_imul hx hb dX12_shut_105 ?_
              refine lv_topi (fun x23 ex23 => ?_)
              have fx23 : x23.toInt = 5 * (I0 10).toInt := by rw [ex23]; exact t_mul (by show (-2147483648 : Int) ≤ 5 * (I0 10).toInt; omega) (by show 5 * (I0 10).toInt ≤ 2147483647; omega)
              refine lv_iload_n hx hb dX12_shut_106 rfl (lv_at hl 3 rfl) ?_
              refine lv_iadd hx hb dX12_shut_107 ?_
              refine lv_topi (fun x24 ex24 => ?_)
              have fx24 : x24.toInt = x23.toInt + a2_13.toInt := by rw [ex24]; exact t_add (by show (-2147483648 : Int) ≤ x23.toInt + a2_13.toInt; omega) (by show x23.toInt + a2_13.toInt ≤ 2147483647; omega)
              refine g_iald F hK hP 6 (Wm_at6 G g q I0 J0 R0 L0) (in_of (by omega)) dX12_shut_108 rfl ?_
              refine lv_topi (fun x25 ex25 => ?_)
              have gx25 : x25.toInt = (R0 4 (Int32.toNatClampNeg x24)).toInt := congrArg Int32.toInt (ex25)
              refine lv_icmp_le (tgt := 116) hx hb dX12_shut_109 (by decide) (fun c26 => ?_) (fun c26 => ?_)
              · have gc26 : x22.toInt ≤ x25.toInt := (tle _ _).mp c26
                refine lv_iload_n hx hb dX12_shut_116 rfl (lv_at hl 3 rfl) ?_
                exact lab_117 a2_13 _ _ _ (show ((0 : Int) ≤ a3_13.toInt ∧ a3_13.toInt ≤ (4 : Int)) from by omega) (show ((0 : Int) ≤ a2_13.toInt ∧ a2_13.toInt ≤ (4 : Int)) from by omega) hP hD hS (lv_sub hl [1, 2, 4] rfl)
              · have gc26 : ¬ (x22.toInt ≤ x25.toInt) := fun q0 => c26 ((tle _ _).mpr q0)
                exact lab_112  _ _ _ (show ((0 : Int) ≤ a3_13.toInt ∧ a3_13.toInt ≤ (4 : Int)) from by omega) hP hD hS (lv_sub hl [1, 2, 4] rfl)
          · have gc18 : ¬ (r16.toInt ≤ x12.toInt) := fun q0 => c18 ((tle _ _).mpr q0)
            refine lv_goto (tgt := 118) hx hb dX12_shut_75 (by decide) ?_
            exact lab_118 a2_13 _ _ _ (show ((-1 : Int) ≤ a2_13.toInt ∧ a2_13.toInt ≤ (4 : Int)) from by omega) (show ((0 : Int) ≤ a3_13.toInt ∧ a3_13.toInt ≤ (4 : Int)) from by omega) hP hD hS (lv_sub hl [1, 2, 3, 4] rfl)
  refine lv_iload_n hx hb dX12_shut_0 rfl (lv_at hl 1 rfl) ?_
  refine w0i (As := [.int p1]) (rest := []) (d := 2) F hK hP hD hS hA (s_X12_isDay l G  p1 ) kmS_X12_isDay mlX12_488 ⟨(Nat.le_of_ble_eq_true rfl), (Nat.le_of_ble_eq_true rfl)⟩ hl.1 rfl (Nat.le_of_ble_eq_true rfl) dX12_shut_1 (fun r27 u28 H locs hwr27 hP hD hS => ?_)
  obtain ⟨F0r27, F1r27⟩ := hwr27
  replace F0r27 : ((0 : Int) ≤ r27.toInt ∧ r27.toInt ≤ (1 : Int)) := F0r27
  replace F1r27 : (r27.toInt = 1 → (0 ≤ p1.toInt ∧ p1.toInt ≤ 4)) := F1r27
  refine lv_if_ne (tgt := 9) hx hb dX12_shut_4 (by decide) (fun c29 => ?_) (fun c29 => ?_)
  · have gc29 : ¬ (r27.toInt = 0) := fun q0 => c29 (Int32.toInt_inj.mp q0)
    refine lv_iconst (v := (-1)) hx hb dX12_shut_9 (by decide) ?_
    refine lv_istore_n (lv' := [(2, .int (-1)), (0, .ref (g 45)), (1, .int p1)]) hx hb dX12_shut_10 rfl hl (by decide) rfl (fun ls hl => ?_)
    refine lv_iconst (v := 0) hx hb dX12_shut_11 (by decide) ?_
    refine lv_istore_n (lv' := [(3, .int 0), (2, .int (-1)), (0, .ref (g 45)), (1, .int p1)]) hx hb dX12_shut_12 rfl hl (by decide) rfl (fun ls hl => ?_)
    exact lab_13 6 ((-1)) 0 _ _ _ (show (5 - 0) < ((6 : Nat) : Int) from by omega) (show ((0 : Int) ≤ p1.toInt ∧ p1.toInt ≤ (4 : Int)) from by omega) (by decide) (by decide) hP hD hS (lv_sub hl [2, 3, 1, 0] rfl)
  · have gc29 : r27.toInt = 0 := congrArg Int32.toInt c29
    refine lv_iconst (v := (-1)) hx hb dX12_shut_7 (by decide) ?_
    rw [hQ]
    exact q_i F hr hlk () hP hD hS (show ((-1 : Int) ≤ (-1) ∧ (-1) ≤ (4 : Int)) from by omega) dX12_shut_8 (Nat.le_of_ble_eq_true rfl) (Nat.le_of_ble_eq_true rfl)
set_option maxHeartbeats 4000000 in
set_option maxRecDepth 100000 in
theorem s_X12_spent (l : Launch) (G : Gx) (g q : Nat → Nat) (I0 : Nat → Int32) (J0 : Nat → Int64) (R0 : Nat → Nat → Int32) (L0 : Nat → Nat → Int64) (hvI : InvI Wm_lo Wm_hi I0) (hvR : InvR Wm_rl R0)    : CtI (S := Unit) l yX12_spent cX12_spent 1 (some .int) (rmD 1 0 0) G [.ref (g 45)] (Wm G g q I0 J0 R0 L0) (fun r _ => ((0 : Int) ≤ r.toInt ∧ r.toInt ≤ (20000 : Int))) (fun _ => (Wm G g q I0 J0 R0 L0)) := by
  refine ctI_of (own := RX12) (by decide +kernel) rfl (Nat.le_of_ble_eq_true rfl) ?_
  intro p e s m below meth c A ls F hr hlk hnm hK hP hD hA hS hl
  have hx := F.1
  have hb := F.2.1
  have hown := F.2.2.2.1
  have hl : lv_has ls 1 [(0, .ref (g 45))] := hl
  obtain ⟨Q, hQ⟩ : ∃ Q : State → Prop, Q = MQ below (va_Qi (S := Unit) (fun r _ => ((0 : Int) ≤ r.toInt ∧ r.toInt ≤ (20000 : Int))) (BX G A (fun _ => (Wm G g q I0 J0 R0 L0))) A) [.ref (g 45)].toArray s 0 0 A := ⟨_, rfl⟩
  rw [show (MQ below (va_Qi (S := Unit) (fun r _ => ((0 : Int) ≤ r.toInt ∧ r.toInt ≤ (20000 : Int))) (BX G A (fun _ => (Wm G g q I0 J0 R0 L0))) A) [.ref (g 45)].toArray s (rmD 1 0 0).cells (rmD 1 0 0).slots A) = Q from hQ.symm]
  have hvI0 := hvI
  refine lv_aload_n hx hb dX12_spent_0 rfl (lv_at hl 0 rfl) ?_
  refine g_get F hK hP 0 (Wm_at0 G g q I0 J0 R0 L0) clX12 62 (by decide) flX12_201 rfl dX12_spent_1 ?_
  have w_I0_20 := rg (hvI0 20 (by decide)) (0) (20000) rfl rfl
  rw [hQ]
  exact q_i F hr hlk () hP hD hS (show ((0 : Int) ≤ (I0 20).toInt ∧ (I0 20).toInt ≤ (20000 : Int)) from by omega) dX12_spent_4 (Nat.le_of_ble_eq_true rfl) (Nat.le_of_ble_eq_true rfl)
set_option maxHeartbeats 4000000 in
set_option maxRecDepth 100000 in
theorem s_X12_status (l : Launch) (G : Gx) (g q : Nat → Nat) (I0 : Nat → Int32) (J0 : Nat → Int64) (R0 : Nat → Nat → Int32) (L0 : Nat → Nat → Int64) (hvI : InvI Wm_lo Wm_hi I0) (hvR : InvR Wm_rl R0)  (p1 : Int32)  : CtI (S := Unit) l yX12_status cX12_status 2 (some .int) (rmD 2 0 0) G [.ref (g 45), .int p1] (Wm G g q I0 J0 R0 L0) (fun r _ => True) (fun _ => (Wm G g q I0 J0 R0 L0)) := by
  refine ctI_of (own := RX12) (by decide +kernel) rfl (Nat.le_of_ble_eq_true rfl) ?_
  intro p e s m below meth c A ls F hr hlk hnm hK hP hD hA hS hl
  have hx := F.1
  have hb := F.2.1
  have hown := F.2.2.2.1
  have hl : lv_has ls 2 [(0, .ref (g 45)), (1, .int p1)] := hl
  obtain ⟨Q, hQ⟩ : ∃ Q : State → Prop, Q = MQ below (va_Qi (S := Unit) (fun r _ => True) (BX G A (fun _ => (Wm G g q I0 J0 R0 L0))) A) [.ref (g 45), .int p1].toArray s 0 0 A := ⟨_, rfl⟩
  rw [show (MQ below (va_Qi (S := Unit) (fun r _ => True) (BX G A (fun _ => (Wm G g q I0 J0 R0 L0))) A) [.ref (g 45), .int p1].toArray s (rmD 2 0 0).cells (rmD 2 0 0).slots A) = Q from hQ.symm]
  have hvI0 := hvI
  refine lv_iload_n hx hb dX12_status_0 rfl (lv_at hl 1 rfl) ?_
  refine lv_iconst (v := 0) hx hb dX12_status_1 (by decide) ?_
  refine lv_iconst (v := 5) hx hb dX12_status_2 (by decide) ?_
  refine w0i (As := [.int p1, .int 0, .int 5]) (rest := []) (d := 1) F hK hP hD hS hA (s_X12_is l G  p1 0 5 (by decide) (by decide)) kmS_X12_is mlX12_316 ⟨(Nat.le_of_ble_eq_true rfl), (Nat.le_of_ble_eq_true rfl)⟩ hl.1 rfl (Nat.le_of_ble_eq_true rfl) dX12_status_3 (fun r1 u2 H locs hwr1 hP hD hS => ?_)
  obtain ⟨F0r1, F1r1⟩ := hwr1
  replace F0r1 : ((0 : Int) ≤ r1.toInt ∧ r1.toInt ≤ (1 : Int)) := F0r1
  replace F1r1 : (r1.toInt = 1 → ((0 : Int) ≤ p1.toInt ∧ p1.toInt ≤ (5 : Int))) := F1r1
  refine lv_if_eq (tgt := 18) hx hb dX12_status_6 (by decide) (fun c3 => ?_) (fun c3 => ?_)
  · have gc3 : r1.toInt = 0 := congrArg Int32.toInt c3
    refine lv_iconst (v := (-1)) hx hb dX12_status_18 (by decide) ?_
    rw [hQ]
    exact q_i F hr hlk () hP hD hS trivial dX12_status_19 (Nat.le_of_ble_eq_true rfl) (Nat.le_of_ble_eq_true rfl)
  · have gc3 : ¬ (r1.toInt = 0) := fun q0 => c3 (Int32.toInt_inj.mp q0)
    refine lv_aload_n hx hb dX12_status_9 rfl (lv_at hl 0 rfl) ?_
    refine g_get F hK hP 0 (Wm_at0 G g q I0 J0 R0 L0) clX12 55 (by decide) flX12_180 rfl dX12_status_10 ?_
    refine lv_iload_n hx hb dX12_status_13 rfl (lv_at hl 1 rfl) ?_
    refine g_iald F hK hP 38 (Wm_at38 G g q I0 J0 R0 L0) (in_of (by omega)) dX12_status_14 rfl ?_
    refine lv_topi (fun x4 ex4 => ?_)
    have gx4 : x4.toInt = (R0 34 (Int32.toNatClampNeg p1)).toInt := congrArg Int32.toInt (ex4)
    refine lv_goto (tgt := 19) hx hb dX12_status_15 (by decide) ?_
    rw [hQ]
    exact q_i F hr hlk () hP hD hS trivial dX12_status_19 (Nat.le_of_ble_eq_true rfl) (Nat.le_of_ble_eq_true rfl)
set_option maxHeartbeats 4000000 in
set_option maxRecDepth 100000 in
theorem s_X12_weeks (l : Launch) (G : Gx) (g q : Nat → Nat) (I0 : Nat → Int32) (J0 : Nat → Int64) (R0 : Nat → Nat → Int32) (L0 : Nat → Nat → Int64) (hvI : InvI Wm_lo Wm_hi I0) (hvR : InvR Wm_rl R0)    : CtI (S := Unit) l yX12_weeks cX12_weeks 2 (some .int) (rmD 4 0 0) G [.ref (g 45)] (Wm G g q I0 J0 R0 L0) (fun r _ => ((-1 : Int) ≤ r.toInt ∧ r.toInt ≤ (9 : Int))) (fun _ => (Wm G g q I0 J0 R0 L0)) := by
  refine ctI_of (own := RX12) (by decide +kernel) rfl (Nat.le_of_ble_eq_true rfl) ?_
  intro p e s m below meth c A ls F hr hlk hnm hK hP hD hA hS hl
  have hx := F.1
  have hb := F.2.1
  have hown := F.2.2.2.1
  have hl : lv_has ls 2 [(0, .ref (g 45))] := hl
  obtain ⟨Q, hQ⟩ : ∃ Q : State → Prop, Q = MQ below (va_Qi (S := Unit) (fun r _ => ((-1 : Int) ≤ r.toInt ∧ r.toInt ≤ (9 : Int))) (BX G A (fun _ => (Wm G g q I0 J0 R0 L0))) A) [.ref (g 45)].toArray s 0 0 A := ⟨_, rfl⟩
  rw [show (MQ below (va_Qi (S := Unit) (fun r _ => ((-1 : Int) ≤ r.toInt ∧ r.toInt ≤ (9 : Int))) (BX G A (fun _ => (Wm G g q I0 J0 R0 L0))) A) [.ref (g 45)].toArray s (rmD 4 0 0).cells (rmD 4 0 0).slots A) = Q from hQ.symm]
  have hvI0 := hvI
  have lab_2 : ∀ (k_2 : Nat) (a1_2 : Int32) (H : Heap) (locs : List Loc) (ls : Array Slot), ((10 - a1_2.toInt) < (k_2 : Int)) → ((1 : Int) ≤ a1_2.toInt ∧ a1_2.toInt ≤ (10 : Int)) → va_P G.1 vwCl (Wm G g q I0 J0 R0 L0) H → va_D A (Wm G g q I0 J0 R0 L0) → va_S A s.heap H locs → lv_has ls 2 [(0, .ref (g 45)), (1, .int a1_2)] → W p l e (rmD 4 0 0) s m [.ref (g 45)].toArray below meth c H locs 0 0 Q (F0 m 2 ls []) := by
    intro k_2
    induction k_2 with
    | zero =>
      intro a1_2 H locs ls hm y0_2 hP hD hS hl
      exact absurd hm (by omega)
    | succ k_2 ih_2 =>
      intro a1_2 H locs ls hm y0_2 hP hD hS hl
      refine lv_iload_n hx hb dX12_weeks_2 rfl (lv_at hl 1 rfl) ?_
      refine lv_bipush (v := 9) hx hb dX12_weeks_3 (by decide) ?_
      refine lv_icmp_gt (tgt := 24) hx hb dX12_weeks_5 (by decide) (fun c1 => ?_) (fun c1 => ?_)
      · have gc1 : 9 < a1_2.toInt := (tlt _ _).mp c1
        refine lv_iconst (v := (-1)) hx hb dX12_weeks_24 (by decide) ?_
        rw [hQ]
        exact q_i F hr hlk () hP hD hS (show ((-1 : Int) ≤ (-1) ∧ (-1) ≤ (9 : Int)) from by omega) dX12_weeks_25 (Nat.le_of_ble_eq_true rfl) (Nat.le_of_ble_eq_true rfl)
      · have gc1 : ¬ (9 < a1_2.toInt) := fun q0 => c1 ((tlt _ _).mpr q0)
        refine lv_aload_n hx hb dX12_weeks_8 rfl (lv_at hl 0 rfl) ?_
        refine lv_iload_n hx hb dX12_weeks_9 rfl (lv_at hl 1 rfl) ?_
        refine wvi (As := [.int a1_2]) (rest := []) (b := (g 45)) (d := 3) F hK hP hD hS hA (s_X12_neverIn l G g q I0 J0 R0 L0 hvI hvR  a1_2 (show ((1 : Int) ≤ a1_2.toInt ∧ a1_2.toInt ≤ (9 : Int)) from by omega)) kmV_X12_neverIn mlX12_614 clX12 rfl 0 (Wm_at0 G g q I0 J0 R0 L0) ⟨(Nat.le_of_ble_eq_true rfl), (Nat.le_of_ble_eq_true rfl)⟩ hl.1 rfl (Nat.le_of_ble_eq_true rfl) dX12_weeks_10 (fun r2 u3 H locs hwr2 hP hD hS => ?_)
        refine lv_if_ne (tgt := 18) hx hb dX12_weeks_13 (by decide) (fun c4 => ?_) (fun c4 => ?_)
        · have gc4 : ¬ (r2.toInt = 0) := fun q0 => c4 (Int32.toInt_inj.mp q0)
          obtain ⟨x5, ex5⟩ : ∃ y : Int32, y = a1_2 + 1 := ⟨_, rfl⟩
          have fx5 : x5.toInt = a1_2.toInt + (1 : Int) := by rw [ex5]; exact t_add (by show (-2147483648 : Int) ≤ a1_2.toInt + (1 : Int); omega) (by show a1_2.toInt + (1 : Int) ≤ 2147483647; omega)
          refine lv_iinc (v := x5) (lv' := [(1, .int x5), (0, .ref (g 45))]) hx hb dX12_weeks_18 hl (k := 1) rfl (by rw [ex5]; rfl) (by decide) rfl (fun ls hl => ?_)
          refine lv_goto (tgt := 2) hx hb dX12_weeks_21 (by decide) ?_
          exact ih_2 x5 _ _ _ (show (10 - x5.toInt) < (k_2 : Int) from by omega) (show ((1 : Int) ≤ x5.toInt ∧ x5.toInt ≤ (10 : Int)) from by omega) hP hD hS (lv_sub hl [1, 0] rfl)
        · have gc4 : r2.toInt = 0 := congrArg Int32.toInt c4
          refine lv_iload_n hx hb dX12_weeks_16 rfl (lv_at hl 1 rfl) ?_
          rw [hQ]
          exact q_i F hr hlk () hP hD hS (show ((-1 : Int) ≤ a1_2.toInt ∧ a1_2.toInt ≤ (9 : Int)) from by omega) dX12_weeks_17 (Nat.le_of_ble_eq_true rfl) (Nat.le_of_ble_eq_true rfl)
  refine lv_iconst (v := 1) hx hb dX12_weeks_0 (by decide) ?_
  refine lv_istore_n (lv' := [(1, .int 1), (0, .ref (g 45))]) hx hb dX12_weeks_1 rfl hl (by decide) rfl (fun ls hl => ?_)
  exact lab_2 10 1 _ _ _ (show (10 - 1) < ((10 : Nat) : Int) from by omega) (by decide) hP hD hS (lv_sub hl [1, 0] rfl)
