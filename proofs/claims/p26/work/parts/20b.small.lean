set_option maxHeartbeats 4000000 in
set_option maxRecDepth 100000 in
theorem s_J6_bitCount_0f7a4 (l : Launch) (G : Gx)  (p0 : Int32)  : CtI (S := Unit) l yJ6_bitCount_0f7a4 cJ6_bitCount_0f7a4 1 (some .int) (rmD 1 0 0) G [.int p0] [] (fun r _ => ((0 : Int) ≤ r.toInt ∧ r.toInt ≤ (63 : Int))) (fun _ => []) := by
  refine ctI_of (own := RJ6) (by decide +kernel) rfl (Nat.le_of_ble_eq_true rfl) ?_
  intro p e s m below meth c A ls F hr hlk hnm hK hP hD hA hS hl
  have hx := F.1
  have hb := F.2.1
  have hown := F.2.2.2.1
  have hl : lv_has ls 1 [(0, .int p0)] := hl
  obtain ⟨Q, hQ⟩ : ∃ Q : State → Prop, Q = MQ below (va_Qi (S := Unit) (fun r _ => ((0 : Int) ≤ r.toInt ∧ r.toInt ≤ (63 : Int))) (BX G A (fun _ => [])) A) [.int p0].toArray s 0 0 A := ⟨_, rfl⟩
  rw [show (MQ below (va_Qi (S := Unit) (fun r _ => ((0 : Int) ≤ r.toInt ∧ r.toInt ≤ (63 : Int))) (BX G A (fun _ => [])) A) [.int p0].toArray s (rmD 1 0 0).cells (rmD 1 0 0).slots A) = Q from hQ.symm]
  refine lv_iload_n hx hb dJ6_bitCount_0f7a4_0 rfl (lv_at hl 0 rfl) ?_
  refine lv_iload_n hx hb dJ6_bitCount_0f7a4_1 rfl (lv_at hl 0 rfl) ?_
  refine lv_iconst (v := 1) hx hb dJ6_bitCount_0f7a4_2 (by decide) ?_
  obtain ⟨x1, ex1⟩ : ∃ y : Int32, ((p0 : Int32).toUInt32 >>> ((1 : Int32).toUInt32 &&& Int32.toUInt32 31)).toInt32 = y := ⟨_, rfl⟩
  refine lv_iushr (v := x1) hx hb dJ6_bitCount_0f7a4_3 ex1 ?_
  refine lv_ldcw hx hb hown (F.2.2.2.2 _ cnJ6_265) dJ6_bitCount_0f7a4_4 ?_
  refine lv_iand hx hb dJ6_bitCount_0f7a4_7 ?_
  refine lv_topi (fun x2 ex2 => ?_)
  have fx2 : (0 : Int) ≤ x2.toInt ∧ x2.toInt ≤ (1431655765 : Int) := by rw [ex2]; exact t_and (b := 1431655765) (by decide)
  refine lv_isub hx hb dJ6_bitCount_0f7a4_8 ?_
  refine lv_topi (fun x3 ex3 => ?_)
  refine lv_istore_n (lv' := [(0, .int x3)]) hx hb dJ6_bitCount_0f7a4_9 rfl hl (by decide) rfl (fun ls hl => ?_)
  refine lv_iload_n hx hb dJ6_bitCount_0f7a4_10 rfl (lv_at hl 0 rfl) ?_
  refine lv_ldcw hx hb hown (F.2.2.2.2 _ cnJ6_266) dJ6_bitCount_0f7a4_11 ?_
  refine lv_iand hx hb dJ6_bitCount_0f7a4_14 ?_
  refine lv_topi (fun x4 ex4 => ?_)
  have fx4 : (0 : Int) ≤ x4.toInt ∧ x4.toInt ≤ (858993459 : Int) := by rw [ex4]; exact t_and (b := 858993459) (by decide)
  refine lv_iload_n hx hb dJ6_bitCount_0f7a4_15 rfl (lv_at hl 0 rfl) ?_
  refine lv_iconst (v := 2) hx hb dJ6_bitCount_0f7a4_16 (by decide) ?_
  obtain ⟨x5, ex5⟩ : ∃ y : Int32, ((x3 : Int32).toUInt32 >>> ((2 : Int32).toUInt32 &&& Int32.toUInt32 31)).toInt32 = y := ⟨_, rfl⟩
  refine lv_iushr (v := x5) hx hb dJ6_bitCount_0f7a4_17 ex5 ?_
  refine lv_ldcw hx hb hown (F.2.2.2.2 _ cnJ6_266) dJ6_bitCount_0f7a4_18 ?_
  refine lv_iand hx hb dJ6_bitCount_0f7a4_21 ?_
  refine lv_topi (fun x6 ex6 => ?_)
  have fx6 : (0 : Int) ≤ x6.toInt ∧ x6.toInt ≤ (858993459 : Int) := by rw [ex6]; exact t_and (b := 858993459) (by decide)
  refine lv_iadd hx hb dJ6_bitCount_0f7a4_22 ?_
  refine lv_topi (fun x7 ex7 => ?_)
  have fx7 : x7.toInt = x4.toInt + x6.toInt := by rw [ex7]; exact t_add (by show (-2147483648 : Int) ≤ x4.toInt + x6.toInt; omega) (by show x4.toInt + x6.toInt ≤ 2147483647; omega)
  refine lv_istore_n (lv' := [(0, .int x7)]) hx hb dJ6_bitCount_0f7a4_23 rfl hl (by decide) rfl (fun ls hl => ?_)
  refine lv_iload_n hx hb dJ6_bitCount_0f7a4_24 rfl (lv_at hl 0 rfl) ?_
  refine lv_iload_n hx hb dJ6_bitCount_0f7a4_25 rfl (lv_at hl 0 rfl) ?_
  refine lv_iconst (v := 4) hx hb dJ6_bitCount_0f7a4_26 (by decide) ?_
  obtain ⟨x8, ex8⟩ : ∃ y : Int32, ((x7 : Int32).toUInt32 >>> ((4 : Int32).toUInt32 &&& Int32.toUInt32 31)).toInt32 = y := ⟨_, rfl⟩
  refine lv_iushr (v := x8) hx hb dJ6_bitCount_0f7a4_27 ex8 ?_
  refine lv_iadd hx hb dJ6_bitCount_0f7a4_28 ?_
  refine lv_topi (fun x9 ex9 => ?_)
  refine lv_ldcw hx hb hown (F.2.2.2.2 _ cnJ6_267) dJ6_bitCount_0f7a4_29 ?_
  refine lv_iand hx hb dJ6_bitCount_0f7a4_32 ?_
  refine lv_topi (fun x10 ex10 => ?_)
  have fx10 : (0 : Int) ≤ x10.toInt ∧ x10.toInt ≤ (252645135 : Int) := by rw [ex10]; exact t_and (b := 252645135) (by decide)
  refine lv_istore_n (lv' := [(0, .int x10)]) hx hb dJ6_bitCount_0f7a4_33 rfl hl (by decide) rfl (fun ls hl => ?_)
  refine lv_iload_n hx hb dJ6_bitCount_0f7a4_34 rfl (lv_at hl 0 rfl) ?_
  refine lv_iload_n hx hb dJ6_bitCount_0f7a4_35 rfl (lv_at hl 0 rfl) ?_
  refine lv_bipush (v := 8) hx hb dJ6_bitCount_0f7a4_36 (by decide) ?_
  obtain ⟨x11, ex11⟩ : ∃ y : Int32, ((x10 : Int32).toUInt32 >>> ((8 : Int32).toUInt32 &&& Int32.toUInt32 31)).toInt32 = y := ⟨_, rfl⟩
  refine lv_iushr (v := x11) hx hb dJ6_bitCount_0f7a4_38 ex11 ?_
  refine lv_iadd hx hb dJ6_bitCount_0f7a4_39 ?_
  refine lv_topi (fun x12 ex12 => ?_)
  refine lv_istore_n (lv' := [(0, .int x12)]) hx hb dJ6_bitCount_0f7a4_40 rfl hl (by decide) rfl (fun ls hl => ?_)
  refine lv_iload_n hx hb dJ6_bitCount_0f7a4_41 rfl (lv_at hl 0 rfl) ?_
  refine lv_iload_n hx hb dJ6_bitCount_0f7a4_42 rfl (lv_at hl 0 rfl) ?_
  refine lv_bipush (v := 16) hx hb dJ6_bitCount_0f7a4_43 (by decide) ?_
  obtain ⟨x13, ex13⟩ : ∃ y : Int32, ((x12 : Int32).toUInt32 >>> ((16 : Int32).toUInt32 &&& Int32.toUInt32 31)).toInt32 = y := ⟨_, rfl⟩
  refine lv_iushr (v := x13) hx hb dJ6_bitCount_0f7a4_45 ex13 ?_
  refine lv_iadd hx hb dJ6_bitCount_0f7a4_46 ?_
  refine lv_topi (fun x14 ex14 => ?_)
  refine lv_istore_n (lv' := [(0, .int x14)]) hx hb dJ6_bitCount_0f7a4_47 rfl hl (by decide) rfl (fun ls hl => ?_)
  refine lv_iload_n hx hb dJ6_bitCount_0f7a4_48 rfl (lv_at hl 0 rfl) ?_
  refine lv_bipush (v := 63) hx hb dJ6_bitCount_0f7a4_49 (by decide) ?_
  refine lv_iand hx hb dJ6_bitCount_0f7a4_51 ?_
  refine lv_topi (fun x15 ex15 => ?_)
  have fx15 : (0 : Int) ≤ x15.toInt ∧ x15.toInt ≤ (63 : Int) := by rw [ex15]; exact t_and (b := 63) (by decide)
  rw [hQ]
  exact q_i F hr hlk () hP hD hS (show ((0 : Int) ≤ x15.toInt ∧ x15.toInt ≤ (63 : Int)) from by omega) dJ6_bitCount_0f7a4_52 (Nat.le_of_ble_eq_true rfl) (Nat.le_of_ble_eq_true rfl)
set_option maxHeartbeats 4000000 in
set_option maxRecDepth 100000 in
theorem s_J9_floorDiv_7cf53 (l : Launch) (G : Gx)  (p0 : Int32) (p1 : Int32) (hpre0 : (¬ p1.toInt = 0)) : CtI (S := Unit) l yJ9_floorDiv_7cf53 cJ9_floorDiv_7cf53 3 (some .int) (rmD 1 0 0) G [.int p0, .int p1] [] (fun r _ => True) (fun _ => []) := by
  refine ctI_ofF (own := RJ9) (by decide +kernel) rfl (Nat.le_of_ble_eq_true rfl) ?_
  intro p e s m below meth c A ls F hr hlk hnm hK hP hD hA hS hl
  have hx := F.1
  have hb := F.2.1
  have hown := F.2.2.2.1
  have hl : lv_has ls 3 [(0, .int p0), (1, .int p1)] := hl
  obtain ⟨Q, hQ⟩ : ∃ Q : State → Prop, Q = MQ below (va_Qi (S := Unit) (fun r _ => True) (BX G A (fun _ => [])) A) [.int p0, .int p1].toArray s 0 0 A := ⟨_, rfl⟩
  rw [show (MQ below (va_Qi (S := Unit) (fun r _ => True) (BX G A (fun _ => [])) A) [.int p0, .int p1].toArray s (rmD 1 0 0).cells (rmD 1 0 0).slots A) = Q from hQ.symm]
  refine lv_iload_n hx hb dJ9_floorDiv_7cf53_0 rfl (lv_at hl 0 rfl) ?_
  refine lv_iload_n hx hb dJ9_floorDiv_7cf53_1 rfl (lv_at hl 1 rfl) ?_
  refine lv_idiv hx hb dJ9_floorDiv_7cf53_2 (fun h0 => absurd (congrArg Int32.toInt h0) (show ¬ p1.toInt = 0 from by omega)) ?_
  refine lv_topi (fun x1 ex1 => ?_)
  refine lv_istore_n (lv' := [(2, .int x1), (0, .int p0), (1, .int p1)]) hx hb dJ9_floorDiv_7cf53_3 rfl hl (by decide) rfl (fun ls hl => ?_)
  refine lv_iload_n hx hb dJ9_floorDiv_7cf53_4 rfl (lv_at hl 1 rfl) ?_
  refine lv_iload_n hx hb dJ9_floorDiv_7cf53_5 rfl (lv_at hl 2 rfl) ?_
  refine lv_ixor hx hb dJ9_floorDiv_7cf53_6 ?_
  refine lv_topi (fun x2 ex2 => ?_)
  refine lv_if_ge (tgt := 21) hx hb dJ9_floorDiv_7cf53_7 (by decide) (fun c3 => ?_) (fun c3 => ?_)
  · have gc3 : 0 ≤ x2.toInt := (tle _ _).mp c3
    refine lv_iload_n hx hb dJ9_floorDiv_7cf53_21 rfl (lv_at hl 0 rfl) ?_
    rw [hQ]
    exact q_i F hr hlk () hP hD hS trivial dJ9_floorDiv_7cf53_22 (Nat.le_of_ble_eq_true rfl) (Nat.le_of_ble_eq_true rfl)
  · have gc3 : ¬ (0 ≤ x2.toInt) := fun q0 => c3 ((tle _ _).mpr q0)
    refine lv_iload_n hx hb dJ9_floorDiv_7cf53_10 rfl (lv_at hl 0 rfl) ?_
    refine lv_iload_n hx hb dJ9_floorDiv_7cf53_11 rfl (lv_at hl 2 rfl) ?_
    refine lv_imul hx hb dJ9_floorDiv_7cf53_12 ?_
    refine lv_topi (fun x4 ex4 => ?_)
    refine lv_iload_n hx hb dJ9_floorDiv_7cf53_13 rfl (lv_at hl 1 rfl) ?_
    refine lv_icmp_eq (tgt := 21) hx hb dJ9_floorDiv_7cf53_14 (by decide) (fun c5 => ?_) (fun c5 => ?_)
    · have gc5 : x4.toInt = p0.toInt := congrArg Int32.toInt c5
      refine lv_iload_n hx hb dJ9_floorDiv_7cf53_21 rfl (lv_at hl 0 rfl) ?_
      rw [hQ]
      exact q_i F hr hlk () hP hD hS trivial dJ9_floorDiv_7cf53_22 (Nat.le_of_ble_eq_true rfl) (Nat.le_of_ble_eq_true rfl)
    · have gc5 : ¬ (x4.toInt = p0.toInt) := fun q0 => c5 (Int32.toInt_inj.mp q0)
      refine lv_iload_n hx hb dJ9_floorDiv_7cf53_17 rfl (lv_at hl 0 rfl) ?_
      refine lv_iconst (v := 1) hx hb dJ9_floorDiv_7cf53_18 (by decide) ?_
      refine lv_isub hx hb dJ9_floorDiv_7cf53_19 ?_
      refine lv_topi (fun x6 ex6 => ?_)
      rw [hQ]
      exact q_i F hr hlk () hP hD hS trivial dJ9_floorDiv_7cf53_20 (Nat.le_of_ble_eq_true rfl) (Nat.le_of_ble_eq_true rfl)
set_option maxHeartbeats 4000000 in
set_option maxRecDepth 100000 in
theorem s_J9_floorMod_7cf53 (l : Launch) (G : Gx)  (p0 : Int32) (p1 : Int32) (hpre0 : (¬ p1.toInt = 0)) : CtI (S := Unit) l yJ9_floorMod_7cf53 cJ9_floorMod_7cf53 3 (some .int) (rmD 1 0 0) G [.int p0, .int p1] [] (fun r _ => True) (fun _ => []) := by
  refine ctI_ofF (own := RJ9) (by decide +kernel) rfl (Nat.le_of_ble_eq_true rfl) ?_
  intro p e s m below meth c A ls F hr hlk hnm hK hP hD hA hS hl
  have hx := F.1
  have hb := F.2.1
  have hown := F.2.2.2.1
  have hl : lv_has ls 3 [(0, .int p0), (1, .int p1)] := hl
  obtain ⟨Q, hQ⟩ : ∃ Q : State → Prop, Q = MQ below (va_Qi (S := Unit) (fun r _ => True) (BX G A (fun _ => [])) A) [.int p0, .int p1].toArray s 0 0 A := ⟨_, rfl⟩
  rw [show (MQ below (va_Qi (S := Unit) (fun r _ => True) (BX G A (fun _ => [])) A) [.int p0, .int p1].toArray s (rmD 1 0 0).cells (rmD 1 0 0).slots A) = Q from hQ.symm]
  refine lv_iload_n hx hb dJ9_floorMod_7cf53_0 rfl (lv_at hl 0 rfl) ?_
  refine lv_iload_n hx hb dJ9_floorMod_7cf53_1 rfl (lv_at hl 1 rfl) ?_
  refine lv_irem hx hb dJ9_floorMod_7cf53_2 (fun h0 => absurd (congrArg Int32.toInt h0) (show ¬ p1.toInt = 0 from by omega)) ?_
  refine lv_topi (fun x1 ex1 => ?_)
  refine lv_istore_n (lv' := [(2, .int x1), (0, .int p0), (1, .int p1)]) hx hb dJ9_floorMod_7cf53_3 rfl hl (by decide) rfl (fun ls hl => ?_)
  refine lv_iload_n hx hb dJ9_floorMod_7cf53_4 rfl (lv_at hl 1 rfl) ?_
  refine lv_iload_n hx hb dJ9_floorMod_7cf53_5 rfl (lv_at hl 2 rfl) ?_
  refine lv_ixor hx hb dJ9_floorMod_7cf53_6 ?_
  refine lv_topi (fun x2 ex2 => ?_)
  refine lv_if_ge (tgt := 18) hx hb dJ9_floorMod_7cf53_7 (by decide) (fun c3 => ?_) (fun c3 => ?_)
  · have gc3 : 0 ≤ x2.toInt := (tle _ _).mp c3
    refine lv_iload_n hx hb dJ9_floorMod_7cf53_18 rfl (lv_at hl 0 rfl) ?_
    rw [hQ]
    exact q_i F hr hlk () hP hD hS trivial dJ9_floorMod_7cf53_19 (Nat.le_of_ble_eq_true rfl) (Nat.le_of_ble_eq_true rfl)
  · have gc3 : ¬ (0 ≤ x2.toInt) := fun q0 => c3 ((tle _ _).mpr q0)
    refine lv_iload_n hx hb dJ9_floorMod_7cf53_10 rfl (lv_at hl 0 rfl) ?_
    refine lv_if_eq (tgt := 18) hx hb dJ9_floorMod_7cf53_11 (by decide) (fun c4 => ?_) (fun c4 => ?_)
    · have gc4 : x1.toInt = 0 := congrArg Int32.toInt c4
      refine lv_iload_n hx hb dJ9_floorMod_7cf53_18 rfl (lv_at hl 0 rfl) ?_
      rw [hQ]
      exact q_i F hr hlk () hP hD hS trivial dJ9_floorMod_7cf53_19 (Nat.le_of_ble_eq_true rfl) (Nat.le_of_ble_eq_true rfl)
    · have gc4 : ¬ (x1.toInt = 0) := fun q0 => c4 (Int32.toInt_inj.mp q0)
      refine lv_iload_n hx hb dJ9_floorMod_7cf53_14 rfl (lv_at hl 0 rfl) ?_
      refine lv_iload_n hx hb dJ9_floorMod_7cf53_15 rfl (lv_at hl 2 rfl) ?_
      refine lv_iadd hx hb dJ9_floorMod_7cf53_16 ?_
      refine lv_topi (fun x5 ex5 => ?_)
      rw [hQ]
      exact q_i F hr hlk () hP hD hS trivial dJ9_floorMod_7cf53_17 (Nat.le_of_ble_eq_true rfl) (Nat.le_of_ble_eq_true rfl)
