set_option maxHeartbeats 4000000 in
set_option maxRecDepth 100000 in
theorem s_X12_named2 (l : Launch) (G : Gx) (g q : Nat → Nat) (I0 : Nat → Int32) (J0 : Nat → Int64) (R0 : Nat → Nat → Int32) (L0 : Nat → Nat → Int64) (hvI : InvI Wm_lo Wm_hi I0) (hvR : InvR Wm_rl R0)  (p1 : Int32) (p2 : Int64) (hp1 : ((0 : Int) ≤ p1.toInt ∧ p1.toInt ≤ (2 : Int))) : CtI (S := Unit) l yX12_named cX12_named 8 (some .int) (rmD 1 0 0) G [.ref (g 45), .int p1, .long p2] (Wm G g q I0 J0 R0 L0) (fun r _ => ((-1 : Int) ≤ r.toInt ∧ r.toInt ≤ (11 : Int)) ∧ (p1.toInt = 0 → r.toInt ≤ 4) ∧ (p1.toInt = 1 → r.toInt ≤ 5) ∧ (p1.toInt = 2 → ∀ k : Nat, (k : Int) < (R0 7 (Int32.toNatClampNeg (I0 12))).toInt → r.toInt = -1 → ¬ L0 2 ((12 * (I0 12).toInt + (k : Int)).toNat) = p2) ∧ (p1.toInt = 2 → 0 ≤ r.toInt → (r.toInt < (R0 7 (Int32.toNatClampNeg (I0 12))).toInt ∧ L0 2 ((12 * (I0 12).toInt + r.toInt).toNat) = p2))) (fun _ => (Wm G g q I0 J0 R0 L0)) := by
  refine ctI_of (own := RX12) (by decide +kernel) rfl (Nat.le_of_ble_eq_true rfl) ?_
  intro p e s m below meth c A ls F hr hlk hnm hK hP hD hA hS hl
  have hx := F.1
  have hb := F.2.1
  have hown := F.2.2.2.1
  have hl : lv_has ls 8 [(0, .ref (g 45)), (1, .int p1), (2, .long p2)] := hl
  obtain ⟨Q, hQ⟩ : ∃ Q : State → Prop, Q = MQ below (va_Qi (S := Unit) (fun r _ => ((-1 : Int) ≤ r.toInt ∧ r.toInt ≤ (11 : Int)) ∧ (p1.toInt = 0 → r.toInt ≤ 4) ∧ (p1.toInt = 1 → r.toInt ≤ 5) ∧ (p1.toInt = 2 → ∀ k : Nat, (k : Int) < (R0 7 (Int32.toNatClampNeg (I0 12))).toInt → r.toInt = -1 → ¬ L0 2 ((12 * (I0 12).toInt + (k : Int)).toNat) = p2) ∧ (p1.toInt = 2 → 0 ≤ r.toInt → (r.toInt < (R0 7 (Int32.toNatClampNeg (I0 12))).toInt ∧ L0 2 ((12 * (I0 12).toInt + r.toInt).toNat) = p2))) (BX G A (fun _ => (Wm G g q I0 J0 R0 L0))) A) [.ref (g 45), .int p1, .long p2].toArray s 0 0 A := ⟨_, rfl⟩
  rw [show (MQ below (va_Qi (S := Unit) (fun r _ => ((-1 : Int) ≤ r.toInt ∧ r.toInt ≤ (11 : Int)) ∧ (p1.toInt = 0 → r.toInt ≤ 4) ∧ (p1.toInt = 1 → r.toInt ≤ 5) ∧ (p1.toInt = 2 → ∀ k : Nat, (k : Int) < (R0 7 (Int32.toNatClampNeg (I0 12))).toInt → r.toInt = -1 → ¬ L0 2 ((12 * (I0 12).toInt + (k : Int)).toNat) = p2) ∧ (p1.toInt = 2 → 0 ≤ r.toInt → (r.toInt < (R0 7 (Int32.toNatClampNeg (I0 12))).toInt ∧ L0 2 ((12 * (I0 12).toInt + r.toInt).toNat) = p2))) (BX G A (fun _ => (Wm G g q I0 J0 R0 L0))) A) [.ref (g 45), .int p1, .long p2].toArray s (rmD 1 0 0).cells (rmD 1 0 0).slots A) = Q from hQ.symm]
  have hvI0 := hvI
  have lab_47 : ∀ (k_47 : Nat) (a4_47 : Int32) (a5_47 : Int32) (H : Heap) (locs : List Loc) (ls : Array Slot), ((12 - a5_47.toInt) < (k_47 : Int)) → ((0 : Int) ≤ a4_47.toInt ∧ a4_47.toInt ≤ (12 : Int)) → ((0 : Int) ≤ a5_47.toInt ∧ a5_47.toInt ≤ (12 : Int)) → (p1.toInt = 0 → a4_47.toInt ≤ 5) → (p1.toInt = 1 → a4_47.toInt ≤ 6) → (p1.toInt = 2 → (a4_47.toInt = (R0 7 (Int32.toNatClampNeg (I0 12))).toInt ∧ ∀ k : Nat, (k : Int) < a5_47.toInt → ¬ L0 2 ((12 * (I0 12).toInt + (k : Int)).toNat) = p2)) → va_P G.1 vwCl (Wm G g q I0 J0 R0 L0) H → va_D A (Wm G g q I0 J0 R0 L0) → va_S A s.heap H locs → lv_has ls 8 [(0, .ref (g 45)), (1, .int p1), (2, .long p2), (4, .int a4_47), (5, .int a5_47)] → W p l e (rmD 1 0 0) s m [.ref (g 45), .int p1, .long p2].toArray below meth c H locs 0 0 Q (F0 m 47 ls []) := by
    intro k_47
    induction k_47 with
    | zero =>
      intro a4_47 a5_47 H locs ls hm y0_47 y1_47 z0_47 z1_47 xl0_47 hP hD hS hl
      exact absurd hm (by omega)
    | succ k_47 ih_47 =>
      intro a4_47 a5_47 H locs ls hm y0_47 y1_47 z0_47 z1_47 xl0_47 hP hD hS hl
      have lab_113 : ∀ (b0_113 : Int64) (H : Heap) (locs : List Loc) (ls : Array Slot), ((1 : Int) ≤ a4_47.toInt ∧ a4_47.toInt ≤ (12 : Int)) → ((0 : Int) ≤ a5_47.toInt ∧ a5_47.toInt ≤ (11 : Int)) → (p1.toInt = 0 → a5_47.toInt ≤ 4) → (p1.toInt = 1 → a5_47.toInt ≤ 5) → (a5_47.toInt < a4_47.toInt) → (p1.toInt = 2 → (a4_47.toInt = (R0 7 (Int32.toNatClampNeg (I0 12))).toInt ∧ b0_113 = L0 2 ((12 * (I0 12).toInt + a5_47.toInt).toNat) ∧ ∀ k : Nat, (k : Int) < a5_47.toInt → ¬ L0 2 ((12 * (I0 12).toInt + (k : Int)).toNat) = p2)) → va_P G.1 vwCl (Wm G g q I0 J0 R0 L0) H → va_D A (Wm G g q I0 J0 R0 L0) → va_S A s.heap H locs → lv_has ls 8 [(0, .ref (g 45)), (1, .int p1), (2, .long p2), (4, .int a4_47), (5, .int a5_47)] → W p l e (rmD 1 0 0) s m [.ref (g 45), .int p1, .long p2].toArray below meth c H locs 0 0 Q (F0 m 113 ls [.long b0_113]) := by
        intro b0_113 H locs ls y0_113 y1_113 z0_113 z1_113 z2_113 xl0_113 hP hD hS hl
        refine lv_lstore (lv' := [(6, .long b0_113), (0, .ref (g 45)), (1, .int p1), (2, .long p2), (4, .int a4_47), (5, .int a5_47)]) hx hb dX12_named_113 hl (by decide) rfl (fun ls hl => ?_)
        refine lv_lload hx hb dX12_named_115 (lv_at hl 0 rfl) ?_
        refine lv_lload_n hx hb dX12_named_117 rfl (lv_at hl 3 rfl) ?_
        refine W.lcmp hx hb dX12_named_118 ?_
        refine lv_topi (fun x1 ex1 => ?_)
        refine lv_if_ne (tgt := 125) hx hb dX12_named_119 (by decide) (fun c2 => ?_) (fun c2 => ?_)
        · have gc2 : ¬ (x1.toInt = 0) := fun q0 => c2 (Int32.toInt_inj.mp q0)
          have nc2 : ¬ b0_113 = p2 := fun q0 => c2 (by rw [ex1, q0]; exact lcmp_s _)
          obtain ⟨x3, ex3⟩ : ∃ y : Int32, y = a5_47 + 1 := ⟨_, rfl⟩
          have fx3 : x3.toInt = a5_47.toInt + (1 : Int) := by rw [ex3]; exact t_add (by show (-2147483648 : Int) ≤ a5_47.toInt + (1 : Int); omega) (by show a5_47.toInt + (1 : Int) ≤ 2147483647; omega)
          refine lv_iinc (v := x3) (lv' := [(5, .int x3), (6, .long b0_113), (0, .ref (g 45)), (1, .int p1), (2, .long p2), (4, .int a4_47)]) hx hb dX12_named_125 hl (k := 5) rfl (by rw [ex3]; rfl) (by decide) rfl (fun ls hl => ?_)
          refine lv_goto (tgt := 47) hx hb dX12_named_128 (by decide) ?_
          exact ih_47 a4_47 x3 _ _ _ (show (12 - x3.toInt) < (k_47 : Int) from by omega) (show ((0 : Int) ≤ a4_47.toInt ∧ a4_47.toInt ≤ (12 : Int)) from by omega) (show ((0 : Int) ≤ x3.toInt ∧ x3.toInt ≤ (12 : Int)) from by omega) (show (p1.toInt = 0 → a4_47.toInt ≤ 5) from by omega) (show (p1.toInt = 1 → a4_47.toInt ≤ 6) from by omega) (show (p1.toInt = 2 → (a4_47.toInt = (R0 7 (Int32.toNatClampNeg (I0 12))).toInt ∧ ∀ k : Nat, (k : Int) < x3.toInt → ¬ L0 2 ((12 * (I0 12).toInt + (k : Int)).toNat) = p2)) from fun q0 => ⟨(xl0_113 q0).1, fun k hk => by
        by_cases hz : (k : Int) < a5_47.toInt
        · exact (xl0_113 q0).2.2 k hz
        · rw [show (12 * (I0 12).toInt + (k : Int)).toNat = (12 * (I0 12).toInt + a5_47.toInt).toNat from congrArg Int.toNat (by omega), ← (xl0_113 q0).2.1]
          exact nc2⟩) hP hD hS (lv_sub hl [2, 3, 4, 5, 0] rfl)
        · have gc2 : x1.toInt = 0 := congrArg Int32.toInt c2
          refine lv_iload hx hb dX12_named_122 (lv_at hl 5 rfl) ?_
          rw [hQ]
          exact q_i F hr hlk () hP hD hS ⟨(show ((-1 : Int) ≤ a5_47.toInt ∧ a5_47.toInt ≤ (11 : Int)) from by omega), (show (p1.toInt = 0 → a5_47.toInt ≤ 4) from by omega), (show (p1.toInt = 1 → a5_47.toInt ≤ 5) from by omega), (show (p1.toInt = 2 → ∀ k : Nat, (k : Int) < (R0 7 (Int32.toNatClampNeg (I0 12))).toInt → a5_47.toInt = -1 → ¬ L0 2 ((12 * (I0 12).toInt + (k : Int)).toNat) = p2) from fun q0 k hk hr => absurd hr (by omega)), (show (p1.toInt = 2 → 0 ≤ a5_47.toInt → (a5_47.toInt < (R0 7 (Int32.toNatClampNeg (I0 12))).toInt ∧ L0 2 ((12 * (I0 12).toInt + a5_47.toInt).toNat) = p2)) from fun q0 hr => ⟨by have := (xl0_113 q0).1; omega, by rw [← (xl0_113 q0).2.1]; exact lcmp_e (by rw [← ex1]; exact c2)⟩)⟩ dX12_named_124 (Nat.le_of_ble_eq_true rfl) (Nat.le_of_ble_eq_true rfl)
      refine lv_iload hx hb dX12_named_47 (lv_at hl 4 rfl) ?_
      refine lv_iload hx hb dX12_named_49 (lv_at hl 3 rfl) ?_
      refine lv_icmp_ge (tgt := 131) hx hb dX12_named_51 (by decide) (fun c4 => ?_) (fun c4 => ?_)
      · have gc4 : a4_47.toInt ≤ a5_47.toInt := (tle _ _).mp c4
        refine lv_iconst (v := (-1)) hx hb dX12_named_131 (by decide) ?_
        rw [hQ]
        exact q_i F hr hlk () hP hD hS ⟨(show ((-1 : Int) ≤ (-1) ∧ (-1) ≤ (11 : Int)) from by omega), (show (p1.toInt = 0 → (-1) ≤ 4) from by omega), (show (p1.toInt = 1 → (-1) ≤ 5) from by omega), (show (p1.toInt = 2 → ∀ k : Nat, (k : Int) < (R0 7 (Int32.toNatClampNeg (I0 12))).toInt → (-1) = -1 → ¬ L0 2 ((12 * (I0 12).toInt + (k : Int)).toNat) = p2) from fun q0 k hk hr => (xl0_47 q0).2 k (by have := (xl0_47 q0).1; omega)), (show (p1.toInt = 2 → 0 ≤ (-1) → ((-1) < (R0 7 (Int32.toNatClampNeg (I0 12))).toInt ∧ L0 2 ((12 * (I0 12).toInt + (-1)).toNat) = p2)) from fun q0 hr => absurd hr (by decide))⟩ dX12_named_132 (Nat.le_of_ble_eq_true rfl) (Nat.le_of_ble_eq_true rfl)
      · have gc4 : ¬ (a4_47.toInt ≤ a5_47.toInt) := fun q0 => c4 ((tle _ _).mpr q0)
        refine lv_iload_n hx hb dX12_named_54 rfl (lv_at hl 1 rfl) ?_
        refine lv_if_ne (tgt := 75) hx hb dX12_named_55 (by decide) (fun c5 => ?_) (fun c5 => ?_)
        · have gc5 : ¬ (p1.toInt = 0) := fun q0 => c5 (Int32.toInt_inj.mp q0)
          refine lv_iload_n hx hb dX12_named_75 rfl (lv_at hl 1 rfl) ?_
          refine lv_iconst (v := 1) hx hb dX12_named_76 (by decide) ?_
          refine lv_icmp_ne (tgt := 98) hx hb dX12_named_77 (by decide) (fun c6 => ?_) (fun c6 => ?_)
          · have gc6 : ¬ (p1.toInt = 1) := fun q0 => c6 (Int32.toInt_inj.mp q0)
            refine lv_aload_n hx hb dX12_named_98 rfl (lv_at hl 0 rfl) ?_
            refine g_get F hK hP 0 (Wm_at0 G g q I0 J0 R0 L0) clX12 22 (by decide) flX12_80 rfl dX12_named_99 ?_
            refine lv_bipush (v := 12) hx hb dX12_named_102 (by decide) ?_
            refine lv_aload_n hx hb dX12_named_104 rfl (lv_at hl 0 rfl) ?_
            refine g_get F hK hP 0 (Wm_at0 G g q I0 J0 R0 L0) clX12 44 (by decide) flX12_146 rfl dX12_named_105 ?_
            have w_I0_12 := rg (hvI0 12 (by decide)) (0) (1) rfl rfl
            refine lv_imul hx hb dX12_named_108 ?_
            refine lv_topi (fun x7 ex7 => ?_)
            have fx7 : x7.toInt = 12 * (I0 12).toInt := by rw [ex7]; exact t_mul (by show (-2147483648 : Int) ≤ 12 * (I0 12).toInt; omega) (by show 12 * (I0 12).toInt ≤ 2147483647; omega)
            refine lv_iload hx hb dX12_named_109 (lv_at hl 4 rfl) ?_
            refine lv_iadd hx hb dX12_named_111 ?_
            refine lv_topi (fun x8 ex8 => ?_)
            have fx8 : x8.toInt = x7.toInt + a5_47.toInt := by rw [ex8]; exact t_add (by show (-2147483648 : Int) ≤ x7.toInt + a5_47.toInt; omega) (by show x7.toInt + a5_47.toInt ≤ 2147483647; omega)
            refine g_lald F hK hP 11 (Wm_at11 G g q I0 J0 R0 L0) (in_of (by omega)) dX12_named_112 rfl ?_
            refine lv_topl (fun x9 ex9 => ?_)
            exact lab_113 x9 _ _ _ (show ((1 : Int) ≤ a4_47.toInt ∧ a4_47.toInt ≤ (12 : Int)) from by omega) (show ((0 : Int) ≤ a5_47.toInt ∧ a5_47.toInt ≤ (11 : Int)) from by omega) (show (p1.toInt = 0 → a5_47.toInt ≤ 4) from by omega) (show (p1.toInt = 1 → a5_47.toInt ≤ 5) from by omega) (show (a5_47.toInt < a4_47.toInt) from by omega) (show (p1.toInt = 2 → (a4_47.toInt = (R0 7 (Int32.toNatClampNeg (I0 12))).toInt ∧ x9 = L0 2 ((12 * (I0 12).toInt + a5_47.toInt).toNat) ∧ ∀ k : Nat, (k : Int) < a5_47.toInt → ¬ L0 2 ((12 * (I0 12).toInt + (k : Int)).toNat) = p2)) from fun q0 => by first | (exfalso; omega) | exact ⟨(xl0_47 q0).1, by rw [ex9]; exact congrArg (L0 2) (by have := clamp_nn (x := x8) (by omega); omega), (xl0_47 q0).2⟩) hP hD hS (lv_sub hl [0, 1, 2, 3, 4] rfl)
          · have gc6 : p1.toInt = 1 := congrArg Int32.toInt c6
            refine lv_aload_n hx hb dX12_named_80 rfl (lv_at hl 0 rfl) ?_
            refine g_get F hK hP 0 (Wm_at0 G g q I0 J0 R0 L0) clX12 19 (by decide) flX12_70 rfl dX12_named_81 ?_
            refine lv_bipush (v := 6) hx hb dX12_named_84 (by decide) ?_
            refine lv_aload_n hx hb dX12_named_86 rfl (lv_at hl 0 rfl) ?_
            refine g_get F hK hP 0 (Wm_at0 G g q I0 J0 R0 L0) clX12 44 (by decide) flX12_146 rfl dX12_named_87 ?_
            have w_I0_12 := rg (hvI0 12 (by decide)) (0) (1) rfl rfl
            refine lv_imul hx hb dX12_named_90 ?_
            refine lv_topi (fun x10 ex10 => ?_)
            have fx10 : x10.toInt = 6 * (I0 12).toInt := by rw [ex10]; exact t_mul (by show (-2147483648 : Int) ≤ 6 * (I0 12).toInt; omega) (by show 6 * (I0 12).toInt ≤ 2147483647; omega)
            refine lv_iload hx hb dX12_named_91 (lv_at hl 4 rfl) ?_
            refine lv_iadd hx hb dX12_named_93 ?_
            refine lv_topi (fun x11 ex11 => ?_)
            have fx11 : x11.toInt = x10.toInt + a5_47.toInt := by rw [ex11]; exact t_add (by show (-2147483648 : Int) ≤ x10.toInt + a5_47.toInt; omega) (by show x10.toInt + a5_47.toInt ≤ 2147483647; omega)
            refine g_lald F hK hP 8 (Wm_at8 G g q I0 J0 R0 L0) (in_of (by omega)) dX12_named_94 rfl ?_
            refine lv_topl (fun x12 ex12 => ?_)
            refine lv_goto (tgt := 113) hx hb dX12_named_95 (by decide) ?_
            exact lab_113 x12 _ _ _ (show ((1 : Int) ≤ a4_47.toInt ∧ a4_47.toInt ≤ (12 : Int)) from by omega) (show ((0 : Int) ≤ a5_47.toInt ∧ a5_47.toInt ≤ (11 : Int)) from by omega) (show (p1.toInt = 0 → a5_47.toInt ≤ 4) from by omega) (show (p1.toInt = 1 → a5_47.toInt ≤ 5) from by omega) (show (a5_47.toInt < a4_47.toInt) from by omega) (show (p1.toInt = 2 → (a4_47.toInt = (R0 7 (Int32.toNatClampNeg (I0 12))).toInt ∧ x12 = L0 2 ((12 * (I0 12).toInt + a5_47.toInt).toNat) ∧ ∀ k : Nat, (k : Int) < a5_47.toInt → ¬ L0 2 ((12 * (I0 12).toInt + (k : Int)).toNat) = p2)) from fun q0 => by first | (exfalso; omega) | exact ⟨(xl0_47 q0).1, by rw [ex12]; exact congrArg (L0 2) (by have := clamp_nn (x := x11) (by omega); omega), (xl0_47 q0).2⟩) hP hD hS (lv_sub hl [0, 1, 2, 3, 4] rfl)
        · have gc5 : p1.toInt = 0 := congrArg Int32.toInt c5
          refine lv_aload_n hx hb dX12_named_58 rfl (lv_at hl 0 rfl) ?_
          refine g_get F hK hP 0 (Wm_at0 G g q I0 J0 R0 L0) clX12 14 (by decide) flX12_54 rfl dX12_named_59 ?_
          refine lv_iconst (v := 5) hx hb dX12_named_62 (by decide) ?_
          refine lv_aload_n hx hb dX12_named_63 rfl (lv_at hl 0 rfl) ?_
          refine g_get F hK hP 0 (Wm_at0 G g q I0 J0 R0 L0) clX12 44 (by decide) flX12_146 rfl dX12_named_64 ?_
          have w_I0_12 := rg (hvI0 12 (by decide)) (0) (1) rfl rfl
          refine lv_imul hx hb dX12_named_67 ?_
          refine lv_topi (fun x13 ex13 => ?_)
          have fx13 : x13.toInt = 5 * (I0 12).toInt := by rw [ex13]; exact t_mul (by show (-2147483648 : Int) ≤ 5 * (I0 12).toInt; omega) (by show 5 * (I0 12).toInt ≤ 2147483647; omega)
          refine lv_iload hx hb dX12_named_68 (lv_at hl 4 rfl) ?_
          refine lv_iadd hx hb dX12_named_70 ?_
          refine lv_topi (fun x14 ex14 => ?_)
          have fx14 : x14.toInt = x13.toInt + a5_47.toInt := by rw [ex14]; exact t_add (by show (-2147483648 : Int) ≤ x13.toInt + a5_47.toInt; omega) (by show x13.toInt + a5_47.toInt ≤ 2147483647; omega)
          refine g_lald F hK hP 3 (Wm_at3 G g q I0 J0 R0 L0) (in_of (by omega)) dX12_named_71 rfl ?_
          refine lv_topl (fun x15 ex15 => ?_)
          refine lv_goto (tgt := 113) hx hb dX12_named_72 (by decide) ?_
          exact lab_113 x15 _ _ _ (show ((1 : Int) ≤ a4_47.toInt ∧ a4_47.toInt ≤ (12 : Int)) from by omega) (show ((0 : Int) ≤ a5_47.toInt ∧ a5_47.toInt ≤ (11 : Int)) from by omega) (show (p1.toInt = 0 → a5_47.toInt ≤ 4) from by omega) (show (p1.toInt = 1 → a5_47.toInt ≤ 5) from by omega) (show (a5_47.toInt < a4_47.toInt) from by omega) (show (p1.toInt = 2 → (a4_47.toInt = (R0 7 (Int32.toNatClampNeg (I0 12))).toInt ∧ x15 = L0 2 ((12 * (I0 12).toInt + a5_47.toInt).toNat) ∧ ∀ k : Nat, (k : Int) < a5_47.toInt → ¬ L0 2 ((12 * (I0 12).toInt + (k : Int)).toNat) = p2)) from fun q0 => by first | (exfalso; omega) | exact ⟨(xl0_47 q0).1, by rw [ex15]; exact congrArg (L0 2) (by have := clamp_nn (x := x14) (by omega); omega), (xl0_47 q0).2⟩) hP hD hS (lv_sub hl [0, 1, 2, 3, 4] rfl)
  have lab_42 : ∀ (b0_42 : Int32) (H : Heap) (locs : List Loc) (ls : Array Slot), ((0 : Int) ≤ b0_42.toInt ∧ b0_42.toInt ≤ (12 : Int)) → (p1.toInt = 0 → b0_42.toInt ≤ 5) → (p1.toInt = 1 → b0_42.toInt ≤ 6) → (p1.toInt = 2 → b0_42.toInt = (R0 7 (Int32.toNatClampNeg (I0 12))).toInt) → va_P G.1 vwCl (Wm G g q I0 J0 R0 L0) H → va_D A (Wm G g q I0 J0 R0 L0) → va_S A s.heap H locs → lv_has ls 8 [(0, .ref (g 45)), (1, .int p1), (2, .long p2)] → W p l e (rmD 1 0 0) s m [.ref (g 45), .int p1, .long p2].toArray below meth c H locs 0 0 Q (F0 m 42 ls [.int b0_42]) := by
    intro b0_42 H locs ls y0_42 z0_42 z1_42 xl0_42 hP hD hS hl
    refine lv_istore (lv' := [(4, .int b0_42), (0, .ref (g 45)), (1, .int p1), (2, .long p2)]) hx hb dX12_named_42 hl (by decide) rfl (fun ls hl => ?_)
    refine lv_iconst (v := 0) hx hb dX12_named_44 (by decide) ?_
    refine lv_istore (lv' := [(5, .int 0), (4, .int b0_42), (0, .ref (g 45)), (1, .int p1), (2, .long p2)]) hx hb dX12_named_45 hl (by decide) rfl (fun ls hl => ?_)
    exact lab_47 13 b0_42 0 _ _ _ (show (12 - 0) < ((13 : Nat) : Int) from by omega) (show ((0 : Int) ≤ b0_42.toInt ∧ b0_42.toInt ≤ (12 : Int)) from by omega) (by decide) (show (p1.toInt = 0 → b0_42.toInt ≤ 5) from by omega) (show (p1.toInt = 1 → b0_42.toInt ≤ 6) from by omega) (show (p1.toInt = 2 → (b0_42.toInt = (R0 7 (Int32.toNatClampNeg (I0 12))).toInt ∧ ∀ k : Nat, (k : Int) < 0 → ¬ L0 2 ((12 * (I0 12).toInt + (k : Int)).toNat) = p2)) from fun q0 => ⟨by have := xl0_42 q0; omega, fun k hk => absurd hk (by omega)⟩) hP hD hS (lv_sub hl [2, 3, 4, 1, 0] rfl)
  refine lv_iload_n hx hb dX12_named_0 rfl (lv_at hl 1 rfl) ?_
  refine lv_if_ne (tgt := 16) hx hb dX12_named_1 (by decide) (fun c16 => ?_) (fun c16 => ?_)
  · have gc16 : ¬ (p1.toInt = 0) := fun q0 => c16 (Int32.toInt_inj.mp q0)
    refine lv_iload_n hx hb dX12_named_16 rfl (lv_at hl 1 rfl) ?_
    refine lv_iconst (v := 1) hx hb dX12_named_17 (by decide) ?_
    refine lv_icmp_ne (tgt := 33) hx hb dX12_named_18 (by decide) (fun c17 => ?_) (fun c17 => ?_)
    · have gc17 : ¬ (p1.toInt = 1) := fun q0 => c17 (Int32.toInt_inj.mp q0)
      refine lv_aload_n hx hb dX12_named_33 rfl (lv_at hl 0 rfl) ?_
      refine g_get F hK hP 0 (Wm_at0 G g q I0 J0 R0 L0) clX12 21 (by decide) flX12_77 rfl dX12_named_34 ?_
      refine lv_aload_n hx hb dX12_named_37 rfl (lv_at hl 0 rfl) ?_
      refine g_get F hK hP 0 (Wm_at0 G g q I0 J0 R0 L0) clX12 44 (by decide) flX12_146 rfl dX12_named_38 ?_
      have w_I0_12 := rg (hvI0 12 (by decide)) (0) (1) rfl rfl
      refine g_iald F hK hP 10 (Wm_at10 G g q I0 J0 R0 L0) (in_of (by omega)) dX12_named_41 rfl ?_
      refine lv_topi (fun x18 ex18 => ?_)
      have gx18 : x18.toInt = (R0 7 (Int32.toNatClampNeg (I0 12))).toInt := congrArg Int32.toInt (ex18)
      have fx18 : ((0 : Int) ≤ x18.toInt ∧ x18.toInt ≤ (12 : Int)) := by rw [ex18]; exact hvR 7 (by decide) _ (clamp_lt (n := 2) (in_of (by omega)))
      exact lab_42 x18 _ _ _ (show ((0 : Int) ≤ x18.toInt ∧ x18.toInt ≤ (12 : Int)) from by omega) (show (p1.toInt = 0 → x18.toInt ≤ 5) from by omega) (show (p1.toInt = 1 → x18.toInt ≤ 6) from by omega) (show (p1.toInt = 2 → x18.toInt = (R0 7 (Int32.toNatClampNeg (I0 12))).toInt) from by intro q0; omega) hP hD hS (lv_sub hl [0, 1, 2] rfl)
    · have gc17 : p1.toInt = 1 := congrArg Int32.toInt c17
      refine lv_aload_n hx hb dX12_named_21 rfl (lv_at hl 0 rfl) ?_
      refine g_get F hK hP 0 (Wm_at0 G g q I0 J0 R0 L0) clX12 18 (by decide) flX12_67 rfl dX12_named_22 ?_
      refine lv_aload_n hx hb dX12_named_25 rfl (lv_at hl 0 rfl) ?_
      refine g_get F hK hP 0 (Wm_at0 G g q I0 J0 R0 L0) clX12 44 (by decide) flX12_146 rfl dX12_named_26 ?_
      have w_I0_12 := rg (hvI0 12 (by decide)) (0) (1) rfl rfl
      refine g_iald F hK hP 7 (Wm_at7 G g q I0 J0 R0 L0) (in_of (by omega)) dX12_named_29 rfl ?_
      refine lv_topi (fun x19 ex19 => ?_)
      have gx19 : x19.toInt = (R0 5 (Int32.toNatClampNeg (I0 12))).toInt := congrArg Int32.toInt (ex19)
      have fx19 : ((0 : Int) ≤ x19.toInt ∧ x19.toInt ≤ (6 : Int)) := by rw [ex19]; exact hvR 5 (by decide) _ (clamp_lt (n := 2) (in_of (by omega)))
      refine lv_goto (tgt := 42) hx hb dX12_named_30 (by decide) ?_
      exact lab_42 x19 _ _ _ (show ((0 : Int) ≤ x19.toInt ∧ x19.toInt ≤ (12 : Int)) from by omega) (show (p1.toInt = 0 → x19.toInt ≤ 5) from by omega) (show (p1.toInt = 1 → x19.toInt ≤ 6) from by omega) (show (p1.toInt = 2 → x19.toInt = (R0 7 (Int32.toNatClampNeg (I0 12))).toInt) from by intro q0; omega) hP hD hS (lv_sub hl [0, 1, 2] rfl)
  · have gc16 : p1.toInt = 0 := congrArg Int32.toInt c16
    refine lv_aload_n hx hb dX12_named_4 rfl (lv_at hl 0 rfl) ?_
    refine g_get F hK hP 0 (Wm_at0 G g q I0 J0 R0 L0) clX12 13 (by decide) flX12_51 rfl dX12_named_5 ?_
    refine lv_aload_n hx hb dX12_named_8 rfl (lv_at hl 0 rfl) ?_
    refine g_get F hK hP 0 (Wm_at0 G g q I0 J0 R0 L0) clX12 44 (by decide) flX12_146 rfl dX12_named_9 ?_
    have w_I0_12 := rg (hvI0 12 (by decide)) (0) (1) rfl rfl
    refine g_iald F hK hP 2 (Wm_at2 G g q I0 J0 R0 L0) (in_of (by omega)) dX12_named_12 rfl ?_
    refine lv_topi (fun x20 ex20 => ?_)
    have gx20 : x20.toInt = (R0 1 (Int32.toNatClampNeg (I0 12))).toInt := congrArg Int32.toInt (ex20)
    have fx20 : ((0 : Int) ≤ x20.toInt ∧ x20.toInt ≤ (5 : Int)) := by rw [ex20]; exact hvR 1 (by decide) _ (clamp_lt (n := 2) (in_of (by omega)))
    refine lv_goto (tgt := 42) hx hb dX12_named_13 (by decide) ?_
    exact lab_42 x20 _ _ _ (show ((0 : Int) ≤ x20.toInt ∧ x20.toInt ≤ (12 : Int)) from by omega) (show (p1.toInt = 0 → x20.toInt ≤ 5) from by omega) (show (p1.toInt = 1 → x20.toInt ≤ 6) from by omega) (show (p1.toInt = 2 → x20.toInt = (R0 7 (Int32.toNatClampNeg (I0 12))).toInt) from by intro q0; omega) hP hD hS (lv_sub hl [0, 1, 2] rfl)
set_option maxHeartbeats 4000000 in
set_option maxRecDepth 100000 in
theorem s_X12_owns (l : Launch) (G : Gx) (g q : Nat → Nat) (I0 : Nat → Int32) (J0 : Nat → Int64) (R0 : Nat → Nat → Int32) (L0 : Nat → Nat → Int64) (hvI : InvI Wm_lo Wm_hi I0) (hvR : InvR Wm_rl R0)   (hpre0 : ((I0 3).toInt ≤ (I0 4).toInt)) (hpre1 : ((I0 4).toInt ≤ (I0 1).toInt)) (hpre2 : ((¬ (I0 2).toInt = 0) → (I0 3).toInt < (I0 4).toInt)) : CtV (S := St) l yX12_owns cX12_owns 3 none (rmD 4 0 0) G [.ref (g 45)] (Wm G g q I0 J0 R0 L0) (fun u => InvI Wm_lo Wm_hi u.1 ∧ InvR Wm_rl u.2.2.1 ∧ SmF ([2, 3, 4, 5, 6, 7] : List Nat) I0 u.1 ∧ SmF ([13] : List Nat) R0 u.2.2.1 ∧ (((u.1 6).toInt = 0 ∧ ¬ (I0 2).toInt = 0) → (I0 3).toInt < (u.1 3).toInt) ∧ ((u.1 3).toInt ≤ (u.1 4).toInt) ∧ ((u.1 4).toInt ≤ (I0 1).toInt) ∧ ((¬ (u.1 2).toInt = 0) → (u.1 3).toInt < (u.1 4).toInt) ∧ ((¬ (I0 6).toInt = 0) → (¬ (u.1 6).toInt = 0)) ∧ ((I0 3).toInt ≤ (u.1 3).toInt)) (fun u => Wm G g q u.1 u.2.1 u.2.2.1 u.2.2.2) := by
  refine ctV_of (own := RX12) (by decide +kernel) rfl (Nat.le_of_ble_eq_true rfl) ?_
  intro p e s m below meth c A ls F hr hlk hnm hK hP hD hA hS hl
  have hx := F.1
  have hb := F.2.1
  have hown := F.2.2.2.1
  have hl : lv_has ls 3 [(0, .ref (g 45))] := hl
  obtain ⟨Q, hQ⟩ : ∃ Q : State → Prop, Q = MQ below (va_Qv (S := St) (fun u => InvI Wm_lo Wm_hi u.1 ∧ InvR Wm_rl u.2.2.1 ∧ SmF ([2, 3, 4, 5, 6, 7] : List Nat) I0 u.1 ∧ SmF ([13] : List Nat) R0 u.2.2.1 ∧ (((u.1 6).toInt = 0 ∧ ¬ (I0 2).toInt = 0) → (I0 3).toInt < (u.1 3).toInt) ∧ ((u.1 3).toInt ≤ (u.1 4).toInt) ∧ ((u.1 4).toInt ≤ (I0 1).toInt) ∧ ((¬ (u.1 2).toInt = 0) → (u.1 3).toInt < (u.1 4).toInt) ∧ ((¬ (I0 6).toInt = 0) → (¬ (u.1 6).toInt = 0)) ∧ ((I0 3).toInt ≤ (u.1 3).toInt)) (BX G A (fun u => Wm G g q u.1 u.2.1 u.2.2.1 u.2.2.2)) A) [.ref (g 45)].toArray s 0 0 A := ⟨_, rfl⟩
  rw [show (MQ below (va_Qv (S := St) (fun u => InvI Wm_lo Wm_hi u.1 ∧ InvR Wm_rl u.2.2.1 ∧ SmF ([2, 3, 4, 5, 6, 7] : List Nat) I0 u.1 ∧ SmF ([13] : List Nat) R0 u.2.2.1 ∧ (((u.1 6).toInt = 0 ∧ ¬ (I0 2).toInt = 0) → (I0 3).toInt < (u.1 3).toInt) ∧ ((u.1 3).toInt ≤ (u.1 4).toInt) ∧ ((u.1 4).toInt ≤ (I0 1).toInt) ∧ ((¬ (u.1 2).toInt = 0) → (u.1 3).toInt < (u.1 4).toInt) ∧ ((¬ (I0 6).toInt = 0) → (¬ (u.1 6).toInt = 0)) ∧ ((I0 3).toInt ≤ (u.1 3).toInt)) (BX G A (fun u => Wm G g q u.1 u.2.1 u.2.2.1 u.2.2.2)) A) [.ref (g 45)].toArray s (rmD 4 0 0).cells (rmD 4 0 0).slots A) = Q from hQ.symm]
  have hsI := smF_rf ([2, 3, 4, 5, 6, 7] : List Nat) I0
  have hsR := smF_rf ([13] : List Nat) R0
  have hvI0 := hvI
  have lab_169 : ∀ (a1_169 : Int32) (I_169 : Nat → Int32) (J_169 : Nat → Int64) (R_169 : Nat → Nat → Int32) (L_169 : Nat → Nat → Int64) (H : Heap) (locs : List Loc) (ls : Array Slot), InvI Wm_lo Wm_hi I_169 → InvR Wm_rl R_169 → SmF ([2, 3, 4, 5, 6, 7] : List Nat) I0 I_169 → SmF ([13] : List Nat) R0 R_169 → ((0 : Int) ≤ a1_169.toInt ∧ a1_169.toInt ≤ (23 : Int)) → ((I0 4).toInt ≤ (I_169 3).toInt) → ((I_169 3).toInt ≤ (I_169 4).toInt) → ((I_169 4).toInt ≤ (I0 1).toInt) → ((¬ (I_169 2).toInt = 0) → (I_169 3).toInt < (I_169 4).toInt) → ((¬ (I0 6).toInt = 0) → (¬ (I_169 6).toInt = 0)) → ((I0 3).toInt ≤ (I_169 3).toInt) → va_P G.1 vwCl (Wm G g q I_169 J_169 R_169 L_169) H → va_D A (Wm G g q I_169 J_169 R_169 L_169) → va_S A s.heap H locs → lv_has ls 3 [(0, .ref (g 45)), (1, .int a1_169)] → W p l e (rmD 4 0 0) s m [.ref (g 45)].toArray below meth c H locs 0 0 Q (F0 m 169 ls []) := by
    intro a1_169 I_169 J_169 R_169 L_169 H locs ls hvI hvR hsI hsR y0_169 z0_169 z1_169 z2_169 z3_169 z4_169 z5_169 hP hD hS hl
    have hv_I_169 := hvI
    have w_I_169_1 := rg (hvI 1 (by decide)) (0) (1800) rfl rfl
    have v_I_169_1 : (I_169 1).toInt = (I0 1).toInt := congrArg Int32.toInt (hsI 1 rfl)
    have w_I_169_2 := rg (hvI 2 (by decide)) (0) (3) rfl rfl
    have w_I_169_3 := rg (hvI 3 (by decide)) (0) (1800) rfl rfl
    have w_I_169_4 := rg (hvI 4 (by decide)) (0) (1800) rfl rfl
    have w_I_169_6 := rg (hvI 6 (by decide)) (0) (5) rfl rfl
    refine lv_aload_n hx hb dX12_owns_169 rfl (lv_at hl 0 rfl) ?_
    refine lv_iconst (v := 0) hx hb dX12_owns_170 (by decide) ?_
    refine wvi (As := [.int 0]) (rest := []) (b := (g 45)) (d := 3) F hK hP hD hS hA (s_X12_asked l G g q I_169 J_169 R_169 L_169 hvI hvR  0 (by decide) (by omega) (by omega) (by omega)) kmV_X12_asked mlX12_374 clX12 rfl 0 (Wm_at0 G g q I_169 J_169 R_169 L_169) ⟨(Nat.le_of_ble_eq_true rfl), (Nat.le_of_ble_eq_true rfl)⟩ hl.1 rfl (Nat.le_of_ble_eq_true rfl) dX12_owns_171 (fun r1 u2 H locs hwr1 hP hD hS => ?_)
    obtain ⟨I3, J4, R5, L6⟩ := u2
    replace hP : va_P G.1 vwCl (Wm G g q I3 J4 R5 L6) H := hP
    replace hD : va_D A (Wm G g q I3 J4 R5 L6) := hD
    obtain ⟨hvI, hvR, tIr1, tRr1, F0r1, F1r1, F2r1, F3r1, F4r1, F5r1, F6r1, F7r1⟩ := hwr1
    replace F0r1 : ((0 : Int) ≤ r1.toInt ∧ r1.toInt ≤ (11 : Int)) := F0r1
    replace F1r1 : ((0 : Int) = 0 → r1.toInt ≤ 4) := F1r1
    replace F2r1 : ((0 : Int) = 1 → r1.toInt ≤ 5) := F2r1
    replace F3r1 : ((I3 3).toInt ≤ (I3 4).toInt) := F3r1
    replace F4r1 : ((I3 4).toInt ≤ (I_169 1).toInt) := F4r1
    replace F5r1 : ((¬ (I3 2).toInt = 0) → (I3 3).toInt < (I3 4).toInt) := F5r1
    replace F6r1 : ((¬ (I_169 6).toInt = 0) → (¬ (I3 6).toInt = 0)) := F6r1
    replace F7r1 : ((I_169 3).toInt ≤ (I3 3).toInt) := F7r1
    replace hvI : InvI Wm_lo Wm_hi I3 := hvI
    replace hvR : InvR Wm_rl R5 := hvR
    replace tIr1 : SmF ([2, 3, 4, 5, 6, 7] : List Nat) I_169 I3 := tIr1
    replace tRr1 : SmF ([] : List Nat) R_169 R5 := tRr1
    have hv_I3 := hvI
    have hsI := smF_tr hsI tIr1 (by decide)
    have hsR := smF_tr hsR tRr1 (by decide)
    have u_I3_1 : (I3 1).toInt = (I_169 1).toInt := congrArg Int32.toInt (tIr1 1 rfl)
    have w_I3_2 := rg (hvI 2 (by decide)) (0) (3) rfl rfl
    have w_I3_3 := rg (hvI 3 (by decide)) (0) (1800) rfl rfl
    have w_I3_4 := rg (hvI 4 (by decide)) (0) (1800) rfl rfl
    have w_I3_6 := rg (hvI 6 (by decide)) (0) (5) rfl rfl
    have nr1_0 : ((I3 3).toInt ≤ (I3 4).toInt) := by omega
    have nr1_1 : ((I3 4).toInt ≤ (I0 1).toInt) := by omega
    have nr1_2 : ((¬ (I3 2).toInt = 0) → (I3 3).toInt < (I3 4).toInt) := by omega
    have nr1_3 : ((¬ (I0 6).toInt = 0) → (¬ (I3 6).toInt = 0)) := by omega
    have nr1_4 : ((I0 3).toInt ≤ (I3 3).toInt) := by omega
    have nr1_5 : ((I0 4).toInt ≤ (I3 3).toInt) := by omega
    clear z1_169 z2_169 z3_169 z4_169 z5_169 F3r1 F4r1 F5r1 F6r1 F7r1
    refine lv_istore_n (lv' := [(2, .int r1), (0, .ref (g 45)), (1, .int a1_169)]) hx hb dX12_owns_174 rfl hl (by decide) rfl (fun ls hl => ?_)
    refine lv_aload_n hx hb dX12_owns_175 rfl (lv_at hl 1 rfl) ?_
    refine g_get F hK hP 0 (Wm_at0 G g q I3 J4 R5 L6) clX12 8 (by decide) flX12_36 rfl dX12_owns_176 ?_
    have w_I3_6 := rg (hv_I3 6 (by decide)) (0) (5) rfl rfl
    refine lv_if_ne (tgt := 189) hx hb dX12_owns_179 (by decide) (fun c7 => ?_) (fun c7 => ?_)
    · have gc7 : ¬ ((I3 6).toInt = 0) := fun q0 => c7 (Int32.toInt_inj.mp q0)
      rw [hQ]
      exact q_v F hr hlk (I3, J4, R5, L6) hP hD hS ⟨hvI, hvR, hsI, hsR, (show (((I3 6).toInt = 0 ∧ ¬ (I0 2).toInt = 0) → (I0 3).toInt < (I3 3).toInt) from by omega), (show ((I3 3).toInt ≤ (I3 4).toInt) from by omega), (show ((I3 4).toInt ≤ (I0 1).toInt) from by omega), (show ((¬ (I3 2).toInt = 0) → (I3 3).toInt < (I3 4).toInt) from by omega), (show ((¬ (I0 6).toInt = 0) → (¬ (I3 6).toInt = 0)) from by omega), (show ((I0 3).toInt ≤ (I3 3).toInt) from by omega)⟩ dX12_owns_189 (Nat.le_of_ble_eq_true rfl) (Nat.le_of_ble_eq_true rfl)
    · have gc7 : (I3 6).toInt = 0 := congrArg Int32.toInt c7
      refine lv_aload_n hx hb dX12_owns_182 rfl (lv_at hl 1 rfl) ?_
      refine g_get F hK hP 0 (Wm_at0 G g q I3 J4 R5 L6) clX12 28 (by decide) flX12_98 rfl dX12_owns_183 ?_
      refine lv_iload_n hx hb dX12_owns_186 rfl (lv_at hl 2 rfl) ?_
      refine lv_iload_n hx hb dX12_owns_187 rfl (lv_at hl 0 rfl) ?_
      refine p_row (W1 := fun y => Wm G g q I3 J4 y L6) (n := 13) F hK hP hD hS 17 (Wm_at17 G g q I3 J4 R5 L6) (in_of (by omega)) dX12_owns_188 (Wm_rowR13 G g q I3 J4 R5 L6) (fun R8 H locs eR8 hP hD hS => ?_)
      have hvR : InvR Wm_rl R8 := inv_upR hvR 13 eR8 (upd_in (hvR 13 (by decide)) (show ((-1 : Int) ≤ r1.toInt ∧ r1.toInt ≤ (4 : Int)) from by omega))
      have hsR := smF_up hsR eR8 (by decide)
      rw [hQ]
      exact q_v F hr hlk (I3, J4, R8, L6) hP hD hS ⟨hvI, hvR, hsI, hsR, (show (((I3 6).toInt = 0 ∧ ¬ (I0 2).toInt = 0) → (I0 3).toInt < (I3 3).toInt) from by omega), (show ((I3 3).toInt ≤ (I3 4).toInt) from by omega), (show ((I3 4).toInt ≤ (I0 1).toInt) from by omega), (show ((¬ (I3 2).toInt = 0) → (I3 3).toInt < (I3 4).toInt) from by omega), (show ((¬ (I0 6).toInt = 0) → (¬ (I3 6).toInt = 0)) from by omega), (show ((I0 3).toInt ≤ (I3 3).toInt) from by omega)⟩ dX12_owns_189 (Nat.le_of_ble_eq_true rfl) (Nat.le_of_ble_eq_true rfl)
  have lab_129 : ∀ (a1_129 : Int32) (b0_129 : Int32) (I_129 : Nat → Int32) (J_129 : Nat → Int64) (R_129 : Nat → Nat → Int32) (L_129 : Nat → Nat → Int64) (H : Heap) (locs : List Loc) (ls : Array Slot), InvI Wm_lo Wm_hi I_129 → InvR Wm_rl R_129 → SmF ([2, 3, 4, 5, 6, 7] : List Nat) I0 I_129 → SmF ([13] : List Nat) R0 R_129 → ((0 : Int) ≤ a1_129.toInt ∧ a1_129.toInt ≤ (23 : Int)) → ((-1 : Int) ≤ b0_129.toInt ∧ b0_129.toInt ≤ (11 : Int)) → ((I0 4).toInt ≤ (I_129 3).toInt) → (b0_129.toInt ≤ 4) → ((I_129 3).toInt ≤ (I_129 4).toInt) → ((I_129 4).toInt ≤ (I0 1).toInt) → ((¬ (I_129 2).toInt = 0) → (I_129 3).toInt < (I_129 4).toInt) → ((¬ (I0 6).toInt = 0) → (¬ (I_129 6).toInt = 0)) → ((I0 3).toInt ≤ (I_129 3).toInt) → va_P G.1 vwCl (Wm G g q I_129 J_129 R_129 L_129) H → va_D A (Wm G g q I_129 J_129 R_129 L_129) → va_S A s.heap H locs → lv_has ls 3 [(0, .ref (g 45)), (1, .int a1_129)] → W p l e (rmD 4 0 0) s m [.ref (g 45)].toArray below meth c H locs 0 0 Q (F0 m 129 ls [.int b0_129]) := by
    intro a1_129 b0_129 I_129 J_129 R_129 L_129 H locs ls hvI hvR hsI hsR y0_129 y1_129 z0_129 z1_129 z2_129 z3_129 z4_129 z5_129 z6_129 hP hD hS hl
    have hv_I_129 := hvI
    have w_I_129_1 := rg (hvI 1 (by decide)) (0) (1800) rfl rfl
    have v_I_129_1 : (I_129 1).toInt = (I0 1).toInt := congrArg Int32.toInt (hsI 1 rfl)
    have w_I_129_2 := rg (hvI 2 (by decide)) (0) (3) rfl rfl
    have w_I_129_3 := rg (hvI 3 (by decide)) (0) (1800) rfl rfl
    have w_I_129_4 := rg (hvI 4 (by decide)) (0) (1800) rfl rfl
    have w_I_129_6 := rg (hvI 6 (by decide)) (0) (5) rfl rfl
    refine lv_istore_n (lv' := [(2, .int b0_129), (0, .ref (g 45)), (1, .int a1_129)]) hx hb dX12_owns_129 rfl hl (by decide) rfl (fun ls hl => ?_)
    refine lv_iload_n hx hb dX12_owns_130 rfl (lv_at hl 0 rfl) ?_
    refine lv_iconst (v := (-1)) hx hb dX12_owns_131 (by decide) ?_
    refine lv_icmp_eq (tgt := 169) hx hb dX12_owns_132 (by decide) (fun c9 => ?_) (fun c9 => ?_)
    · have gc9 : b0_129.toInt = (-1) := congrArg Int32.toInt c9
      exact lab_169 a1_129 I_129 J_129 R_129 L_129 _ _ _ hvI hvR hsI hsR (show ((0 : Int) ≤ a1_129.toInt ∧ a1_129.toInt ≤ (23 : Int)) from by omega) (show ((I0 4).toInt ≤ (I_129 3).toInt) from by omega) (show ((I_129 3).toInt ≤ (I_129 4).toInt) from by omega) (show ((I_129 4).toInt ≤ (I0 1).toInt) from by omega) (show ((¬ (I_129 2).toInt = 0) → (I_129 3).toInt < (I_129 4).toInt) from by omega) (show ((¬ (I0 6).toInt = 0) → (¬ (I_129 6).toInt = 0)) from by omega) (show ((I0 3).toInt ≤ (I_129 3).toInt) from by omega) hP hD hS (lv_sub hl [1, 2] rfl)
    · have gc9 : ¬ (b0_129.toInt = (-1)) := fun q0 => c9 (Int32.toInt_inj.mp q0)
      refine lv_aload_n hx hb dX12_owns_135 rfl (lv_at hl 1 rfl) ?_
      refine lv_aload_n hx hb dX12_owns_136 rfl (lv_at hl 1 rfl) ?_
      refine g_get F hK hP 0 (Wm_at0 G g q I_129 J_129 R_129 L_129) clX12 44 (by decide) flX12_146 rfl dX12_owns_137 ?_
      refine cst_i (hsI 12 rfl) ?_
      have w_I0_12 := rg (hvI0 12 (by decide)) (0) (1) rfl rfl
      refine lv_iload_n hx hb dX12_owns_140 rfl (lv_at hl 0 rfl) ?_
      refine wvi (As := [.int (I0 12), .int b0_129]) (rest := []) (b := (g 45)) (d := 1) F hK hP hD hS hA (s_X12_ownedOn l G g q I_129 J_129 R_129 L_129 hvI hvR  ((I0 12)) b0_129 (show ((0 : Int) ≤ (I0 12).toInt ∧ (I0 12).toInt ≤ (1 : Int)) from by omega) (show ((0 : Int) ≤ b0_129.toInt ∧ b0_129.toInt ≤ (11 : Int)) from by omega)) kmV_X12_ownedOn mlX12_381 clX12 rfl 0 (Wm_at0 G g q I_129 J_129 R_129 L_129) ⟨(Nat.le_of_ble_eq_true rfl), (Nat.le_of_ble_eq_true rfl)⟩ hl.1 rfl (Nat.le_of_ble_eq_true rfl) dX12_owns_141 (fun r10 u11 H locs hwr10 hP hD hS => ?_)
      refine lv_aload_n hx hb dX12_owns_144 rfl (lv_at hl 1 rfl) ?_
      refine g_get F hK hP 0 (Wm_at0 G g q I_129 J_129 R_129 L_129) clX12 15 (by decide) flX12_58 rfl dX12_owns_145 ?_
      refine lv_iconst (v := 5) hx hb dX12_owns_148 (by decide) ?_
      refine lv_aload_n hx hb dX12_owns_149 rfl (lv_at hl 1 rfl) ?_
      refine g_get F hK hP 0 (Wm_at0 G g q I_129 J_129 R_129 L_129) clX12 44 (by decide) flX12_146 rfl dX12_owns_150 ?_
      refine cst_i (hsI 12 rfl) ?_
      refine lv_imul hx hb dX12_owns_153 ?_
      refine lv_topi (fun x12 ex12 => ?_)
      have fx12 : x12.toInt = 5 * (I0 12).toInt := by rw [ex12]; exact t_mul (by show (-2147483648 : Int) ≤ 5 * (I0 12).toInt; omega) (by show 5 * (I0 12).toInt ≤ 2147483647; omega)
      refine lv_iload_n hx hb dX12_owns_154 rfl (lv_at hl 0 rfl) ?_
      refine lv_iadd hx hb dX12_owns_155 ?_
      refine lv_topi (fun x13 ex13 => ?_)
      have fx13 : x13.toInt = x12.toInt + b0_129.toInt := by rw [ex13]; exact t_add (by show (-2147483648 : Int) ≤ x12.toInt + b0_129.toInt; omega) (by show x12.toInt + b0_129.toInt ≤ 2147483647; omega)
      refine g_iald F hK hP 4 (Wm_at4 G g q I_129 J_129 R_129 L_129) (in_of (by omega)) dX12_owns_156 rfl ?_
      refine lv_topi (fun x14 ex14 => ?_)
      have gx14 : x14.toInt = (R0 2 (Int32.toNatClampNeg x13)).toInt := congrArg Int32.toInt ((ex14).trans (congrFun (hsR 2 rfl) _))
      have fx14 : ((0 : Int) ≤ x14.toInt ∧ x14.toInt ≤ (9999 : Int)) := by rw [ex14]; exact hvR 2 (by decide) _ (clamp_lt (n := 10) (in_of (by omega)))
      refine lv_icmp_lt (tgt := 169) hx hb dX12_owns_157 (by decide) (fun c15 => ?_) (fun c15 => ?_)
      · have gc15 : r10.toInt < x14.toInt := (tlt _ _).mp c15
        exact lab_169 a1_129 I_129 J_129 R_129 L_129 _ _ _ hvI hvR hsI hsR (show ((0 : Int) ≤ a1_129.toInt ∧ a1_129.toInt ≤ (23 : Int)) from by omega) (show ((I0 4).toInt ≤ (I_129 3).toInt) from by omega) (show ((I_129 3).toInt ≤ (I_129 4).toInt) from by omega) (show ((I_129 4).toInt ≤ (I0 1).toInt) from by omega) (show ((¬ (I_129 2).toInt = 0) → (I_129 3).toInt < (I_129 4).toInt) from by omega) (show ((¬ (I0 6).toInt = 0) → (¬ (I_129 6).toInt = 0)) from by omega) (show ((I0 3).toInt ≤ (I_129 3).toInt) from by omega) hP hD hS (lv_sub hl [1, 2] rfl)
      · have gc15 : ¬ (r10.toInt < x14.toInt) := fun q0 => c15 ((tlt _ _).mpr q0)
        refine lv_aload_n hx hb dX12_owns_160 rfl (lv_at hl 1 rfl) ?_
        refine lv_iconst (v := 3) hx hb dX12_owns_161 (by decide) ?_
        refine lv_aload_n hx hb dX12_owns_162 rfl (lv_at hl 1 rfl) ?_
        refine g_get F hK hP 0 (Wm_at0 G g q I_129 J_129 R_129 L_129) clX12 4 (by decide) flX12_23 rfl dX12_owns_163 ?_
        have w_I_129_3 := rg (hv_I_129 3 (by decide)) (0) (1800) rfl rfl
        refine wvv (As := [.int 3, .int (I_129 3)]) (rest := []) (b := (g 45)) (d := 1) F hK hP hD hS hA (s_X12_blame l G g q I_129 J_129 R_129 L_129 hvI hvR  3 ((I_129 3)) (by decide) (show ((0 : Int) ≤ (I_129 3).toInt ∧ (I_129 3).toInt ≤ (1800 : Int)) from by omega)) kmV_X12_blame mlX12_240 clX12 rfl 0 (Wm_at0 G g q I_129 J_129 R_129 L_129) ⟨(Nat.le_of_ble_eq_true rfl), (Nat.le_of_ble_eq_true rfl)⟩ hl.1 rfl (Nat.le_of_ble_eq_true rfl) dX12_owns_166 (fun u17 H locs hwr16 hP hD hS => ?_)
        obtain ⟨I18, J19, R20, L21⟩ := u17
        replace hP : va_P G.1 vwCl (Wm G g q I18 J19 R20 L21) H := hP
        replace hD : va_D A (Wm G g q I18 J19 R20 L21) := hD
        obtain ⟨hvI, hvR, tIr16, tRr16, F0r16⟩ := hwr16
        replace F0r16 : (¬ (I18 6).toInt = 0) := F0r16
        replace hvI : InvI Wm_lo Wm_hi I18 := hvI
        replace hvR : InvR Wm_rl R20 := hvR
        replace tIr16 : SmF ([6, 7] : List Nat) I_129 I18 := tIr16
        replace tRr16 : SmF ([] : List Nat) R_129 R20 := tRr16
        have hv_I18 := hvI
        have hsI := smF_tr hsI tIr16 (by decide)
        have hsR := smF_tr hsR tRr16 (by decide)
        have u_I18_1 : (I18 1).toInt = (I_129 1).toInt := congrArg Int32.toInt (tIr16 1 rfl)
        have u_I18_2 : (I18 2).toInt = (I_129 2).toInt := congrArg Int32.toInt (tIr16 2 rfl)
        have u_I18_3 : (I18 3).toInt = (I_129 3).toInt := congrArg Int32.toInt (tIr16 3 rfl)
        have u_I18_4 : (I18 4).toInt = (I_129 4).toInt := congrArg Int32.toInt (tIr16 4 rfl)
        have w_I18_6 := rg (hvI 6 (by decide)) (0) (5) rfl rfl
        have nr16_0 : ((I18 3).toInt ≤ (I18 4).toInt) := by omega
        have nr16_1 : ((I18 4).toInt ≤ (I0 1).toInt) := by omega
        have nr16_2 : ((¬ (I18 2).toInt = 0) → (I18 3).toInt < (I18 4).toInt) := by omega
        have nr16_3 : ((¬ (I0 6).toInt = 0) → (¬ (I18 6).toInt = 0)) := by omega
        have nr16_4 : ((I0 3).toInt ≤ (I18 3).toInt) := by omega
        have nr16_5 : ((I0 4).toInt ≤ (I18 3).toInt) := by omega
        clear z2_129 z3_129 z4_129 z5_129 z6_129
        exact lab_169 a1_129 I18 J19 R20 L21 _ _ _ hvI hvR hsI hsR (show ((0 : Int) ≤ a1_129.toInt ∧ a1_129.toInt ≤ (23 : Int)) from by omega) (show ((I0 4).toInt ≤ (I18 3).toInt) from by omega) (show ((I18 3).toInt ≤ (I18 4).toInt) from by omega) (show ((I18 4).toInt ≤ (I0 1).toInt) from by omega) (show ((¬ (I18 2).toInt = 0) → (I18 3).toInt < (I18 4).toInt) from by omega) (show ((¬ (I0 6).toInt = 0) → (¬ (I18 6).toInt = 0)) from by omega) (show ((I0 3).toInt ≤ (I18 3).toInt) from by omega) hP hD hS (lv_sub hl [1, 2] rfl)
  have lab_128 : ∀ (a1_128 : Int32) (I_128 : Nat → Int32) (J_128 : Nat → Int64) (R_128 : Nat → Nat → Int32) (L_128 : Nat → Nat → Int64) (H : Heap) (locs : List Loc) (ls : Array Slot), InvI Wm_lo Wm_hi I_128 → InvR Wm_rl R_128 → SmF ([2, 3, 4, 5, 6, 7] : List Nat) I0 I_128 → SmF ([13] : List Nat) R0 R_128 → ((0 : Int) ≤ a1_128.toInt ∧ a1_128.toInt ≤ (23 : Int)) → ((I0 4).toInt ≤ (I_128 3).toInt) → ((I_128 3).toInt ≤ (I_128 4).toInt) → ((I_128 4).toInt ≤ (I0 1).toInt) → ((¬ (I_128 2).toInt = 0) → (I_128 3).toInt < (I_128 4).toInt) → ((¬ (I0 6).toInt = 0) → (¬ (I_128 6).toInt = 0)) → ((I0 3).toInt ≤ (I_128 3).toInt) → va_P G.1 vwCl (Wm G g q I_128 J_128 R_128 L_128) H → va_D A (Wm G g q I_128 J_128 R_128 L_128) → va_S A s.heap H locs → lv_has ls 3 [(0, .ref (g 45)), (1, .int a1_128)] → W p l e (rmD 4 0 0) s m [.ref (g 45)].toArray below meth c H locs 0 0 Q (F0 m 128 ls []) := by
    intro a1_128 I_128 J_128 R_128 L_128 H locs ls hvI hvR hsI hsR y0_128 z0_128 z1_128 z2_128 z3_128 z4_128 z5_128 hP hD hS hl
    have hv_I_128 := hvI
    have w_I_128_1 := rg (hvI 1 (by decide)) (0) (1800) rfl rfl
    have v_I_128_1 : (I_128 1).toInt = (I0 1).toInt := congrArg Int32.toInt (hsI 1 rfl)
    have w_I_128_2 := rg (hvI 2 (by decide)) (0) (3) rfl rfl
    have w_I_128_3 := rg (hvI 3 (by decide)) (0) (1800) rfl rfl
    have w_I_128_4 := rg (hvI 4 (by decide)) (0) (1800) rfl rfl
    have w_I_128_6 := rg (hvI 6 (by decide)) (0) (5) rfl rfl
    refine lv_iconst (v := (-1)) hx hb dX12_owns_128 (by decide) ?_
    exact lab_129 a1_128 ((-1)) I_128 J_128 R_128 L_128 _ _ _ hvI hvR hsI hsR (show ((0 : Int) ≤ a1_128.toInt ∧ a1_128.toInt ≤ (23 : Int)) from by omega) (by decide) (show ((I0 4).toInt ≤ (I_128 3).toInt) from by omega) (show ((-1) ≤ 4) from by omega) (show ((I_128 3).toInt ≤ (I_128 4).toInt) from by omega) (show ((I_128 4).toInt ≤ (I0 1).toInt) from by omega) (show ((¬ (I_128 2).toInt = 0) → (I_128 3).toInt < (I_128 4).toInt) from by omega) (show ((¬ (I0 6).toInt = 0) → (¬ (I_128 6).toInt = 0)) from by omega) (show ((I0 3).toInt ≤ (I_128 3).toInt) from by omega) hP hD hS (lv_sub hl [0, 1] rfl)
  have lab_76 : ∀  (I_76 : Nat → Int32) (J_76 : Nat → Int64) (R_76 : Nat → Nat → Int32) (L_76 : Nat → Nat → Int64) (H : Heap) (locs : List Loc) (ls : Array Slot), InvI Wm_lo Wm_hi I_76 → InvR Wm_rl R_76 → SmF ([2, 3, 4, 5, 6, 7] : List Nat) I0 I_76 → SmF ([13] : List Nat) R0 R_76 → ((I0 4).toInt ≤ (I_76 3).toInt) → ((I_76 3).toInt ≤ (I_76 4).toInt) → ((I_76 4).toInt ≤ (I0 1).toInt) → ((¬ (I_76 2).toInt = 0) → (I_76 3).toInt < (I_76 4).toInt) → ((¬ (I0 6).toInt = 0) → (¬ (I_76 6).toInt = 0)) → ((I0 3).toInt ≤ (I_76 3).toInt) → va_P G.1 vwCl (Wm G g q I_76 J_76 R_76 L_76) H → va_D A (Wm G g q I_76 J_76 R_76 L_76) → va_S A s.heap H locs → lv_has ls 3 [(0, .ref (g 45))] → W p l e (rmD 4 0 0) s m [.ref (g 45)].toArray below meth c H locs 0 0 Q (F0 m 76 ls []) := by
    intro I_76 J_76 R_76 L_76 H locs ls hvI hvR hsI hsR z0_76 z1_76 z2_76 z3_76 z4_76 z5_76 hP hD hS hl
    have hv_I_76 := hvI
    have w_I_76_1 := rg (hvI 1 (by decide)) (0) (1800) rfl rfl
    have v_I_76_1 : (I_76 1).toInt = (I0 1).toInt := congrArg Int32.toInt (hsI 1 rfl)
    have w_I_76_2 := rg (hvI 2 (by decide)) (0) (3) rfl rfl
    have w_I_76_3 := rg (hvI 3 (by decide)) (0) (1800) rfl rfl
    have w_I_76_4 := rg (hvI 4 (by decide)) (0) (1800) rfl rfl
    have w_I_76_6 := rg (hvI 6 (by decide)) (0) (5) rfl rfl
    refine lv_bipush (v := 12) hx hb dX12_owns_76 (by decide) ?_
    refine lv_aload_n hx hb dX12_owns_78 rfl (lv_at hl 0 rfl) ?_
    refine g_get F hK hP 0 (Wm_at0 G g q I_76 J_76 R_76 L_76) clX12 44 (by decide) flX12_146 rfl dX12_owns_79 ?_
    refine cst_i (hsI 12 rfl) ?_
    have w_I0_12 := rg (hvI0 12 (by decide)) (0) (1) rfl rfl
    refine lv_imul hx hb dX12_owns_82 ?_
    refine lv_topi (fun x22 ex22 => ?_)
    have fx22 : x22.toInt = 12 * (I0 12).toInt := by rw [ex22]; exact t_mul (by show (-2147483648 : Int) ≤ 12 * (I0 12).toInt; omega) (by show 12 * (I0 12).toInt ≤ 2147483647; omega)
    refine lv_aload_n hx hb dX12_owns_83 rfl (lv_at hl 0 rfl) ?_
    refine lv_iconst (v := 2) hx hb dX12_owns_84 (by decide) ?_
    refine wvi (As := [.int 2]) (rest := [.int x22]) (b := (g 45)) (d := 3) F hK hP hD hS hA (s_X12_asked l G g q I_76 J_76 R_76 L_76 hvI hvR  2 (by decide) (by omega) (by omega) (by omega)) kmV_X12_asked mlX12_374 clX12 rfl 0 (Wm_at0 G g q I_76 J_76 R_76 L_76) ⟨(Nat.le_of_ble_eq_true rfl), (Nat.le_of_ble_eq_true rfl)⟩ hl.1 rfl (Nat.le_of_ble_eq_true rfl) dX12_owns_85 (fun r23 u24 H locs hwr23 hP hD hS => ?_)
    obtain ⟨I25, J26, R27, L28⟩ := u24
    replace hP : va_P G.1 vwCl (Wm G g q I25 J26 R27 L28) H := hP
    replace hD : va_D A (Wm G g q I25 J26 R27 L28) := hD
    obtain ⟨hvI, hvR, tIr23, tRr23, F0r23, F1r23, F2r23, F3r23, F4r23, F5r23, F6r23, F7r23⟩ := hwr23
    replace F0r23 : ((0 : Int) ≤ r23.toInt ∧ r23.toInt ≤ (11 : Int)) := F0r23
    replace F1r23 : ((2 : Int) = 0 → r23.toInt ≤ 4) := F1r23
    replace F2r23 : ((2 : Int) = 1 → r23.toInt ≤ 5) := F2r23
    replace F3r23 : ((I25 3).toInt ≤ (I25 4).toInt) := F3r23
    replace F4r23 : ((I25 4).toInt ≤ (I_76 1).toInt) := F4r23
    replace F5r23 : ((¬ (I25 2).toInt = 0) → (I25 3).toInt < (I25 4).toInt) := F5r23
    replace F6r23 : ((¬ (I_76 6).toInt = 0) → (¬ (I25 6).toInt = 0)) := F6r23
    replace F7r23 : ((I_76 3).toInt ≤ (I25 3).toInt) := F7r23
    replace hvI : InvI Wm_lo Wm_hi I25 := hvI
    replace hvR : InvR Wm_rl R27 := hvR
    replace tIr23 : SmF ([2, 3, 4, 5, 6, 7] : List Nat) I_76 I25 := tIr23
    replace tRr23 : SmF ([] : List Nat) R_76 R27 := tRr23
    have hv_I25 := hvI
    have hsI := smF_tr hsI tIr23 (by decide)
    have hsR := smF_tr hsR tRr23 (by decide)
    have u_I25_1 : (I25 1).toInt = (I_76 1).toInt := congrArg Int32.toInt (tIr23 1 rfl)
    have w_I25_2 := rg (hvI 2 (by decide)) (0) (3) rfl rfl
    have w_I25_3 := rg (hvI 3 (by decide)) (0) (1800) rfl rfl
    have w_I25_4 := rg (hvI 4 (by decide)) (0) (1800) rfl rfl
    have w_I25_6 := rg (hvI 6 (by decide)) (0) (5) rfl rfl
    have nr23_0 : ((I25 3).toInt ≤ (I25 4).toInt) := by omega
    have nr23_1 : ((I25 4).toInt ≤ (I0 1).toInt) := by omega
    have nr23_2 : ((¬ (I25 2).toInt = 0) → (I25 3).toInt < (I25 4).toInt) := by omega
    have nr23_3 : ((¬ (I0 6).toInt = 0) → (¬ (I25 6).toInt = 0)) := by omega
    have nr23_4 : ((I0 3).toInt ≤ (I25 3).toInt) := by omega
    have nr23_5 : ((I0 4).toInt ≤ (I25 3).toInt) := by omega
    clear z1_76 z2_76 z3_76 z4_76 z5_76 F3r23 F4r23 F5r23 F6r23 F7r23
    refine lv_iadd hx hb dX12_owns_88 ?_
    refine lv_topi (fun x29 ex29 => ?_)
    have fx29 : x29.toInt = x22.toInt + r23.toInt := by rw [ex29]; exact t_add (by show (-2147483648 : Int) ≤ x22.toInt + r23.toInt; omega) (by show x22.toInt + r23.toInt ≤ 2147483647; omega)
    refine lv_istore_n (lv' := [(1, .int x29), (0, .ref (g 45))]) hx hb dX12_owns_89 rfl hl (by decide) rfl (fun ls hl => ?_)
    refine lv_aload_n hx hb dX12_owns_90 rfl (lv_at hl 1 rfl) ?_
    refine g_get F hK hP 0 (Wm_at0 G g q I25 J26 R27 L28) clX12 8 (by decide) flX12_36 rfl dX12_owns_91 ?_
    have w_I25_6 := rg (hv_I25 6 (by decide)) (0) (5) rfl rfl
    refine lv_if_ne (tgt := 128) hx hb dX12_owns_94 (by decide) (fun c30 => ?_) (fun c30 => ?_)
    · have gc30 : ¬ ((I25 6).toInt = 0) := fun q0 => c30 (Int32.toInt_inj.mp q0)
      exact lab_128 x29 I25 J26 R27 L28 _ _ _ hvI hvR hsI hsR (show ((0 : Int) ≤ x29.toInt ∧ x29.toInt ≤ (23 : Int)) from by omega) (show ((I0 4).toInt ≤ (I25 3).toInt) from by omega) (show ((I25 3).toInt ≤ (I25 4).toInt) from by omega) (show ((I25 4).toInt ≤ (I0 1).toInt) from by omega) (show ((¬ (I25 2).toInt = 0) → (I25 3).toInt < (I25 4).toInt) from by omega) (show ((¬ (I0 6).toInt = 0) → (¬ (I25 6).toInt = 0)) from by omega) (show ((I0 3).toInt ≤ (I25 3).toInt) from by omega) hP hD hS (lv_sub hl [1, 0] rfl)
    · have gc30 : (I25 6).toInt = 0 := congrArg Int32.toInt c30
      refine lv_aload_n hx hb dX12_owns_97 rfl (lv_at hl 1 rfl) ?_
      refine g_get F hK hP 0 (Wm_at0 G g q I25 J26 R27 L28) clX12 3 (by decide) flX12_20 rfl dX12_owns_98 ?_
      have w_I25_2 := rg (hv_I25 2 (by decide)) (0) (3) rfl rfl
      refine lv_iconst (v := 1) hx hb dX12_owns_101 (by decide) ?_
      refine lv_icmp_ne (tgt := 128) hx hb dX12_owns_102 (by decide) (fun c31 => ?_) (fun c31 => ?_)
      · have gc31 : ¬ ((I25 2).toInt = 1) := fun q0 => c31 (Int32.toInt_inj.mp q0)
        exact lab_128 x29 I25 J26 R27 L28 _ _ _ hvI hvR hsI hsR (show ((0 : Int) ≤ x29.toInt ∧ x29.toInt ≤ (23 : Int)) from by omega) (show ((I0 4).toInt ≤ (I25 3).toInt) from by omega) (show ((I25 3).toInt ≤ (I25 4).toInt) from by omega) (show ((I25 4).toInt ≤ (I0 1).toInt) from by omega) (show ((¬ (I25 2).toInt = 0) → (I25 3).toInt < (I25 4).toInt) from by omega) (show ((¬ (I0 6).toInt = 0) → (¬ (I25 6).toInt = 0)) from by omega) (show ((I0 3).toInt ≤ (I25 3).toInt) from by omega) hP hD hS (lv_sub hl [1, 0] rfl)
      · have gc31 : (I25 2).toInt = 1 := congrArg Int32.toInt c31
        refine lv_aload_n hx hb dX12_owns_105 rfl (lv_at hl 1 rfl) ?_
        refine lv_aload_n hx hb dX12_owns_106 rfl (lv_at hl 1 rfl) ?_
        refine g_get F hK hP 0 (Wm_at0 G g q I25 J26 R27 L28) clX12 7 (by decide) flX12_32 rfl dX12_owns_107 ?_
        refine wvi (As := [.long (J26 0)]) (rest := []) (b := (g 45)) (d := 1) F hK hP hD hS hA (s_X12_isOwn l G g q I25 J26 R27 L28 hvI hvR  ((J26 0)) ) kmV_X12_isOwn mlX12_351 clX12 rfl 0 (Wm_at0 G g q I25 J26 R27 L28) ⟨(Nat.le_of_ble_eq_true rfl), (Nat.le_of_ble_eq_true rfl)⟩ hl.1 rfl (Nat.le_of_ble_eq_true rfl) dX12_owns_110 (fun r32 u33 H locs hwr32 hP hD hS => ?_)
        have F0r32 := hwr32
        replace F0r32 : ((0 : Int) ≤ r32.toInt ∧ r32.toInt ≤ (1 : Int)) := F0r32
        refine lv_if_ne (tgt := 128) hx hb dX12_owns_113 (by decide) (fun c34 => ?_) (fun c34 => ?_)
        · have gc34 : ¬ (r32.toInt = 0) := fun q0 => c34 (Int32.toInt_inj.mp q0)
          exact lab_128 x29 I25 J26 R27 L28 _ _ _ hvI hvR hsI hsR (show ((0 : Int) ≤ x29.toInt ∧ x29.toInt ≤ (23 : Int)) from by omega) (show ((I0 4).toInt ≤ (I25 3).toInt) from by omega) (show ((I25 3).toInt ≤ (I25 4).toInt) from by omega) (show ((I25 4).toInt ≤ (I0 1).toInt) from by omega) (show ((¬ (I25 2).toInt = 0) → (I25 3).toInt < (I25 4).toInt) from by omega) (show ((¬ (I0 6).toInt = 0) → (¬ (I25 6).toInt = 0)) from by omega) (show ((I0 3).toInt ≤ (I25 3).toInt) from by omega) hP hD hS (lv_sub hl [1, 0] rfl)
        · have gc34 : r32.toInt = 0 := congrArg Int32.toInt c34
          refine lv_aload_n hx hb dX12_owns_116 rfl (lv_at hl 1 rfl) ?_
          refine lv_iconst (v := 0) hx hb dX12_owns_117 (by decide) ?_
          refine lv_aload_n hx hb dX12_owns_118 rfl (lv_at hl 1 rfl) ?_
          refine g_get F hK hP 0 (Wm_at0 G g q I25 J26 R27 L28) clX12 7 (by decide) flX12_32 rfl dX12_owns_119 ?_
          refine wvi (As := [.int 0, .long (J26 0)]) (rest := []) (b := (g 45)) (d := 1) F hK hP hD hS hA (s_X12_named l G g q I25 J26 R27 L28 hvI hvR  0 ((J26 0)) (by decide)) kmV_X12_named mlX12_354 clX12 rfl 0 (Wm_at0 G g q I25 J26 R27 L28) ⟨(Nat.le_of_ble_eq_true rfl), (Nat.le_of_ble_eq_true rfl)⟩ hl.1 rfl (Nat.le_of_ble_eq_true rfl) dX12_owns_122 (fun r35 u36 H locs hwr35 hP hD hS => ?_)
          obtain ⟨F0r35, F1r35, F2r35⟩ := hwr35
          replace F0r35 : ((-1 : Int) ≤ r35.toInt ∧ r35.toInt ≤ (11 : Int)) := F0r35
          replace F1r35 : ((0 : Int) = 0 → r35.toInt ≤ 4) := F1r35
          replace F2r35 : ((0 : Int) = 1 → r35.toInt ≤ 5) := F2r35
          refine lv_goto (tgt := 129) hx hb dX12_owns_125 (by decide) ?_
          exact lab_129 x29 r35 I25 J26 R27 L28 _ _ _ hvI hvR hsI hsR (show ((0 : Int) ≤ x29.toInt ∧ x29.toInt ≤ (23 : Int)) from by omega) (show ((-1 : Int) ≤ r35.toInt ∧ r35.toInt ≤ (11 : Int)) from by omega) (show ((I0 4).toInt ≤ (I25 3).toInt) from by omega) (show (r35.toInt ≤ 4) from by omega) (show ((I25 3).toInt ≤ (I25 4).toInt) from by omega) (show ((I25 4).toInt ≤ (I0 1).toInt) from by omega) (show ((¬ (I25 2).toInt = 0) → (I25 3).toInt < (I25 4).toInt) from by omega) (show ((¬ (I0 6).toInt = 0) → (¬ (I25 6).toInt = 0)) from by omega) (show ((I0 3).toInt ≤ (I25 3).toInt) from by omega) hP hD hS (lv_sub hl [1, 0] rfl)
  have w_I0_1 := rg (hvI 1 (by decide)) (0) (1800) rfl rfl
  have w_I0_2 := rg (hvI 2 (by decide)) (0) (3) rfl rfl
  have w_I0_3 := rg (hvI 3 (by decide)) (0) (1800) rfl rfl
  have w_I0_4 := rg (hvI 4 (by decide)) (0) (1800) rfl rfl
  have w_I0_6 := rg (hvI 6 (by decide)) (0) (5) rfl rfl
  refine lv_aload_n hx hb dX12_owns_0 rfl (lv_at hl 0 rfl) ?_
  refine lv_iconst (v := 0) hx hb dX12_owns_1 (by decide) ?_
  refine wvi (As := [.int 0]) (rest := []) (b := (g 45)) (d := 3) F hK hP hD hS hA (s_X12_counts l G g q I0 J0 R0 L0 hvI hvR  0 (by decide) (by omega) (by omega) (by omega)) kmV_X12_counts mlX12_358 clX12 rfl 0 (Wm_at0 G g q I0 J0 R0 L0) ⟨(Nat.le_of_ble_eq_true rfl), (Nat.le_of_ble_eq_true rfl)⟩ hl.1 rfl (Nat.le_of_ble_eq_true rfl) dX12_owns_2 (fun r37 u38 H locs hwr37 hP hD hS => ?_)
  obtain ⟨I39, J40, R41, L42⟩ := u38
  replace hP : va_P G.1 vwCl (Wm G g q I39 J40 R41 L42) H := hP
  replace hD : va_D A (Wm G g q I39 J40 R41 L42) := hD
  obtain ⟨hvI, hvR, tIr37, tRr37, F0r37, F1r37, F2r37, F3r37, F4r37, F5r37, F6r37⟩ := hwr37
  replace F0r37 : ((0 : Int) ≤ r37.toInt ∧ r37.toInt ≤ (1 : Int)) := F0r37
  replace F1r37 : ((r37.toInt = 1 ∧ (0 : Int) = 0 ∧ (I39 6).toInt = 0 ∧ (I0 4).toInt ≤ (I39 3).toInt) ∨ (r37.toInt = 0 ∧ ¬ (I39 6).toInt = 0)) := F1r37
  replace F2r37 : ((I39 3).toInt ≤ (I39 4).toInt) := F2r37
  replace F3r37 : ((I39 4).toInt ≤ (I0 1).toInt) := F3r37
  replace F4r37 : ((¬ (I39 2).toInt = 0) → (I39 3).toInt < (I39 4).toInt) := F4r37
  replace F5r37 : ((¬ (I0 6).toInt = 0) → (¬ (I39 6).toInt = 0)) := F5r37
  replace F6r37 : ((I0 3).toInt ≤ (I39 3).toInt) := F6r37
  replace hvI : InvI Wm_lo Wm_hi I39 := hvI
  replace hvR : InvR Wm_rl R41 := hvR
  replace tIr37 : SmF ([2, 3, 4, 5, 6, 7] : List Nat) I0 I39 := tIr37
  replace tRr37 : SmF ([] : List Nat) R0 R41 := tRr37
  have hv_I39 := hvI
  have hsI := smF_tr hsI tIr37 (by decide)
  have hsR := smF_tr hsR tRr37 (by decide)
  have u_I39_1 : (I39 1).toInt = (I0 1).toInt := congrArg Int32.toInt (tIr37 1 rfl)
  have w_I39_2 := rg (hvI 2 (by decide)) (0) (3) rfl rfl
  have w_I39_3 := rg (hvI 3 (by decide)) (0) (1800) rfl rfl
  have w_I39_4 := rg (hvI 4 (by decide)) (0) (1800) rfl rfl
  have w_I39_6 := rg (hvI 6 (by decide)) (0) (5) rfl rfl
  have nr37_0 : ((I39 3).toInt ≤ (I39 4).toInt) := by omega
  have nr37_1 : ((I39 4).toInt ≤ (I0 1).toInt) := by omega
  have nr37_2 : ((¬ (I39 2).toInt = 0) → (I39 3).toInt < (I39 4).toInt) := by omega
  have nr37_3 : ((¬ (I0 6).toInt = 0) → (¬ (I39 6).toInt = 0)) := by omega
  have nr37_4 : ((I0 3).toInt ≤ (I39 3).toInt) := by omega
  clear F2r37 F3r37 F4r37 F5r37 F6r37
  refine lv_if_ne (tgt := 9) hx hb dX12_owns_5 (by decide) (fun c43 => ?_) (fun c43 => ?_)
  · have gc43 : ¬ (r37.toInt = 0) := fun q0 => c43 (Int32.toInt_inj.mp q0)
    refine lv_aload_n hx hb dX12_owns_9 rfl (lv_at hl 0 rfl) ?_
    refine g_get F hK hP 0 (Wm_at0 G g q I39 J40 R41 L42) clX12 3 (by decide) flX12_20 rfl dX12_owns_10 ?_
    have w_I39_2 := rg (hv_I39 2 (by decide)) (0) (3) rfl rfl
    refine lv_iconst (v := 1) hx hb dX12_owns_13 (by decide) ?_
    refine lv_icmp_ne (tgt := 76) hx hb dX12_owns_14 (by decide) (fun c44 => ?_) (fun c44 => ?_)
    · have gc44 : ¬ ((I39 2).toInt = 1) := fun q0 => c44 (Int32.toInt_inj.mp q0)
      exact lab_76  I39 J40 R41 L42 _ _ _ hvI hvR hsI hsR (show ((I0 4).toInt ≤ (I39 3).toInt) from by omega) (show ((I39 3).toInt ≤ (I39 4).toInt) from by omega) (show ((I39 4).toInt ≤ (I0 1).toInt) from by omega) (show ((¬ (I39 2).toInt = 0) → (I39 3).toInt < (I39 4).toInt) from by omega) (show ((¬ (I0 6).toInt = 0) → (¬ (I39 6).toInt = 0)) from by omega) (show ((I0 3).toInt ≤ (I39 3).toInt) from by omega) hP hD hS (lv_sub hl [0] rfl)
    · have gc44 : (I39 2).toInt = 1 := congrArg Int32.toInt c44
      refine lv_aload_n hx hb dX12_owns_17 rfl (lv_at hl 0 rfl) ?_
      refine lv_aload_n hx hb dX12_owns_18 rfl (lv_at hl 0 rfl) ?_
      refine g_get F hK hP 0 (Wm_at0 G g q I39 J40 R41 L42) clX12 7 (by decide) flX12_32 rfl dX12_owns_19 ?_
      refine wvi (As := [.long (J40 0)]) (rest := []) (b := (g 45)) (d := 1) F hK hP hD hS hA (s_X12_isOwn l G g q I39 J40 R41 L42 hvI hvR  ((J40 0)) ) kmV_X12_isOwn mlX12_351 clX12 rfl 0 (Wm_at0 G g q I39 J40 R41 L42) ⟨(Nat.le_of_ble_eq_true rfl), (Nat.le_of_ble_eq_true rfl)⟩ hl.1 rfl (Nat.le_of_ble_eq_true rfl) dX12_owns_22 (fun r45 u46 H locs hwr45 hP hD hS => ?_)
      have F0r45 := hwr45
      replace F0r45 : ((0 : Int) ≤ r45.toInt ∧ r45.toInt ≤ (1 : Int)) := F0r45
      refine lv_if_ne (tgt := 76) hx hb dX12_owns_25 (by decide) (fun c47 => ?_) (fun c47 => ?_)
      · have gc47 : ¬ (r45.toInt = 0) := fun q0 => c47 (Int32.toInt_inj.mp q0)
        exact lab_76  I39 J40 R41 L42 _ _ _ hvI hvR hsI hsR (show ((I0 4).toInt ≤ (I39 3).toInt) from by omega) (show ((I39 3).toInt ≤ (I39 4).toInt) from by omega) (show ((I39 4).toInt ≤ (I0 1).toInt) from by omega) (show ((¬ (I39 2).toInt = 0) → (I39 3).toInt < (I39 4).toInt) from by omega) (show ((¬ (I0 6).toInt = 0) → (¬ (I39 6).toInt = 0)) from by omega) (show ((I0 3).toInt ≤ (I39 3).toInt) from by omega) hP hD hS (lv_sub hl [0] rfl)
      · have gc47 : r45.toInt = 0 := congrArg Int32.toInt c47
        refine lv_aload_n hx hb dX12_owns_28 rfl (lv_at hl 0 rfl) ?_
        refine lv_iconst (v := 2) hx hb dX12_owns_29 (by decide) ?_
        refine lv_aload_n hx hb dX12_owns_30 rfl (lv_at hl 0 rfl) ?_
        refine g_get F hK hP 0 (Wm_at0 G g q I39 J40 R41 L42) clX12 7 (by decide) flX12_32 rfl dX12_owns_31 ?_
        refine wvi (As := [.int 2, .long (J40 0)]) (rest := []) (b := (g 45)) (d := 1) F hK hP hD hS hA (s_X12_named2 l G g q I39 J40 R41 L42 hvI hvR  2 ((J40 0)) (by decide)) kmV_X12_named mlX12_354 clX12 rfl 0 (Wm_at0 G g q I39 J40 R41 L42) ⟨(Nat.le_of_ble_eq_true rfl), (Nat.le_of_ble_eq_true rfl)⟩ hl.1 rfl (Nat.le_of_ble_eq_true rfl) dX12_owns_34 (fun r48 u49 H locs hwr48 hP hD hS => ?_)
        obtain ⟨F0r48, F1r48, F2r48, F3r48, F4r48⟩ := hwr48
        replace F0r48 : ((-1 : Int) ≤ r48.toInt ∧ r48.toInt ≤ (11 : Int)) := F0r48
        replace F1r48 : ((2 : Int) = 0 → r48.toInt ≤ 4) := F1r48
        replace F2r48 : ((2 : Int) = 1 → r48.toInt ≤ 5) := F2r48
        replace F3r48 : ((2 : Int) = 2 → ∀ k : Nat, (k : Int) < (R41 7 (Int32.toNatClampNeg (I39 12))).toInt → r48.toInt = -1 → ¬ L42 2 ((12 * (I39 12).toInt + (k : Int)).toNat) = (J40 0)) := F3r48
        replace F4r48 : ((2 : Int) = 2 → 0 ≤ r48.toInt → (r48.toInt < (R41 7 (Int32.toNatClampNeg (I39 12))).toInt ∧ L42 2 ((12 * (I39 12).toInt + r48.toInt).toNat) = (J40 0))) := F4r48
        refine lv_iconst (v := (-1)) hx hb dX12_owns_37 (by decide) ?_
        refine lv_icmp_eq (tgt := 76) hx hb dX12_owns_38 (by decide) (fun c50 => ?_) (fun c50 => ?_)
        · have gc50 : r48.toInt = (-1) := congrArg Int32.toInt c50
          exact lab_76  I39 J40 R41 L42 _ _ _ hvI hvR hsI hsR (show ((I0 4).toInt ≤ (I39 3).toInt) from by omega) (show ((I39 3).toInt ≤ (I39 4).toInt) from by omega) (show ((I39 4).toInt ≤ (I0 1).toInt) from by omega) (show ((¬ (I39 2).toInt = 0) → (I39 3).toInt < (I39 4).toInt) from by omega) (show ((¬ (I0 6).toInt = 0) → (¬ (I39 6).toInt = 0)) from by omega) (show ((I0 3).toInt ≤ (I39 3).toInt) from by omega) hP hD hS (lv_sub hl [0] rfl)
        · have gc50 : ¬ (r48.toInt = (-1)) := fun q0 => c50 (Int32.toInt_inj.mp q0)
          refine lv_aload_n hx hb dX12_owns_41 rfl (lv_at hl 0 rfl) ?_
          refine g_get F hK hP 0 (Wm_at0 G g q I39 J40 R41 L42) clX12 28 (by decide) flX12_98 rfl dX12_owns_42 ?_
          refine lv_bipush (v := 12) hx hb dX12_owns_45 (by decide) ?_
          refine lv_aload_n hx hb dX12_owns_47 rfl (lv_at hl 0 rfl) ?_
          refine g_get F hK hP 0 (Wm_at0 G g q I39 J40 R41 L42) clX12 44 (by decide) flX12_146 rfl dX12_owns_48 ?_
          refine cst_i (hsI 12 rfl) ?_
          have w_I0_12 := rg (hvI0 12 (by decide)) (0) (1) rfl rfl
          refine lv_imul hx hb dX12_owns_51 ?_
          refine lv_topi (fun x51 ex51 => ?_)
          have fx51 : x51.toInt = 12 * (I0 12).toInt := by rw [ex51]; exact t_mul (by show (-2147483648 : Int) ≤ 12 * (I0 12).toInt; omega) (by show 12 * (I0 12).toInt ≤ 2147483647; omega)
          refine lv_aload_n hx hb dX12_owns_52 rfl (lv_at hl 0 rfl) ?_
          refine lv_iconst (v := 2) hx hb dX12_owns_53 (by decide) ?_
          refine lv_aload_n hx hb dX12_owns_54 rfl (lv_at hl 0 rfl) ?_
          refine g_get F hK hP 0 (Wm_at0 G g q I39 J40 R41 L42) clX12 7 (by decide) flX12_32 rfl dX12_owns_55 ?_
          refine wvi (As := [.int 2, .long (J40 0)]) (rest := [.int x51, .ref (g 16)]) (b := (g 45)) (d := 1) F hK hP hD hS hA (s_X12_named2 l G g q I39 J40 R41 L42 hvI hvR  2 ((J40 0)) (by decide)) kmV_X12_named mlX12_354 clX12 rfl 0 (Wm_at0 G g q I39 J40 R41 L42) ⟨(Nat.le_of_ble_eq_true rfl), (Nat.le_of_ble_eq_true rfl)⟩ hl.1 rfl (Nat.le_of_ble_eq_true rfl) dX12_owns_58 (fun r52 u53 H locs hwr52 hP hD hS => ?_)
          obtain ⟨F0r52, F1r52, F2r52, F3r52, F4r52⟩ := hwr52
          replace F0r52 : ((-1 : Int) ≤ r52.toInt ∧ r52.toInt ≤ (11 : Int)) := F0r52
          replace F1r52 : ((2 : Int) = 0 → r52.toInt ≤ 4) := F1r52
          replace F2r52 : ((2 : Int) = 1 → r52.toInt ≤ 5) := F2r52
          replace F3r52 : ((2 : Int) = 2 → ∀ k : Nat, (k : Int) < (R41 7 (Int32.toNatClampNeg (I39 12))).toInt → r52.toInt = -1 → ¬ L42 2 ((12 * (I39 12).toInt + (k : Int)).toNat) = (J40 0)) := F3r52
          replace F4r52 : ((2 : Int) = 2 → 0 ≤ r52.toInt → (r52.toInt < (R41 7 (Int32.toNatClampNeg (I39 12))).toInt ∧ L42 2 ((12 * (I39 12).toInt + r52.toInt).toNat) = (J40 0))) := F4r52
          have hner52 : ¬ r52.toInt = -1 := by
            intro h
            obtain ⟨a1, a2⟩ := F4r48 rfl (by omega)
            exact F3r52 rfl r48.toInt.toNat (by omega) h (by rw [show ((r48.toInt.toNat : Nat) : Int) = r48.toInt from by omega]; exact a2)
          refine lv_iadd hx hb dX12_owns_61 ?_
          refine lv_topi (fun x54 ex54 => ?_)
          have fx54 : x54.toInt = x51.toInt + r52.toInt := by rw [ex54]; exact t_add (by show (-2147483648 : Int) ≤ x51.toInt + r52.toInt; omega) (by show x51.toInt + r52.toInt ≤ 2147483647; omega)
          refine g_iald F hK hP 17 (Wm_at17 G g q I39 J40 R41 L42) (in_of (by omega)) dX12_owns_62 rfl ?_
          refine lv_topi (fun x55 ex55 => ?_)
          have gx55 : x55.toInt = (R0 13 (Int32.toNatClampNeg x54)).toInt := congrArg Int32.toInt ((ex55).trans (congrFun (tRr37 13 rfl) _))
          have fx55 : ((-1 : Int) ≤ x55.toInt ∧ x55.toInt ≤ (4 : Int)) := by rw [ex55]; exact hvR 13 (by decide) _ (clamp_lt (n := 24) (in_of (by omega)))
          refine lv_iconst (v := (-1)) hx hb dX12_owns_63 (by decide) ?_
          refine lv_icmp_eq (tgt := 76) hx hb dX12_owns_64 (by decide) (fun c56 => ?_) (fun c56 => ?_)
          · have gc56 : x55.toInt = (-1) := congrArg Int32.toInt c56
            exact lab_76  I39 J40 R41 L42 _ _ _ hvI hvR hsI hsR (show ((I0 4).toInt ≤ (I39 3).toInt) from by omega) (show ((I39 3).toInt ≤ (I39 4).toInt) from by omega) (show ((I39 4).toInt ≤ (I0 1).toInt) from by omega) (show ((¬ (I39 2).toInt = 0) → (I39 3).toInt < (I39 4).toInt) from by omega) (show ((¬ (I0 6).toInt = 0) → (¬ (I39 6).toInt = 0)) from by omega) (show ((I0 3).toInt ≤ (I39 3).toInt) from by omega) hP hD hS (lv_sub hl [0] rfl)
          · have gc56 : ¬ (x55.toInt = (-1)) := fun q0 => c56 (Int32.toInt_inj.mp q0)
            refine lv_aload_n hx hb dX12_owns_67 rfl (lv_at hl 0 rfl) ?_
            refine lv_iconst (v := 3) hx hb dX12_owns_68 (by decide) ?_
            refine lv_aload_n hx hb dX12_owns_69 rfl (lv_at hl 0 rfl) ?_
            refine g_get F hK hP 0 (Wm_at0 G g q I39 J40 R41 L42) clX12 4 (by decide) flX12_23 rfl dX12_owns_70 ?_
            have w_I39_3 := rg (hv_I39 3 (by decide)) (0) (1800) rfl rfl
            refine wvv (As := [.int 3, .int (I39 3)]) (rest := []) (b := (g 45)) (d := 1) F hK hP hD hS hA (s_X12_blame l G g q I39 J40 R41 L42 hvI hvR  3 ((I39 3)) (by decide) (show ((0 : Int) ≤ (I39 3).toInt ∧ (I39 3).toInt ≤ (1800 : Int)) from by omega)) kmV_X12_blame mlX12_240 clX12 rfl 0 (Wm_at0 G g q I39 J40 R41 L42) ⟨(Nat.le_of_ble_eq_true rfl), (Nat.le_of_ble_eq_true rfl)⟩ hl.1 rfl (Nat.le_of_ble_eq_true rfl) dX12_owns_73 (fun u58 H locs hwr57 hP hD hS => ?_)
            obtain ⟨I59, J60, R61, L62⟩ := u58
            replace hP : va_P G.1 vwCl (Wm G g q I59 J60 R61 L62) H := hP
            replace hD : va_D A (Wm G g q I59 J60 R61 L62) := hD
            obtain ⟨hvI, hvR, tIr57, tRr57, F0r57⟩ := hwr57
            replace F0r57 : (¬ (I59 6).toInt = 0) := F0r57
            replace hvI : InvI Wm_lo Wm_hi I59 := hvI
            replace hvR : InvR Wm_rl R61 := hvR
            replace tIr57 : SmF ([6, 7] : List Nat) I39 I59 := tIr57
            replace tRr57 : SmF ([] : List Nat) R41 R61 := tRr57
            have hv_I59 := hvI
            have hsI := smF_tr hsI tIr57 (by decide)
            have hsR := smF_tr hsR tRr57 (by decide)
            have u_I59_1 : (I59 1).toInt = (I39 1).toInt := congrArg Int32.toInt (tIr57 1 rfl)
            have u_I59_2 : (I59 2).toInt = (I39 2).toInt := congrArg Int32.toInt (tIr57 2 rfl)
            have u_I59_3 : (I59 3).toInt = (I39 3).toInt := congrArg Int32.toInt (tIr57 3 rfl)
            have u_I59_4 : (I59 4).toInt = (I39 4).toInt := congrArg Int32.toInt (tIr57 4 rfl)
            have w_I59_6 := rg (hvI 6 (by decide)) (0) (5) rfl rfl
            have nr57_0 : ((I59 3).toInt ≤ (I59 4).toInt) := by omega
            have nr57_1 : ((I59 4).toInt ≤ (I0 1).toInt) := by omega
            have nr57_2 : ((¬ (I59 2).toInt = 0) → (I59 3).toInt < (I59 4).toInt) := by omega
            have nr57_3 : ((¬ (I0 6).toInt = 0) → (¬ (I59 6).toInt = 0)) := by omega
            have nr57_4 : ((I0 3).toInt ≤ (I59 3).toInt) := by omega
            have nr57_5 : ((I0 4).toInt ≤ (I59 3).toInt) := by omega
            clear nr37_0 nr37_1 nr37_2 nr37_3 nr37_4
            exact lab_76  I59 J60 R61 L62 _ _ _ hvI hvR hsI hsR (show ((I0 4).toInt ≤ (I59 3).toInt) from by omega) (show ((I59 3).toInt ≤ (I59 4).toInt) from by omega) (show ((I59 4).toInt ≤ (I0 1).toInt) from by omega) (show ((¬ (I59 2).toInt = 0) → (I59 3).toInt < (I59 4).toInt) from by omega) (show ((¬ (I0 6).toInt = 0) → (¬ (I59 6).toInt = 0)) from by omega) (show ((I0 3).toInt ≤ (I59 3).toInt) from by omega) hP hD hS (lv_sub hl [0] rfl)
  · have gc43 : r37.toInt = 0 := congrArg Int32.toInt c43
    rw [hQ]
    exact q_v F hr hlk (I39, J40, R41, L42) hP hD hS ⟨hvI, hvR, hsI, hsR, (show (((I39 6).toInt = 0 ∧ ¬ (I0 2).toInt = 0) → (I0 3).toInt < (I39 3).toInt) from by omega), (show ((I39 3).toInt ≤ (I39 4).toInt) from by omega), (show ((I39 4).toInt ≤ (I0 1).toInt) from by omega), (show ((¬ (I39 2).toInt = 0) → (I39 3).toInt < (I39 4).toInt) from by omega), (show ((¬ (I0 6).toInt = 0) → (¬ (I39 6).toInt = 0)) from by omega), (show ((I0 3).toInt ≤ (I39 3).toInt) from by omega)⟩ dX12_owns_8 (Nat.le_of_ble_eq_true rfl) (Nat.le_of_ble_eq_true rfl)
