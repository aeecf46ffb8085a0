set_option maxHeartbeats 4000000 in
set_option maxRecDepth 100000 in
theorem s_X12_works (l : Launch) (G : Gx) (g q : Nat → Nat) (I0 : Nat → Int32) (J0 : Nat → Int64) (R0 : Nat → Nat → Int32) (L0 : Nat → Nat → Int64) (hvI : InvI Wm_lo Wm_hi I0) (hvR : InvR Wm_rl R0)  (p1 : Int32) (p2 : Int32) (hp1 : ((0 : Int) ≤ p1.toInt ∧ p1.toInt ≤ (1800 : Int))) (hp2 : ((0 : Int) ≤ p2.toInt ∧ p2.toInt ≤ (1800 : Int))) (hpre0 : (p1.toInt ≤ p2.toInt)) (hSg : Seg (R0 26) ((1800 * (I0 10).toInt + p1.toInt).toNat) ((p2.toInt - p1.toInt).toNat)) : CtL (S := St) l yX12_works cX12_works 6 (some .long) (rmD 3 0 0) G [.ref (g 45), .int p1, .int p2] (Wm G g q I0 J0 R0 L0) (fun r u => InvI Wm_lo Wm_hi u.1 ∧ InvR Wm_rl u.2.2.1 ∧ SmF ([] : List Nat) I0 u.1 ∧ SmF ([] : List Nat) R0 u.2.2.1) (fun u => Wm G g q u.1 u.2.1 u.2.2.1 u.2.2.2) := by
  refine ctL_of (own := RX12) (by decide +kernel) rfl (Nat.le_of_ble_eq_true rfl) ?_
  intro p e s m below meth c A ls F hr hlk hnm hK hP hD hA hS hl
  have hx := F.1
  have hb := F.2.1
  have hown := F.2.2.2.1
  have hl : lv_has ls 6 [(0, .ref (g 45)), (1, .int p1), (2, .int p2)] := hl
  obtain ⟨Q, hQ⟩ : ∃ Q : State → Prop, Q = MQ below (va_Ql (S := St) (fun r u => InvI Wm_lo Wm_hi u.1 ∧ InvR Wm_rl u.2.2.1 ∧ SmF ([] : List Nat) I0 u.1 ∧ SmF ([] : List Nat) R0 u.2.2.1) (BX G A (fun u => Wm G g q u.1 u.2.1 u.2.2.1 u.2.2.2)) A) [.ref (g 45), .int p1, .int p2].toArray s 0 0 A := ⟨_, rfl⟩
  rw [show (MQ below (va_Ql (S := St) (fun r u => InvI Wm_lo Wm_hi u.1 ∧ InvR Wm_rl u.2.2.1 ∧ SmF ([] : List Nat) I0 u.1 ∧ SmF ([] : List Nat) R0 u.2.2.1) (BX G A (fun u => Wm G g q u.1 u.2.1 u.2.2.1 u.2.2.2)) A) [.ref (g 45), .int p1, .int p2].toArray s (rmD 3 0 0).cells (rmD 3 0 0).slots A) = Q from hQ.symm]
  have hsI := smF_rf ([] : List Nat) I0
  have hsR := smF_rf ([] : List Nat) R0
  have hvI0 := hvI
  have w_I0_10 := rg (hvI 10 (by decide)) (0) (1) rfl rfl
  obtain ⟨sa, hsa⟩ : ∃ z : Nat, (z : Int) = 1800 * (I0 10).toInt + p1.toInt := ⟨(1800 * (I0 10).toInt + p1.toInt).toNat, by omega⟩
  obtain ⟨sn, hsn⟩ : ∃ z : Nat, (z : Int) = p2.toInt - p1.toInt := ⟨(p2.toInt - p1.toInt).toNat, by omega⟩
  have hSg2 : Seg (R0 26) sa sn := by rw [show sa = (1800 * (I0 10).toInt + p1.toInt).toNat from by omega, show sn = (p2.toInt - p1.toInt).toNat from by omega]; exact hSg
  have lab_14 : ∀ (k_14 : Nat) (a3_14 : Int32) (a4_14 : Int32) (I_14 : Nat → Int32) (J_14 : Nat → Int64) (R_14 : Nat → Nat → Int32) (L_14 : Nat → Nat → Int64) (H : Heap) (locs : List Loc) (ls : Array Slot), ((3600 - a4_14.toInt) < (k_14 : Int)) → InvI Wm_lo Wm_hi I_14 → InvR Wm_rl R_14 → SmF ([] : List Nat) I0 I_14 → SmF ([] : List Nat) R0 R_14 → ((0 : Int) ≤ a3_14.toInt ∧ a3_14.toInt ≤ (2000 : Int)) → ((0 : Int) ≤ a4_14.toInt ∧ a4_14.toInt ≤ (3600 : Int)) → ((sa : Int) ≤ a4_14.toInt) → (a3_14.toInt ≤ a4_14.toInt - sa) → (0 ≤ a3_14.toInt) → (a4_14.toInt ≤ (sa : Int) + sn) → (hgt (R0 26) sa (a4_14.toInt - (sa : Int)).toNat = a3_14.toInt) → va_P G.1 vwCl (Wm G g q I_14 J_14 R_14 L_14) H → va_D A (Wm G g q I_14 J_14 R_14 L_14) → va_S A s.heap H locs → lv_has ls 6 [(0, .ref (g 45)), (2, .int p2), (3, .int a3_14), (4, .int a4_14)] → W p l e (rmD 3 0 0) s m [.ref (g 45), .int p1, .int p2].toArray below meth c H locs 0 0 Q (F0 m 14 ls []) := by
    intro k_14
    induction k_14 with
    | zero =>
      intro a3_14 a4_14 I_14 J_14 R_14 L_14 H locs ls hm hvI hvR hsI hsR y0_14 y1_14 z0_14 z1_14 z2_14 z3_14 xl0_14 hP hD hS hl
      have hv_I_14 := hvI
      have w_I_14_10 := rg (hvI 10 (by decide)) (0) (1) rfl rfl
      have v_I_14_10 : (I_14 10).toInt = (I0 10).toInt := congrArg Int32.toInt (hsI 10 rfl)
      exact absurd hm (by omega)
    | succ k_14 ih_14 =>
      intro a3_14 a4_14 I_14 J_14 R_14 L_14 H locs ls hm hvI hvR hsI hsR y0_14 y1_14 z0_14 z1_14 z2_14 z3_14 xl0_14 hP hD hS hl
      have hv_I_14 := hvI
      have w_I_14_10 := rg (hvI 10 (by decide)) (0) (1) rfl rfl
      have v_I_14_10 : (I_14 10).toInt = (I0 10).toInt := congrArg Int32.toInt (hsI 10 rfl)
      have lab_150 : ∀ (a3_150 : Int32) (I_150 : Nat → Int32) (J_150 : Nat → Int64) (R_150 : Nat → Nat → Int32) (L_150 : Nat → Nat → Int64) (H : Heap) (locs : List Loc) (ls : Array Slot), InvI Wm_lo Wm_hi I_150 → InvR Wm_rl R_150 → SmF ([] : List Nat) I0 I_150 → SmF ([] : List Nat) R0 R_150 → ((0 : Int) ≤ a3_150.toInt ∧ a3_150.toInt ≤ (2000 : Int)) → ((0 : Int) ≤ a4_14.toInt ∧ a4_14.toInt ≤ (3599 : Int)) → (a3_150.toInt ≤ a4_14.toInt - sa + 1) → (0 ≤ a3_150.toInt) → (a4_14.toInt < (sa : Int) + sn) → (hgt (R0 26) sa ((a4_14.toInt - (sa : Int)).toNat + 1) = a3_150.toInt) → va_P G.1 vwCl (Wm G g q I_150 J_150 R_150 L_150) H → va_D A (Wm G g q I_150 J_150 R_150 L_150) → va_S A s.heap H locs → lv_has ls 6 [(0, .ref (g 45)), (2, .int p2), (3, .int a3_150), (4, .int a4_14)] → W p l e (rmD 3 0 0) s m [.ref (g 45), .int p1, .int p2].toArray below meth c H locs 0 0 Q (F0 m 150 ls []) := by
        intro a3_150 I_150 J_150 R_150 L_150 H locs ls hvI hvR hsI hsR y0_150 y1_150 z0_150 z1_150 z2_150 xl0_150 hP hD hS hl
        have hv_I_150 := hvI
        have w_I_150_10 := rg (hvI 10 (by decide)) (0) (1) rfl rfl
        have v_I_150_10 : (I_150 10).toInt = (I0 10).toInt := congrArg Int32.toInt (hsI 10 rfl)
        obtain ⟨x1, ex1⟩ : ∃ y : Int32, y = a4_14 + 1 := ⟨_, rfl⟩
        have fx1 : x1.toInt = a4_14.toInt + (1 : Int) := by rw [ex1]; exact t_add (by show (-2147483648 : Int) ≤ a4_14.toInt + (1 : Int); omega) (by show a4_14.toInt + (1 : Int) ≤ 2147483647; omega)
        refine lv_iinc (v := x1) (lv' := [(4, .int x1), (0, .ref (g 45)), (2, .int p2), (3, .int a3_150)]) hx hb dX12_works_150 hl (k := 3) rfl (by rw [ex1]; rfl) (by decide) rfl (fun ls hl => ?_)
        refine lv_goto (tgt := 14) hx hb dX12_works_153 (by decide) ?_
        exact ih_14 a3_150 x1 I_150 J_150 R_150 L_150 _ _ _ (show (3600 - x1.toInt) < (k_14 : Int) from by omega) hvI hvR hsI hsR (show ((0 : Int) ≤ a3_150.toInt ∧ a3_150.toInt ≤ (2000 : Int)) from by omega) (show ((0 : Int) ≤ x1.toInt ∧ x1.toInt ≤ (3600 : Int)) from by omega) (show ((sa : Int) ≤ x1.toInt) from by omega) (show (a3_150.toInt ≤ x1.toInt - sa) from by omega) (show (0 ≤ a3_150.toInt) from by omega) (show (x1.toInt ≤ (sa : Int) + sn) from by omega) (show (hgt (R0 26) sa (x1.toInt - (sa : Int)).toNat = a3_150.toInt) from by rw [show (x1.toInt - (sa : Int)).toNat = (a4_14.toInt - (sa : Int)).toNat + 1 from by omega]; exact xl0_150) hP hD hS (lv_sub hl [1, 2, 3, 0] rfl)
      have lab_85 : ∀ (b0_85 : Int64) (b1_85 : Int32) (I_85 : Nat → Int32) (J_85 : Nat → Int64) (R_85 : Nat → Nat → Int32) (L_85 : Nat → Nat → Int64) (H : Heap) (locs : List Loc) (ls : Array Slot), InvI Wm_lo Wm_hi I_85 → InvR Wm_rl R_85 → SmF ([] : List Nat) I0 I_85 → SmF ([] : List Nat) R0 R_85 → ((0 : Int) ≤ a4_14.toInt ∧ a4_14.toInt ≤ (3599 : Int)) → ((0 : Int) ≤ b1_85.toInt ∧ b1_85.toInt ≤ (2000 : Int)) → (b1_85.toInt = a3_14.toInt) → (a4_14.toInt < (sa : Int) + sn) → (hgt (R0 26) sa ((a4_14.toInt - (sa : Int)).toNat + 1) = a3_14.toInt + 1) → va_P G.1 vwCl (Wm G g q I_85 J_85 R_85 L_85) H → va_D A (Wm G g q I_85 J_85 R_85 L_85) → va_S A s.heap H locs → lv_has ls 6 [(0, .ref (g 45)), (2, .int p2), (3, .int a3_14), (4, .int a4_14)] → W p l e (rmD 3 0 0) s m [.ref (g 45), .int p1, .int p2].toArray below meth c H locs 0 0 Q (F0 m 85 ls [.long b0_85, .int b1_85, .ref (g 38)]) := by
        intro b0_85 b1_85 I_85 J_85 R_85 L_85 H locs ls hvI hvR hsI hsR y0_85 y1_85 z0_85 z1_85 xl0_85 hP hD hS hl
        have hv_I_85 := hvI
        have w_I_85_10 := rg (hvI 10 (by decide)) (0) (1) rfl rfl
        have v_I_85_10 : (I_85 10).toInt = (I0 10).toInt := congrArg Int32.toInt (hsI 10 rfl)
        refine p_lrow (W1 := fun y => Wm G g q I_85 J_85 R_85 y) (n := 3) F hK hP hD hS 39 (Wm_at39 G g q I_85 J_85 R_85 L_85) (in_of (by omega)) dX12_works_85 (Wm_rowL3 G g q I_85 J_85 R_85 L_85) (fun L2 H locs eL2 hP hD hS => ?_)
        obtain ⟨x3, ex3⟩ : ∃ y : Int32, y = a3_14 + 1 := ⟨_, rfl⟩
        have fx3 : x3.toInt = a3_14.toInt + (1 : Int) := by rw [ex3]; exact t_add (by show (-2147483648 : Int) ≤ a3_14.toInt + (1 : Int); omega) (by show a3_14.toInt + (1 : Int) ≤ 2147483647; omega)
        refine lv_iinc (v := x3) (lv' := [(3, .int x3), (0, .ref (g 45)), (2, .int p2), (4, .int a4_14)]) hx hb dX12_works_86 hl (k := 2) rfl (by rw [ex3]; rfl) (by decide) rfl (fun ls hl => ?_)
        refine lv_goto (tgt := 150) hx hb dX12_works_89 (by decide) ?_
        exact lab_150 x3 I_85 J_85 R_85 L2 _ _ _ hvI hvR hsI hsR (show ((0 : Int) ≤ x3.toInt ∧ x3.toInt ≤ (2000 : Int)) from by omega) (show ((0 : Int) ≤ a4_14.toInt ∧ a4_14.toInt ≤ (3599 : Int)) from by omega) (show (x3.toInt ≤ a4_14.toInt - sa + 1) from by omega) (show (0 ≤ x3.toInt) from by omega) (show (a4_14.toInt < (sa : Int) + sn) from by omega) (show (hgt (R0 26) sa ((a4_14.toInt - (sa : Int)).toNat + 1) = x3.toInt) from xl0_85.trans (by omega)) hP hD hS (lv_sub hl [1, 2, 0, 3] rfl)
      refine lv_iload hx hb dX12_works_14 (lv_at hl 3 rfl) ?_
      refine lv_sipush (v := 1800) hx hb dX12_works_16 (by decide) ?_
      refine lv_aload_n hx hb dX12_works_19 rfl (lv_at hl 0 rfl) ?_
      refine g_get F hK hP 0 (Wm_at0 G g q I_14 J_14 R_14 L_14) clX12 12 (by decide) flX12_48 rfl dX12_works_20 ?_
      refine cst_i (hsI 10 rfl) ?_
      have w_I0_10 := rg (hvI0 10 (by decide)) (0) (1) rfl rfl
      refine lv_imul hx hb dX12_works_23 ?_
      refine lv_topi (fun x4 ex4 => ?_)
      have fx4 : x4.toInt = 1800 * (I0 10).toInt := by rw [ex4]; exact t_mul (by show (-2147483648 : Int) ≤ 1800 * (I0 10).toInt; omega) (by show 1800 * (I0 10).toInt ≤ 2147483647; omega)
      refine lv_iload_n hx hb dX12_works_24 rfl (lv_at hl 1 rfl) ?_
      refine lv_iadd hx hb dX12_works_25 ?_
      refine lv_topi (fun x5 ex5 => ?_)
      have fx5 : x5.toInt = x4.toInt + p2.toInt := by rw [ex5]; exact t_add (by show (-2147483648 : Int) ≤ x4.toInt + p2.toInt; omega) (by show x4.toInt + p2.toInt ≤ 2147483647; omega)
      refine lv_icmp_ge (tgt := 156) hx hb dX12_works_26 (by decide) (fun c6 => ?_) (fun c6 => ?_)
      · have gc6 : x5.toInt ≤ a4_14.toInt := (tle _ _).mp c6
        refine lv_aload_n hx hb dX12_works_156 rfl (lv_at hl 0 rfl) ?_
        refine g_get F hK hP 0 (Wm_at0 G g q I_14 J_14 R_14 L_14) clX12 56 (by decide) flX12_183 rfl dX12_works_157 ?_
        refine lv_iconst (v := 0) hx hb dX12_works_160 (by decide) ?_
        refine g_lald F hK hP 39 (Wm_at39 G g q I_14 J_14 R_14 L_14) (in_of (by decide)) dX12_works_161 rfl ?_
        refine lv_topl (fun x7 ex7 => ?_)
        rw [hQ]
        exact q_l F hr hlk (I_14, J_14, R_14, L_14) hP hD hS ⟨hvI, hvR, hsI, hsR⟩ dX12_works_162 (Nat.le_of_ble_eq_true rfl) (Nat.le_of_ble_eq_true rfl)
      · have gc6 : ¬ (x5.toInt ≤ a4_14.toInt) := fun q0 => c6 ((tle _ _).mpr q0)
        refine lv_aload_n hx hb dX12_works_29 rfl (lv_at hl 0 rfl) ?_
        refine g_get F hK hP 0 (Wm_at0 G g q I_14 J_14 R_14 L_14) clX12 41 (by decide) flX12_137 rfl dX12_works_30 ?_
        refine lv_iload hx hb dX12_works_33 (lv_at hl 3 rfl) ?_
        refine g_iald F hK hP 30 (Wm_at30 G g q I_14 J_14 R_14 L_14) (in_of (by omega)) dX12_works_35 rfl ?_
        refine lv_topi (fun x8 ex8 => ?_)
        have gx8 : x8.toInt = (R0 26 (Int32.toNatClampNeg a4_14)).toInt := congrArg Int32.toInt ((ex8).trans (congrFun (hsR 26 rfl) _))
        have fx8 : ((0 : Int) ≤ x8.toInt ∧ x8.toInt ≤ (22 : Int)) := by rw [ex8]; exact hvR 26 (by decide) _ (clamp_lt (n := 3600) (in_of (by omega)))
        obtain ⟨kk, hkk⟩ : ∃ z : Nat, (sa : Int) + (z : Int) = a4_14.toInt := ⟨(a4_14.toInt - (sa : Int)).toNat, by omega⟩
        have hop : (R0 26 (sa + kk)).toInt = x8.toInt := by rw [show sa + kk = Int32.toNatClampNeg a4_14 from by have := clamp_nn (x := a4_14) (by omega); omega]; exact gx8.symm
        have hh : hgt (R0 26) sa kk = a3_14.toInt := by rw [show kk = (a4_14.toInt - (sa : Int)).toNat from by omega]; exact xl0_14
        refine lv_istore (lv' := [(5, .int x8), (0, .ref (g 45)), (2, .int p2), (3, .int a3_14), (4, .int a4_14)]) hx hb dX12_works_36 hl (by decide) rfl (fun ls hl => ?_)
        refine lv_iload hx hb dX12_works_38 (lv_at hl 0 rfl) ?_
        refine lv_bipush (v := 9) hx hb dX12_works_40 (by decide) ?_
        refine lv_icmp_gt (tgt := 92) hx hb dX12_works_42 (by decide) (fun c9 => ?_) (fun c9 => ?_)
        · have gc9 : 9 < x8.toInt := (tlt _ _).mp c9
          refine lv_iload hx hb dX12_works_92 (lv_at hl 0 rfl) ?_
          refine lv_bipush (v := 22) hx hb dX12_works_94 (by decide) ?_
          refine lv_icmp_ne (tgt := 120) hx hb dX12_works_96 (by decide) (fun c10 => ?_) (fun c10 => ?_)
          · have gc10 : ¬ (x8.toInt = 22) := fun q0 => c10 (Int32.toInt_inj.mp q0)
            have h2n := sg_o hSg2 (k := kk) (by omega) (by omega) (by omega)
            obtain ⟨x11, ex11⟩ : ∃ y : Int32, y = a3_14 + (-1) := ⟨_, rfl⟩
            have fx11 : x11.toInt = a3_14.toInt + (-1 : Int) := by rw [ex11]; exact t_add (by show (-2147483648 : Int) ≤ a3_14.toInt + (-1 : Int); omega) (by show a3_14.toInt + (-1 : Int) ≤ 2147483647; omega)
            refine lv_iinc (v := x11) (lv' := [(3, .int x11), (5, .int x8), (0, .ref (g 45)), (2, .int p2), (4, .int a4_14)]) hx hb dX12_works_120 hl (k := 3) rfl (by rw [ex11]; rfl) (by decide) rfl (fun ls hl => ?_)
            refine lv_aload_n hx hb dX12_works_123 rfl (lv_at hl 2 rfl) ?_
            refine g_get F hK hP 0 (Wm_at0 G g q I_14 J_14 R_14 L_14) clX12 56 (by decide) flX12_183 rfl dX12_works_124 ?_
            refine lv_iload_n hx hb dX12_works_127 rfl (lv_at hl 0 rfl) ?_
            refine lv_iconst (v := 1) hx hb dX12_works_128 (by decide) ?_
            refine lv_isub hx hb dX12_works_129 ?_
            refine lv_topi (fun x12 ex12 => ?_)
            have fx12 : x12.toInt = x11.toInt - 1 := by rw [ex12]; exact t_sub (by show (-2147483648 : Int) ≤ x11.toInt - 1; omega) (by show x11.toInt - 1 ≤ 2147483647; omega)
            refine lv_iload hx hb dX12_works_130 (lv_at hl 1 rfl) ?_
            refine lv_aload_n hx hb dX12_works_132 rfl (lv_at hl 2 rfl) ?_
            refine g_get F hK hP 0 (Wm_at0 G g q I_14 J_14 R_14 L_14) clX12 56 (by decide) flX12_183 rfl dX12_works_133 ?_
            refine lv_iload_n hx hb dX12_works_136 rfl (lv_at hl 0 rfl) ?_
            refine lv_iconst (v := 1) hx hb dX12_works_137 (by decide) ?_
            refine lv_isub hx hb dX12_works_138 ?_
            refine lv_topi (fun x13 ex13 => ?_)
            have fx13 : x13.toInt = x11.toInt - 1 := by rw [ex13]; exact t_sub (by show (-2147483648 : Int) ≤ x11.toInt - 1; omega) (by show x11.toInt - 1 ≤ 2147483647; omega)
            refine g_lald F hK hP 39 (Wm_at39 G g q I_14 J_14 R_14 L_14) (in_of (by omega)) dX12_works_139 rfl ?_
            refine lv_topl (fun x14 ex14 => ?_)
            refine lv_aload_n hx hb dX12_works_140 rfl (lv_at hl 2 rfl) ?_
            refine g_get F hK hP 0 (Wm_at0 G g q I_14 J_14 R_14 L_14) clX12 56 (by decide) flX12_183 rfl dX12_works_141 ?_
            refine lv_iload_n hx hb dX12_works_144 rfl (lv_at hl 0 rfl) ?_
            refine g_lald F hK hP 39 (Wm_at39 G g q I_14 J_14 R_14 L_14) (in_of (by omega)) dX12_works_145 rfl ?_
            refine lv_topl (fun x15 ex15 => ?_)
            refine w0l (As := [.int x8, .long x14, .long x15]) (rest := [.int x12, .ref (g 38)]) (d := 2) F hK hP hD hS hA (s_X12_made l G  x8 x14 x15 (show ((10 : Int) ≤ x8.toInt ∧ x8.toInt ≤ (21 : Int)) from by omega)) kmS_X12_made mlX12_447 ⟨(Nat.le_of_ble_eq_true rfl), (Nat.le_of_ble_eq_true rfl)⟩ hl.1 rfl (Nat.le_of_ble_eq_true rfl) dX12_works_146 (fun r16 u17 H locs hwr16 hP hD hS => ?_)
            refine p_lrow (W1 := fun y => Wm G g q I_14 J_14 R_14 y) (n := 3) F hK hP hD hS 39 (Wm_at39 G g q I_14 J_14 R_14 L_14) (in_of (by omega)) dX12_works_149 (Wm_rowL3 G g q I_14 J_14 R_14 L_14) (fun L18 H locs eL18 hP hD hS => ?_)
            exact lab_150 x11 I_14 J_14 R_14 L18 _ _ _ hvI hvR hsI hsR (show ((0 : Int) ≤ x11.toInt ∧ x11.toInt ≤ (2000 : Int)) from by omega) (show ((0 : Int) ≤ a4_14.toInt ∧ a4_14.toInt ≤ (3599 : Int)) from by omega) (show (x11.toInt ≤ a4_14.toInt - sa + 1) from by omega) (show (0 ≤ x11.toInt) from by omega) (show (a4_14.toInt < (sa : Int) + sn) from by omega) (show (hgt (R0 26) sa ((a4_14.toInt - (sa : Int)).toNat + 1) = x11.toInt) from by rw [show (a4_14.toInt - (sa : Int)).toNat = kk from by omega]; first | (rw [hg_n (by omega), hh]; done) | (rw [hg_o (by omega) (by omega), hh]; omega)) hP hD hS (lv_sub hl [2, 3, 0, 4] rfl)
          · have gc10 : x8.toInt = 22 := congrArg Int32.toInt c10
            have h1n := sg_n hSg2 (k := kk) (by omega) (by omega)
            refine lv_aload_n hx hb dX12_works_99 rfl (lv_at hl 1 rfl) ?_
            refine g_get F hK hP 0 (Wm_at0 G g q I_14 J_14 R_14 L_14) clX12 56 (by decide) flX12_183 rfl dX12_works_100 ?_
            refine lv_iload_n hx hb dX12_works_103 rfl (lv_at hl 3 rfl) ?_
            refine lv_iconst (v := 1) hx hb dX12_works_104 (by decide) ?_
            refine lv_isub hx hb dX12_works_105 ?_
            refine lv_topi (fun x19 ex19 => ?_)
            have fx19 : x19.toInt = a3_14.toInt - 1 := by rw [ex19]; exact t_sub (by show (-2147483648 : Int) ≤ a3_14.toInt - 1; omega) (by show a3_14.toInt - 1 ≤ 2147483647; omega)
            refine lv_lconst (v := 1) hx hb dX12_works_106 (by decide) ?_
            refine lv_aload_n hx hb dX12_works_107 rfl (lv_at hl 1 rfl) ?_
            refine g_get F hK hP 0 (Wm_at0 G g q I_14 J_14 R_14 L_14) clX12 56 (by decide) flX12_183 rfl dX12_works_108 ?_
            refine lv_iload_n hx hb dX12_works_111 rfl (lv_at hl 3 rfl) ?_
            refine lv_iconst (v := 1) hx hb dX12_works_112 (by decide) ?_
            refine lv_isub hx hb dX12_works_113 ?_
            refine lv_topi (fun x20 ex20 => ?_)
            have fx20 : x20.toInt = a3_14.toInt - 1 := by rw [ex20]; exact t_sub (by show (-2147483648 : Int) ≤ a3_14.toInt - 1; omega) (by show a3_14.toInt - 1 ≤ 2147483647; omega)
            refine g_lald F hK hP 39 (Wm_at39 G g q I_14 J_14 R_14 L_14) (in_of (by omega)) dX12_works_114 rfl ?_
            refine lv_topl (fun x21 ex21 => ?_)
            refine lv_lsub hx hb dX12_works_115 ?_
            refine lv_topl (fun x22 ex22 => ?_)
            refine p_lrow (W1 := fun y => Wm G g q I_14 J_14 R_14 y) (n := 3) F hK hP hD hS 39 (Wm_at39 G g q I_14 J_14 R_14 L_14) (in_of (by omega)) dX12_works_116 (Wm_rowL3 G g q I_14 J_14 R_14 L_14) (fun L23 H locs eL23 hP hD hS => ?_)
            refine lv_goto (tgt := 150) hx hb dX12_works_117 (by decide) ?_
            exact lab_150 a3_14 I_14 J_14 R_14 L23 _ _ _ hvI hvR hsI hsR (show ((0 : Int) ≤ a3_14.toInt ∧ a3_14.toInt ≤ (2000 : Int)) from by omega) (show ((0 : Int) ≤ a4_14.toInt ∧ a4_14.toInt ≤ (3599 : Int)) from by omega) (show (a3_14.toInt ≤ a4_14.toInt - sa + 1) from by omega) (show (0 ≤ a3_14.toInt) from by omega) (show (a4_14.toInt < (sa : Int) + sn) from by omega) (show (hgt (R0 26) sa ((a4_14.toInt - (sa : Int)).toNat + 1) = a3_14.toInt) from by rw [show (a4_14.toInt - (sa : Int)).toNat = kk from by omega]; first | (rw [hg_n (by omega), hh]; done) | (rw [hg_o (by omega) (by omega), hh]; omega)) hP hD hS (lv_sub hl [1, 2, 3, 4] rfl)
        · have gc9 : ¬ (9 < x8.toInt) := fun q0 => c9 ((tlt _ _).mpr q0)
          refine lv_aload_n hx hb dX12_works_45 rfl (lv_at hl 1 rfl) ?_
          refine g_get F hK hP 0 (Wm_at0 G g q I_14 J_14 R_14 L_14) clX12 56 (by decide) flX12_183 rfl dX12_works_46 ?_
          refine lv_iload_n hx hb dX12_works_49 rfl (lv_at hl 3 rfl) ?_
          refine lv_iload hx hb dX12_works_50 (lv_at hl 0 rfl) ?_
          refine lv_if_ne (tgt := 66) hx hb dX12_works_52 (by decide) (fun c24 => ?_) (fun c24 => ?_)
          · have gc24 : ¬ (x8.toInt = 0) := fun q0 => c24 (Int32.toInt_inj.mp q0)
            refine lv_iload hx hb dX12_works_66 (lv_at hl 0 rfl) ?_
            refine lv_bipush (v := 9) hx hb dX12_works_68 (by decide) ?_
            refine lv_icmp_ne (tgt := 77) hx hb dX12_works_70 (by decide) (fun c25 => ?_) (fun c25 => ?_)
            · have gc25 : ¬ (x8.toInt = 9) := fun q0 => c25 (Int32.toInt_inj.mp q0)
              refine lv_aload_n hx hb dX12_works_77 rfl (lv_at hl 1 rfl) ?_
              refine g_get F hK hP 0 (Wm_at0 G g q I_14 J_14 R_14 L_14) clX12 57 (by decide) flX12_186 rfl dX12_works_78 ?_
              refine lv_iload hx hb dX12_works_81 (lv_at hl 0 rfl) ?_
              refine g_iald F hK hP 40 (Wm_at40 G g q I_14 J_14 R_14 L_14) (in_of (by omega)) dX12_works_83 rfl ?_
              refine lv_topi (fun x26 ex26 => ?_)
              have gx26 : x26.toInt = (R0 35 (Int32.toNatClampNeg x8)).toInt := congrArg Int32.toInt ((ex26).trans (congrFun (hsR 35 rfl) _))
              obtain ⟨x27, ex27⟩ : ∃ y : Int64, (x26 : Int32).toInt64 = y := ⟨_, rfl⟩
              refine lv_i2l (v := x27) hx hb dX12_works_84 ex27 ?_
              exact lab_85 x27 a3_14 I_14 J_14 R_14 L_14 _ _ _ hvI hvR hsI hsR (show ((0 : Int) ≤ a4_14.toInt ∧ a4_14.toInt ≤ (3599 : Int)) from by omega) (show ((0 : Int) ≤ a3_14.toInt ∧ a3_14.toInt ≤ (2000 : Int)) from by omega) (show (a3_14.toInt = a3_14.toInt) from by omega) (show (a4_14.toInt < (sa : Int) + sn) from by omega) (show (hgt (R0 26) sa ((a4_14.toInt - (sa : Int)).toNat + 1) = a3_14.toInt + 1) from by rw [show (a4_14.toInt - (sa : Int)).toNat = kk from by omega, hg_v (by omega), hh]) hP hD hS (lv_sub hl [1, 2, 3, 4] rfl)
            · have gc25 : x8.toInt = 9 := congrArg Int32.toInt c25
              refine lv_lconst (v := 1) hx hb dX12_works_73 (by decide) ?_
              refine lv_goto (tgt := 85) hx hb dX12_works_74 (by decide) ?_
              exact lab_85 1 a3_14 I_14 J_14 R_14 L_14 _ _ _ hvI hvR hsI hsR (show ((0 : Int) ≤ a4_14.toInt ∧ a4_14.toInt ≤ (3599 : Int)) from by omega) (show ((0 : Int) ≤ a3_14.toInt ∧ a3_14.toInt ≤ (2000 : Int)) from by omega) (show (a3_14.toInt = a3_14.toInt) from by omega) (show (a4_14.toInt < (sa : Int) + sn) from by omega) (show (hgt (R0 26) sa ((a4_14.toInt - (sa : Int)).toNat + 1) = a3_14.toInt + 1) from by rw [show (a4_14.toInt - (sa : Int)).toNat = kk from by omega, hg_v (by omega), hh]) hP hD hS (lv_sub hl [1, 2, 3, 4] rfl)
          · have gc24 : x8.toInt = 0 := congrArg Int32.toInt c24
            refine lv_aload_n hx hb dX12_works_55 rfl (lv_at hl 1 rfl) ?_
            refine g_get F hK hP 0 (Wm_at0 G g q I_14 J_14 R_14 L_14) clX12 42 (by decide) flX12_140 rfl dX12_works_56 ?_
            refine lv_iload hx hb dX12_works_59 (lv_at hl 4 rfl) ?_
            refine g_iald F hK hP 31 (Wm_at31 G g q I_14 J_14 R_14 L_14) (in_of (by omega)) dX12_works_61 rfl ?_
            refine lv_topi (fun x28 ex28 => ?_)
            have gx28 : x28.toInt = (R0 27 (Int32.toNatClampNeg a4_14)).toInt := congrArg Int32.toInt ((ex28).trans (congrFun (hsR 27 rfl) _))
            obtain ⟨x29, ex29⟩ : ∃ y : Int64, (x28 : Int32).toInt64 = y := ⟨_, rfl⟩
            refine lv_i2l (v := x29) hx hb dX12_works_62 ex29 ?_
            refine lv_goto (tgt := 85) hx hb dX12_works_63 (by decide) ?_
            exact lab_85 x29 a3_14 I_14 J_14 R_14 L_14 _ _ _ hvI hvR hsI hsR (show ((0 : Int) ≤ a4_14.toInt ∧ a4_14.toInt ≤ (3599 : Int)) from by omega) (show ((0 : Int) ≤ a3_14.toInt ∧ a3_14.toInt ≤ (2000 : Int)) from by omega) (show (a3_14.toInt = a3_14.toInt) from by omega) (show (a4_14.toInt < (sa : Int) + sn) from by omega) (show (hgt (R0 26) sa ((a4_14.toInt - (sa : Int)).toNat + 1) = a3_14.toInt + 1) from by rw [show (a4_14.toInt - (sa : Int)).toNat = kk from by omega, hg_v (by omega), hh]) hP hD hS (lv_sub hl [1, 2, 3, 4] rfl)
  have w_I0_10 := rg (hvI 10 (by decide)) (0) (1) rfl rfl
  refine lv_iconst (v := 0) hx hb dX12_works_0 (by decide) ?_
  refine lv_istore_n (lv' := [(3, .int 0), (0, .ref (g 45)), (1, .int p1), (2, .int p2)]) hx hb dX12_works_1 rfl hl (by decide) rfl (fun ls hl => ?_)
  refine lv_sipush (v := 1800) hx hb dX12_works_2 (by decide) ?_
  refine lv_aload_n hx hb dX12_works_5 rfl (lv_at hl 1 rfl) ?_
  refine g_get F hK hP 0 (Wm_at0 G g q I0 J0 R0 L0) clX12 12 (by decide) flX12_48 rfl dX12_works_6 ?_
  have w_I0_10 := rg (hvI0 10 (by decide)) (0) (1) rfl rfl
  refine lv_imul hx hb dX12_works_9 ?_
  refine lv_topi (fun x30 ex30 => ?_)
  have fx30 : x30.toInt = 1800 * (I0 10).toInt := by rw [ex30]; exact t_mul (by show (-2147483648 : Int) ≤ 1800 * (I0 10).toInt; omega) (by show 1800 * (I0 10).toInt ≤ 2147483647; omega)
  refine lv_iload_n hx hb dX12_works_10 rfl (lv_at hl 2 rfl) ?_
  refine lv_iadd hx hb dX12_works_11 ?_
  refine lv_topi (fun x31 ex31 => ?_)
  have fx31 : x31.toInt = x30.toInt + p1.toInt := by rw [ex31]; exact t_add (by show (-2147483648 : Int) ≤ x30.toInt + p1.toInt; omega) (by show x30.toInt + p1.toInt ≤ 2147483647; omega)
  refine lv_istore (lv' := [(4, .int x31), (3, .int 0), (0, .ref (g 45)), (1, .int p1), (2, .int p2)]) hx hb dX12_works_12 hl (by decide) rfl (fun ls hl => ?_)
  exact lab_14 3601 0 x31 I0 J0 R0 L0 _ _ _ (show (3600 - x31.toInt) < ((3601 : Nat) : Int) from by omega) hvI hvR hsI hsR (by decide) (show ((0 : Int) ≤ x31.toInt ∧ x31.toInt ≤ (3600 : Int)) from by omega) (show ((sa : Int) ≤ x31.toInt) from by omega) (show (0 ≤ x31.toInt - sa) from by omega) (show (0 ≤ 0) from by omega) (show (x31.toInt ≤ (sa : Int) + sn) from by omega) (show (hgt (R0 26) sa (x31.toInt - (sa : Int)).toNat = 0) from by rw [show (x31.toInt - (sa : Int)).toNat = 0 from by omega]; rfl) hP hD hS (lv_sub hl [2, 4, 1, 0] rfl)
set_option maxHeartbeats 4000000 in
set_option maxRecDepth 100000 in
theorem s_X12_ruled (l : Launch) (G : Gx) (g q : Nat → Nat) (I0 : Nat → Int32) (J0 : Nat → Int64) (R0 : Nat → Nat → Int32) (L0 : Nat → Nat → Int64) (hvI : InvI Wm_lo Wm_hi I0) (hvR : InvR Wm_rl R0)  (p1 : Int32) (p2 : Int32) (hp1 : ((0 : Int) ≤ p1.toInt ∧ p1.toInt ≤ (11 : Int))) (hp2 : ((0 : Int) ≤ p2.toInt ∧ p2.toInt ≤ (4 : Int))) (hWf : WfM I0 R0) : CtI (S := St) l yX12_ruled cX12_ruled 4 (some .int) (rmD 4 0 0) G [.ref (g 45), .int p1, .int p2] (Wm G g q I0 J0 R0 L0) (fun r u => InvI Wm_lo Wm_hi u.1 ∧ InvR Wm_rl u.2.2.1 ∧ SmF ([] : List Nat) I0 u.1 ∧ SmF ([35] : List Nat) R0 u.2.2.1) (fun u => Wm G g q u.1 u.2.1 u.2.2.1 u.2.2.2) := by
  refine ctI_of (own := RX12) (by decide +kernel) rfl (Nat.le_of_ble_eq_true rfl) ?_
  intro p e s m below meth c A ls F hr hlk hnm hK hP hD hA hS hl
  have hx := F.1
  have hb := F.2.1
  have hown := F.2.2.2.1
  have hl : lv_has ls 4 [(0, .ref (g 45)), (1, .int p1), (2, .int p2)] := hl
  obtain ⟨Q, hQ⟩ : ∃ Q : State → Prop, Q = MQ below (va_Qi (S := St) (fun r u => InvI Wm_lo Wm_hi u.1 ∧ InvR Wm_rl u.2.2.1 ∧ SmF ([] : List Nat) I0 u.1 ∧ SmF ([35] : List Nat) R0 u.2.2.1) (BX G A (fun u => Wm G g q u.1 u.2.1 u.2.2.1 u.2.2.2)) A) [.ref (g 45), .int p1, .int p2].toArray s 0 0 A := ⟨_, rfl⟩
  rw [show (MQ below (va_Qi (S := St) (fun r u => InvI Wm_lo Wm_hi u.1 ∧ InvR Wm_rl u.2.2.1 ∧ SmF ([] : List Nat) I0 u.1 ∧ SmF ([35] : List Nat) R0 u.2.2.1) (BX G A (fun u => Wm G g q u.1 u.2.1 u.2.2.1 u.2.2.2)) A) [.ref (g 45), .int p1, .int p2].toArray s (rmD 4 0 0).cells (rmD 4 0 0).slots A) = Q from hQ.symm]
  have hsI := smF_rf ([] : List Nat) I0
  have hsR := smF_rf ([35] : List Nat) R0
  have hvI0 := hvI
  have w_I0_10 := rg (hvI 10 (by decide)) (0) (1) rfl rfl
  have lab_63 : ∀ (k_63 : Nat) (a3_63 : Int32) (I_63 : Nat → Int32) (J_63 : Nat → Int64) (R_63 : Nat → Nat → Int32) (L_63 : Nat → Nat → Int64) (H : Heap) (locs : List Loc) (ls : Array Slot), ((24 - a3_63.toInt) < (k_63 : Int)) → InvI Wm_lo Wm_hi I_63 → InvR Wm_rl R_63 → SmF ([] : List Nat) I0 I_63 → SmF ([35] : List Nat) R0 R_63 → ((0 : Int) ≤ a3_63.toInt ∧ a3_63.toInt ≤ (24 : Int)) → (12 * (I0 10).toInt ≤ a3_63.toInt) → va_P G.1 vwCl (Wm G g q I_63 J_63 R_63 L_63) H → va_D A (Wm G g q I_63 J_63 R_63 L_63) → va_S A s.heap H locs → lv_has ls 4 [(0, .ref (g 45)), (3, .int a3_63)] → W p l e (rmD 4 0 0) s m [.ref (g 45), .int p1, .int p2].toArray below meth c H locs 0 0 Q (F0 m 63 ls []) := by
    intro k_63
    induction k_63 with
    | zero =>
      intro a3_63 I_63 J_63 R_63 L_63 H locs ls hm hvI hvR hsI hsR y0_63 z0_63 hP hD hS hl
      have hv_I_63 := hvI
      have w_I_63_10 := rg (hvI 10 (by decide)) (0) (1) rfl rfl
      have v_I_63_10 : (I_63 10).toInt = (I0 10).toInt := congrArg Int32.toInt (hsI 10 rfl)
      exact absurd hm (by omega)
    | succ k_63 ih_63 =>
      intro a3_63 I_63 J_63 R_63 L_63 H locs ls hm hvI hvR hsI hsR y0_63 z0_63 hP hD hS hl
      have hv_I_63 := hvI
      have w_I_63_10 := rg (hvI 10 (by decide)) (0) (1) rfl rfl
      have v_I_63_10 : (I_63 10).toInt = (I0 10).toInt := congrArg Int32.toInt (hsI 10 rfl)
      refine lv_iload_n hx hb dX12_ruled_63 rfl (lv_at hl 1 rfl) ?_
      refine lv_bipush (v := 12) hx hb dX12_ruled_64 (by decide) ?_
      refine lv_aload_n hx hb dX12_ruled_66 rfl (lv_at hl 0 rfl) ?_
      refine g_get F hK hP 0 (Wm_at0 G g q I_63 J_63 R_63 L_63) clX12 12 (by decide) flX12_48 rfl dX12_ruled_67 ?_
      refine cst_i (hsI 10 rfl) ?_
      have w_I0_10 := rg (hvI0 10 (by decide)) (0) (1) rfl rfl
      refine lv_imul hx hb dX12_ruled_70 ?_
      refine lv_topi (fun x1 ex1 => ?_)
      have fx1 : x1.toInt = 12 * (I0 10).toInt := by rw [ex1]; exact t_mul (by show (-2147483648 : Int) ≤ 12 * (I0 10).toInt; omega) (by show 12 * (I0 10).toInt ≤ 2147483647; omega)
      refine lv_aload_n hx hb dX12_ruled_71 rfl (lv_at hl 0 rfl) ?_
      refine g_get F hK hP 0 (Wm_at0 G g q I_63 J_63 R_63 L_63) clX12 37 (by decide) flX12_125 rfl dX12_ruled_72 ?_
      refine lv_aload_n hx hb dX12_ruled_75 rfl (lv_at hl 0 rfl) ?_
      refine g_get F hK hP 0 (Wm_at0 G g q I_63 J_63 R_63 L_63) clX12 12 (by decide) flX12_48 rfl dX12_ruled_76 ?_
      refine cst_i (hsI 10 rfl) ?_
      refine g_iald F hK hP 26 (Wm_at26 G g q I_63 J_63 R_63 L_63) (in_of (by omega)) dX12_ruled_79 rfl ?_
      refine lv_topi (fun x2 ex2 => ?_)
      have gx2 : x2.toInt = (R0 22 (Int32.toNatClampNeg (I0 10))).toInt := congrArg Int32.toInt ((ex2).trans (congrFun (hsR 22 rfl) _))
      have fx2 : ((0 : Int) ≤ x2.toInt ∧ x2.toInt ≤ (12 : Int)) := by rw [ex2]; exact hvR 22 (by decide) _ (clamp_lt (n := 2) (in_of (by omega)))
      refine lv_iadd hx hb dX12_ruled_80 ?_
      refine lv_topi (fun x3 ex3 => ?_)
      have fx3 : x3.toInt = x1.toInt + x2.toInt := by rw [ex3]; exact t_add (by show (-2147483648 : Int) ≤ x1.toInt + x2.toInt; omega) (by show x1.toInt + x2.toInt ≤ 2147483647; omega)
      refine lv_icmp_ge (tgt := 129) hx hb dX12_ruled_81 (by decide) (fun c4 => ?_) (fun c4 => ?_)
      · have gc4 : x3.toInt ≤ a3_63.toInt := (tle _ _).mp c4
        refine lv_iconst (v := 0) hx hb dX12_ruled_129 (by decide) ?_
        rw [hQ]
        exact q_i F hr hlk (I_63, J_63, R_63, L_63) hP hD hS ⟨hvI, hvR, hsI, hsR⟩ dX12_ruled_130 (Nat.le_of_ble_eq_true rfl) (Nat.le_of_ble_eq_true rfl)
      · have gc4 : ¬ (x3.toInt ≤ a3_63.toInt) := fun q0 => c4 ((tle _ _).mpr q0)
        obtain ⟨kk, hkk⟩ : ∃ z : Nat, 12 * (I0 10).toInt + (z : Int) = a3_63.toInt := ⟨(a3_63.toInt - 12 * (I0 10).toInt).toNat, by omega⟩
        have cb := clamp_nn (x := (I0 10)) (by omega)
        obtain ⟨ks, kt, kv, k1, k2, k3, k4, k5, k6, k7, k8⟩ := hWf kk (by omega)
        rw [show 12 * Int32.toNatClampNeg (I0 10) + kk = Int32.toNatClampNeg a3_63 from by have := clamp_nn (x := a3_63) (by omega); omega] at k1 k2 k3
        refine lv_aload_n hx hb dX12_ruled_84 rfl (lv_at hl 0 rfl) ?_
        refine lv_aload_n hx hb dX12_ruled_85 rfl (lv_at hl 0 rfl) ?_
        refine g_get F hK hP 0 (Wm_at0 G g q I_63 J_63 R_63 L_63) clX12 39 (by decide) flX12_131 rfl dX12_ruled_86 ?_
        refine lv_iload_n hx hb dX12_ruled_89 rfl (lv_at hl 1 rfl) ?_
        refine g_iald F hK hP 28 (Wm_at28 G g q I_63 J_63 R_63 L_63) (in_of (by omega)) dX12_ruled_90 rfl ?_
        refine lv_topi (fun x5 ex5 => ?_)
        have gx5 : x5.toInt = (R0 24 (Int32.toNatClampNeg a3_63)).toInt := congrArg Int32.toInt ((ex5).trans (congrFun (hsR 24 rfl) _))
        have fx5 : ((0 : Int) ≤ x5.toInt ∧ x5.toInt ≤ (1800 : Int)) := by rw [ex5]; exact hvR 24 (by decide) _ (clamp_lt (n := 24) (in_of (by omega)))
        refine lv_aload_n hx hb dX12_ruled_91 rfl (lv_at hl 0 rfl) ?_
        refine g_get F hK hP 0 (Wm_at0 G g q I_63 J_63 R_63 L_63) clX12 40 (by decide) flX12_134 rfl dX12_ruled_92 ?_
        refine lv_iload_n hx hb dX12_ruled_95 rfl (lv_at hl 1 rfl) ?_
        refine g_iald F hK hP 29 (Wm_at29 G g q I_63 J_63 R_63 L_63) (in_of (by omega)) dX12_ruled_96 rfl ?_
        refine lv_topi (fun x6 ex6 => ?_)
        have gx6 : x6.toInt = (R0 25 (Int32.toNatClampNeg a3_63)).toInt := congrArg Int32.toInt ((ex6).trans (congrFun (hsR 25 rfl) _))
        have fx6 : ((0 : Int) ≤ x6.toInt ∧ x6.toInt ≤ (1800 : Int)) := by rw [ex6]; exact hvR 25 (by decide) _ (clamp_lt (n := 24) (in_of (by omega)))
        refine wvl (As := [.int x5, .int x6]) (rest := []) (b := (g 45)) (d := 3) F hK hP hD hS hA (s_X12_works l G g q I_63 J_63 R_63 L_63 hvI hvR  x5 x6 (show ((0 : Int) ≤ x5.toInt ∧ x5.toInt ≤ (1800 : Int)) from by omega) (show ((0 : Int) ≤ x6.toInt ∧ x6.toInt ≤ (1800 : Int)) from by omega) (by omega) (by rw [hsR 26 rfl, hsI 10 rfl, show (1800 * (I0 10).toInt + x5.toInt).toNat = 1800 * Int32.toNatClampNeg (I0 10) + kt from by omega, show (x6.toInt - x5.toInt).toNat = kv - kt from by omega]; exact k8)) kmV_X12_works mlX12_510 clX12 rfl 0 (Wm_at0 G g q I_63 J_63 R_63 L_63) ⟨(Nat.le_of_ble_eq_true rfl), (Nat.le_of_ble_eq_true rfl)⟩ hl.1 rfl (Nat.le_of_ble_eq_true rfl) dX12_ruled_97 (fun r7 u8 H locs hwr7 hP hD hS => ?_)
        obtain ⟨I9, J10, R11, L12⟩ := u8
        replace hP : va_P G.1 vwCl (Wm G g q I9 J10 R11 L12) H := hP
        replace hD : va_D A (Wm G g q I9 J10 R11 L12) := hD
        obtain ⟨hvI, hvR, tIr7, tRr7⟩ := hwr7
        replace hvI : InvI Wm_lo Wm_hi I9 := hvI
        replace hvR : InvR Wm_rl R11 := hvR
        replace tIr7 : SmF ([] : List Nat) I_63 I9 := tIr7
        replace tRr7 : SmF ([] : List Nat) R_63 R11 := tRr7
        have hv_I9 := hvI
        have hsI := smF_tr hsI tIr7 (by decide)
        have hsR := smF_tr hsR tRr7 (by decide)
        have u_I9_10 : (I9 10).toInt = (I_63 10).toInt := congrArg Int32.toInt (tIr7 10 rfl)
        refine lv_lconst (v := 1) hx hb dX12_ruled_100 (by decide) ?_
        refine W.lcmp hx hb dX12_ruled_101 ?_
        refine lv_topi (fun x13 ex13 => ?_)
        refine lv_if_ne (tgt := 123) hx hb dX12_ruled_102 (by decide) (fun c14 => ?_) (fun c14 => ?_)
        · have gc14 : ¬ (x13.toInt = 0) := fun q0 => c14 (Int32.toInt_inj.mp q0)
          have nc14 : ¬ r7 = 1 := fun q0 => c14 (by rw [ex13, q0]; exact lcmp_s _)
          obtain ⟨x15, ex15⟩ : ∃ y : Int32, y = a3_63 + 1 := ⟨_, rfl⟩
          have fx15 : x15.toInt = a3_63.toInt + (1 : Int) := by rw [ex15]; exact t_add (by show (-2147483648 : Int) ≤ a3_63.toInt + (1 : Int); omega) (by show a3_63.toInt + (1 : Int) ≤ 2147483647; omega)
          refine lv_iinc (v := x15) (lv' := [(3, .int x15), (0, .ref (g 45))]) hx hb dX12_ruled_123 hl (k := 1) rfl (by rw [ex15]; rfl) (by decide) rfl (fun ls hl => ?_)
          refine lv_goto (tgt := 63) hx hb dX12_ruled_126 (by decide) ?_
          exact ih_63 x15 I9 J10 R11 L12 _ _ _ (show (24 - x15.toInt) < (k_63 : Int) from by omega) hvI hvR hsI hsR (show ((0 : Int) ≤ x15.toInt ∧ x15.toInt ≤ (24 : Int)) from by omega) (show (12 * (I0 10).toInt ≤ x15.toInt) from by omega) hP hD hS (lv_sub hl [1, 0] rfl)
        · have gc14 : x13.toInt = 0 := congrArg Int32.toInt c14
          refine lv_aload_n hx hb dX12_ruled_105 rfl (lv_at hl 0 rfl) ?_
          refine lv_aload_n hx hb dX12_ruled_106 rfl (lv_at hl 0 rfl) ?_
          refine g_get F hK hP 0 (Wm_at0 G g q I9 J10 R11 L12) clX12 38 (by decide) flX12_128 rfl dX12_ruled_107 ?_
          refine lv_iload_n hx hb dX12_ruled_110 rfl (lv_at hl 1 rfl) ?_
          refine g_iald F hK hP 27 (Wm_at27 G g q I9 J10 R11 L12) (in_of (by omega)) dX12_ruled_111 rfl ?_
          refine lv_topi (fun x16 ex16 => ?_)
          have gx16 : x16.toInt = (R0 23 (Int32.toNatClampNeg a3_63)).toInt := congrArg Int32.toInt ((ex16).trans (congrFun (hsR 23 rfl) _))
          have fx16 : ((0 : Int) ≤ x16.toInt ∧ x16.toInt ≤ (1800 : Int)) := by rw [ex16]; exact hvR 23 (by decide) _ (clamp_lt (n := 24) (in_of (by omega)))
          refine lv_aload_n hx hb dX12_ruled_112 rfl (lv_at hl 0 rfl) ?_
          refine g_get F hK hP 0 (Wm_at0 G g q I9 J10 R11 L12) clX12 39 (by decide) flX12_131 rfl dX12_ruled_113 ?_
          refine lv_iload_n hx hb dX12_ruled_116 rfl (lv_at hl 1 rfl) ?_
          refine g_iald F hK hP 28 (Wm_at28 G g q I9 J10 R11 L12) (in_of (by omega)) dX12_ruled_117 rfl ?_
          refine lv_topi (fun x17 ex17 => ?_)
          have gx17 : x17.toInt = (R0 24 (Int32.toNatClampNeg a3_63)).toInt := congrArg Int32.toInt ((ex17).trans (congrFun (hsR 24 rfl) _))
          have fx17 : ((0 : Int) ≤ x17.toInt ∧ x17.toInt ≤ (1800 : Int)) := by rw [ex17]; exact hvR 24 (by decide) _ (clamp_lt (n := 24) (in_of (by omega)))
          refine wvl (As := [.int x16, .int x17]) (rest := []) (b := (g 45)) (d := 3) F hK hP hD hS hA (s_X12_works l G g q I9 J10 R11 L12 hvI hvR  x16 x17 (show ((0 : Int) ≤ x16.toInt ∧ x16.toInt ≤ (1800 : Int)) from by omega) (show ((0 : Int) ≤ x17.toInt ∧ x17.toInt ≤ (1800 : Int)) from by omega) (by omega) (by rw [hsR 26 rfl, hsI 10 rfl, show (1800 * (I0 10).toInt + x16.toInt).toNat = 1800 * Int32.toNatClampNeg (I0 10) + ks from by omega, show (x17.toInt - x16.toInt).toNat = kt - ks from by omega]; exact k7)) kmV_X12_works mlX12_510 clX12 rfl 0 (Wm_at0 G g q I9 J10 R11 L12) ⟨(Nat.le_of_ble_eq_true rfl), (Nat.le_of_ble_eq_true rfl)⟩ hl.1 rfl (Nat.le_of_ble_eq_true rfl) dX12_ruled_118 (fun r18 u19 H locs hwr18 hP hD hS => ?_)
          obtain ⟨I20, J21, R22, L23⟩ := u19
          replace hP : va_P G.1 vwCl (Wm G g q I20 J21 R22 L23) H := hP
          replace hD : va_D A (Wm G g q I20 J21 R22 L23) := hD
          obtain ⟨hvI, hvR, tIr18, tRr18⟩ := hwr18
          replace hvI : InvI Wm_lo Wm_hi I20 := hvI
          replace hvR : InvR Wm_rl R22 := hvR
          replace tIr18 : SmF ([] : List Nat) I9 I20 := tIr18
          replace tRr18 : SmF ([] : List Nat) R11 R22 := tRr18
          have hv_I20 := hvI
          have hsI := smF_tr hsI tIr18 (by decide)
          have hsR := smF_tr hsR tRr18 (by decide)
          have u_I20_10 : (I20 10).toInt = (I9 10).toInt := congrArg Int32.toInt (tIr18 10 rfl)
          obtain ⟨x24, ex24⟩ : ∃ y : Int32, (r18 : Int64).toInt32 = y := ⟨_, rfl⟩
          refine lv_l2i (v := x24) hx hb dX12_ruled_121 ex24 ?_
          rw [hQ]
          exact q_i F hr hlk (I20, J21, R22, L23) hP hD hS ⟨hvI, hvR, hsI, hsR⟩ dX12_ruled_122 (Nat.le_of_ble_eq_true rfl) (Nat.le_of_ble_eq_true rfl)
  have w_I0_10 := rg (hvI 10 (by decide)) (0) (1) rfl rfl
  refine lv_aload_n hx hb dX12_ruled_0 rfl (lv_at hl 0 rfl) ?_
  refine g_get F hK hP 0 (Wm_at0 G g q I0 J0 R0 L0) clX12 57 (by decide) flX12_186 rfl dX12_ruled_1 ?_
  refine lv_iconst (v := 1) hx hb dX12_ruled_4 (by decide) ?_
  refine lv_iload_n hx hb dX12_ruled_5 rfl (lv_at hl 2 rfl) ?_
  refine p_row (W1 := fun y => Wm G g q I0 J0 y L0) (n := 35) F hK hP hD hS 40 (Wm_at40 G g q I0 J0 R0 L0) (in_of (by decide)) dX12_ruled_6 (Wm_rowR35 G g q I0 J0 R0 L0) (fun R25 H locs eR25 hP hD hS => ?_)
  have hvR : InvR Wm_rl R25 := inv_upR hvR 35 eR25 (upd_in (hvR 35 (by decide)) (full _))
  have hsR := smF_up hsR eR25 (by decide)
  refine lv_aload_n hx hb dX12_ruled_7 rfl (lv_at hl 0 rfl) ?_
  refine g_get F hK hP 0 (Wm_at0 G g q I0 J0 R25 L0) clX12 57 (by decide) flX12_186 rfl dX12_ruled_8 ?_
  refine lv_iconst (v := 2) hx hb dX12_ruled_11 (by decide) ?_
  refine lv_iload_n hx hb dX12_ruled_12 rfl (lv_at hl 1 rfl) ?_
  refine p_row (W1 := fun y => Wm G g q I0 J0 y L0) (n := 35) F hK hP hD hS 40 (Wm_at40 G g q I0 J0 R25 L0) (in_of (by decide)) dX12_ruled_13 (Wm_rowR35 G g q I0 J0 R25 L0) (fun R26 H locs eR26 hP hD hS => ?_)
  have hvR : InvR Wm_rl R26 := inv_upR hvR 35 eR26 (upd_in (hvR 35 (by decide)) (full _))
  have hsR := smF_up hsR eR26 (by decide)
  refine lv_aload_n hx hb dX12_ruled_14 rfl (lv_at hl 0 rfl) ?_
  refine g_get F hK hP 0 (Wm_at0 G g q I0 J0 R26 L0) clX12 57 (by decide) flX12_186 rfl dX12_ruled_15 ?_
  refine lv_iconst (v := 3) hx hb dX12_ruled_18 (by decide) ?_
  refine lv_aload_n hx hb dX12_ruled_19 rfl (lv_at hl 0 rfl) ?_
  refine g_get F hK hP 0 (Wm_at0 G g q I0 J0 R26 L0) clX12 23 (by decide) flX12_83 rfl dX12_ruled_20 ?_
  refine lv_bipush (v := 12) hx hb dX12_ruled_23 (by decide) ?_
  refine lv_aload_n hx hb dX12_ruled_25 rfl (lv_at hl 0 rfl) ?_
  refine g_get F hK hP 0 (Wm_at0 G g q I0 J0 R26 L0) clX12 12 (by decide) flX12_48 rfl dX12_ruled_26 ?_
  have w_I0_10 := rg (hvI0 10 (by decide)) (0) (1) rfl rfl
  refine lv_imul hx hb dX12_ruled_29 ?_
  refine lv_topi (fun x27 ex27 => ?_)
  have fx27 : x27.toInt = 12 * (I0 10).toInt := by rw [ex27]; exact t_mul (by show (-2147483648 : Int) ≤ 12 * (I0 10).toInt; omega) (by show 12 * (I0 10).toInt ≤ 2147483647; omega)
  refine lv_iload_n hx hb dX12_ruled_30 rfl (lv_at hl 1 rfl) ?_
  refine lv_iadd hx hb dX12_ruled_31 ?_
  refine lv_topi (fun x28 ex28 => ?_)
  have fx28 : x28.toInt = x27.toInt + p1.toInt := by rw [ex28]; exact t_add (by show (-2147483648 : Int) ≤ x27.toInt + p1.toInt; omega) (by show x27.toInt + p1.toInt ≤ 2147483647; omega)
  refine g_iald F hK hP 12 (Wm_at12 G g q I0 J0 R26 L0) (in_of (by omega)) dX12_ruled_32 rfl ?_
  refine lv_topi (fun x29 ex29 => ?_)
  have gx29 : x29.toInt = (R0 8 (Int32.toNatClampNeg x28)).toInt := congrArg Int32.toInt ((ex29).trans (congrFun (hsR 8 rfl) _))
  have fx29 : ((0 : Int) ≤ x29.toInt ∧ x29.toInt ≤ (5 : Int)) := by rw [ex29]; exact hvR 8 (by decide) _ (clamp_lt (n := 24) (in_of (by omega)))
  refine p_row (W1 := fun y => Wm G g q I0 J0 y L0) (n := 35) F hK hP hD hS 40 (Wm_at40 G g q I0 J0 R26 L0) (in_of (by decide)) dX12_ruled_33 (Wm_rowR35 G g q I0 J0 R26 L0) (fun R30 H locs eR30 hP hD hS => ?_)
  have hvR : InvR Wm_rl R30 := inv_upR hvR 35 eR30 (upd_in (hvR 35 (by decide)) (full _))
  have hsR := smF_up hsR eR30 (by decide)
  refine lv_aload_n hx hb dX12_ruled_34 rfl (lv_at hl 0 rfl) ?_
  refine g_get F hK hP 0 (Wm_at0 G g q I0 J0 R30 L0) clX12 57 (by decide) flX12_186 rfl dX12_ruled_35 ?_
  refine lv_iconst (v := 4) hx hb dX12_ruled_38 (by decide) ?_
  refine lv_aload_n hx hb dX12_ruled_39 rfl (lv_at hl 0 rfl) ?_
  refine lv_iload_n hx hb dX12_ruled_40 rfl (lv_at hl 2 rfl) ?_
  refine wvi (As := [.int p2]) (rest := [.int 4, .ref (g 39)]) (b := (g 45)) (d := 2) F hK hP hD hS hA (s_X12_inOn l G g q I0 J0 R30 L0 hvI hvR  p2 (show ((0 : Int) ≤ p2.toInt ∧ p2.toInt ≤ (4 : Int)) from by omega)) kmV_X12_inOn mlX12_491 clX12 rfl 0 (Wm_at0 G g q I0 J0 R30 L0) ⟨(Nat.le_of_ble_eq_true rfl), (Nat.le_of_ble_eq_true rfl)⟩ hl.1 rfl (Nat.le_of_ble_eq_true rfl) dX12_ruled_41 (fun r31 u32 H locs hwr31 hP hD hS => ?_)
  refine p_row (W1 := fun y => Wm G g q I0 J0 y L0) (n := 35) F hK hP hD hS 40 (Wm_at40 G g q I0 J0 R30 L0) (in_of (by decide)) dX12_ruled_44 (Wm_rowR35 G g q I0 J0 R30 L0) (fun R33 H locs eR33 hP hD hS => ?_)
  have hvR : InvR Wm_rl R33 := inv_upR hvR 35 eR33 (upd_in (hvR 35 (by decide)) (full _))
  have hsR := smF_up hsR eR33 (by decide)
  refine lv_aload_n hx hb dX12_ruled_45 rfl (lv_at hl 0 rfl) ?_
  refine g_get F hK hP 0 (Wm_at0 G g q I0 J0 R33 L0) clX12 57 (by decide) flX12_186 rfl dX12_ruled_46 ?_
  refine lv_iconst (v := 5) hx hb dX12_ruled_49 (by decide) ?_
  refine lv_aload_n hx hb dX12_ruled_50 rfl (lv_at hl 0 rfl) ?_
  refine wvi (As := []) (rest := [.int 5, .ref (g 39)]) (b := (g 45)) (d := 1) F hK hP hD hS hA (s_X12_desksAll l G g q I0 J0 R33 L0 hvI hvR   ) kmV_X12_desksAll mlX12_454 clX12 rfl 0 (Wm_at0 G g q I0 J0 R33 L0) ⟨(Nat.le_of_ble_eq_true rfl), (Nat.le_of_ble_eq_true rfl)⟩ hl.1 rfl (Nat.le_of_ble_eq_true rfl) dX12_ruled_51 (fun r34 u35 H locs hwr34 hP hD hS => ?_)
  have F0r34 := hwr34
  replace F0r34 : ((0 : Int) ≤ r34.toInt ∧ r34.toInt ≤ (49995 : Int)) := F0r34
  refine p_row (W1 := fun y => Wm G g q I0 J0 y L0) (n := 35) F hK hP hD hS 40 (Wm_at40 G g q I0 J0 R33 L0) (in_of (by decide)) dX12_ruled_54 (Wm_rowR35 G g q I0 J0 R33 L0) (fun R36 H locs eR36 hP hD hS => ?_)
  have hvR : InvR Wm_rl R36 := inv_upR hvR 35 eR36 (upd_in (hvR 35 (by decide)) (full _))
  have hsR := smF_up hsR eR36 (by decide)
  refine lv_bipush (v := 12) hx hb dX12_ruled_55 (by decide) ?_
  refine lv_aload_n hx hb dX12_ruled_57 rfl (lv_at hl 0 rfl) ?_
  refine g_get F hK hP 0 (Wm_at0 G g q I0 J0 R36 L0) clX12 12 (by decide) flX12_48 rfl dX12_ruled_58 ?_
  refine lv_imul hx hb dX12_ruled_61 ?_
  refine lv_topi (fun x37 ex37 => ?_)
  have fx37 : x37.toInt = 12 * (I0 10).toInt := by rw [ex37]; exact t_mul (by show (-2147483648 : Int) ≤ 12 * (I0 10).toInt; omega) (by show 12 * (I0 10).toInt ≤ 2147483647; omega)
  refine lv_istore_n (lv' := [(3, .int x37), (0, .ref (g 45)), (1, .int p1), (2, .int p2)]) hx hb dX12_ruled_62 rfl hl (by decide) rfl (fun ls hl => ?_)
  exact lab_63 25 x37 I0 J0 R36 L0 _ _ _ (show (24 - x37.toInt) < ((25 : Nat) : Int) from by omega) hvI hvR hsI hsR (show ((0 : Int) ≤ x37.toInt ∧ x37.toInt ≤ (24 : Int)) from by omega) (show (12 * (I0 10).toInt ≤ x37.toInt) from by omega) hP hD hS (lv_sub hl [1, 0] rfl)
set_option maxHeartbeats 4000000 in
set_option maxRecDepth 100000 in
theorem s_X12_worth (l : Launch) (G : Gx) (g q : Nat → Nat) (I0 : Nat → Int32) (J0 : Nat → Int64) (R0 : Nat → Nat → Int32) (L0 : Nat → Nat → Int64) (hvI : InvI Wm_lo Wm_hi I0) (hvR : InvR Wm_rl R0)   (hWf : WfM I0 R0) : CtI (S := St) l yX12_worth cX12_worth 4 (some .int) (rmD 5 0 0) G [.ref (g 45)] (Wm G g q I0 J0 R0 L0) (fun r u => InvI Wm_lo Wm_hi u.1 ∧ InvR Wm_rl u.2.2.1 ∧ SmF ([] : List Nat) I0 u.1 ∧ SmF ([35] : List Nat) R0 u.2.2.1) (fun u => Wm G g q u.1 u.2.1 u.2.2.1 u.2.2.2) := by
  refine ctI_of (own := RX12) (by decide +kernel) rfl (Nat.le_of_ble_eq_true rfl) ?_
  intro p e s m below meth c A ls F hr hlk hnm hK hP hD hA hS hl
  have hx := F.1
  have hb := F.2.1
  have hown := F.2.2.2.1
  have hl : lv_has ls 4 [(0, .ref (g 45))] := hl
  obtain ⟨Q, hQ⟩ : ∃ Q : State → Prop, Q = MQ below (va_Qi (S := St) (fun r u => InvI Wm_lo Wm_hi u.1 ∧ InvR Wm_rl u.2.2.1 ∧ SmF ([] : List Nat) I0 u.1 ∧ SmF ([35] : List Nat) R0 u.2.2.1) (BX G A (fun u => Wm G g q u.1 u.2.1 u.2.2.1 u.2.2.2)) A) [.ref (g 45)].toArray s 0 0 A := ⟨_, rfl⟩
  rw [show (MQ below (va_Qi (S := St) (fun r u => InvI Wm_lo Wm_hi u.1 ∧ InvR Wm_rl u.2.2.1 ∧ SmF ([] : List Nat) I0 u.1 ∧ SmF ([35] : List Nat) R0 u.2.2.1) (BX G A (fun u => Wm G g q u.1 u.2.1 u.2.2.1 u.2.2.2)) A) [.ref (g 45)].toArray s (rmD 5 0 0).cells (rmD 5 0 0).slots A) = Q from hQ.symm]
  have hsI := smF_rf ([] : List Nat) I0
  have hsR := smF_rf ([35] : List Nat) R0
  have hvI0 := hvI
  have lab_7 : ∀ (k_7 : Nat) (a1_7 : Int32) (a2_7 : Int32) (I_7 : Nat → Int32) (J_7 : Nat → Int64) (R_7 : Nat → Nat → Int32) (L_7 : Nat → Nat → Int64) (H : Heap) (locs : List Loc) (ls : Array Slot), ((12 - a2_7.toInt) < (k_7 : Int)) → InvI Wm_lo Wm_hi I_7 → InvR Wm_rl R_7 → SmF ([] : List Nat) I0 I_7 → SmF ([35] : List Nat) R0 R_7 → ((0 : Int) ≤ a2_7.toInt ∧ a2_7.toInt ≤ (12 : Int)) → va_P G.1 vwCl (Wm G g q I_7 J_7 R_7 L_7) H → va_D A (Wm G g q I_7 J_7 R_7 L_7) → va_S A s.heap H locs → lv_has ls 4 [(0, .ref (g 45)), (1, .int a1_7), (2, .int a2_7)] → W p l e (rmD 5 0 0) s m [.ref (g 45)].toArray below meth c H locs 0 0 Q (F0 m 7 ls []) := by
    intro k_7
    induction k_7 with
    | zero =>
      intro a1_7 a2_7 I_7 J_7 R_7 L_7 H locs ls hm hvI hvR hsI hsR y0_7 hP hD hS hl
      have hv_I_7 := hvI
      exact absurd hm (by omega)
    | succ k_7 ih_7 =>
      intro a1_7 a2_7 I_7 J_7 R_7 L_7 H locs ls hm hvI hvR hsI hsR y0_7 hP hD hS hl
      have hv_I_7 := hvI
      have lab_22 : ∀ (k_22 : Nat) (a1_22 : Int32) (a3_22 : Int32) (I_22 : Nat → Int32) (J_22 : Nat → Int64) (R_22 : Nat → Nat → Int32) (L_22 : Nat → Nat → Int64) (H : Heap) (locs : List Loc) (ls : Array Slot), ((5 - a3_22.toInt) < (k_22 : Int)) → InvI Wm_lo Wm_hi I_22 → InvR Wm_rl R_22 → SmF ([] : List Nat) I0 I_22 → SmF ([35] : List Nat) R0 R_22 → ((0 : Int) ≤ a2_7.toInt ∧ a2_7.toInt ≤ (11 : Int)) → ((0 : Int) ≤ a3_22.toInt ∧ a3_22.toInt ≤ (5 : Int)) → va_P G.1 vwCl (Wm G g q I_22 J_22 R_22 L_22) H → va_D A (Wm G g q I_22 J_22 R_22 L_22) → va_S A s.heap H locs → lv_has ls 4 [(0, .ref (g 45)), (1, .int a1_22), (2, .int a2_7), (3, .int a3_22)] → W p l e (rmD 5 0 0) s m [.ref (g 45)].toArray below meth c H locs 0 0 Q (F0 m 22 ls []) := by
        intro k_22
        induction k_22 with
        | zero =>
          intro a1_22 a3_22 I_22 J_22 R_22 L_22 H locs ls hm hvI hvR hsI hsR y0_22 y1_22 hP hD hS hl
          have hv_I_22 := hvI
          exact absurd hm (by omega)
        | succ k_22 ih_22 =>
          intro a1_22 a3_22 I_22 J_22 R_22 L_22 H locs ls hm hvI hvR hsI hsR y0_22 y1_22 hP hD hS hl
          have hv_I_22 := hvI
          have lab_64 : ∀ (a1_64 : Int32) (I_64 : Nat → Int32) (J_64 : Nat → Int64) (R_64 : Nat → Nat → Int32) (L_64 : Nat → Nat → Int64) (H : Heap) (locs : List Loc) (ls : Array Slot), InvI Wm_lo Wm_hi I_64 → InvR Wm_rl R_64 → SmF ([] : List Nat) I0 I_64 → SmF ([35] : List Nat) R0 R_64 → ((0 : Int) ≤ a3_22.toInt ∧ a3_22.toInt ≤ (4 : Int)) → va_P G.1 vwCl (Wm G g q I_64 J_64 R_64 L_64) H → va_D A (Wm G g q I_64 J_64 R_64 L_64) → va_S A s.heap H locs → lv_has ls 4 [(0, .ref (g 45)), (1, .int a1_64), (2, .int a2_7), (3, .int a3_22)] → W p l e (rmD 5 0 0) s m [.ref (g 45)].toArray below meth c H locs 0 0 Q (F0 m 64 ls []) := by
            intro a1_64 I_64 J_64 R_64 L_64 H locs ls hvI hvR hsI hsR y0_64 hP hD hS hl
            have hv_I_64 := hvI
            obtain ⟨x1, ex1⟩ : ∃ y : Int32, y = a3_22 + 1 := ⟨_, rfl⟩
            have fx1 : x1.toInt = a3_22.toInt + (1 : Int) := by rw [ex1]; exact t_add (by show (-2147483648 : Int) ≤ a3_22.toInt + (1 : Int); omega) (by show a3_22.toInt + (1 : Int) ≤ 2147483647; omega)
            refine lv_iinc (v := x1) (lv' := [(3, .int x1), (0, .ref (g 45)), (1, .int a1_64), (2, .int a2_7)]) hx hb dX12_worth_64 hl (k := 3) rfl (by rw [ex1]; rfl) (by decide) rfl (fun ls hl => ?_)
            refine lv_goto (tgt := 22) hx hb dX12_worth_67 (by decide) ?_
            exact ih_22 a1_64 x1 I_64 J_64 R_64 L_64 _ _ _ (show (5 - x1.toInt) < (k_22 : Int) from by omega) hvI hvR hsI hsR (show ((0 : Int) ≤ a2_7.toInt ∧ a2_7.toInt ≤ (11 : Int)) from by omega) (show ((0 : Int) ≤ x1.toInt ∧ x1.toInt ≤ (5 : Int)) from by omega) hP hD hS (lv_sub hl [1, 2, 3, 0] rfl)
          refine lv_iload_n hx hb dX12_worth_22 rfl (lv_at hl 3 rfl) ?_
          refine lv_iconst (v := 5) hx hb dX12_worth_23 (by decide) ?_
          refine lv_icmp_ge (tgt := 70) hx hb dX12_worth_24 (by decide) (fun c2 => ?_) (fun c2 => ?_)
          · have gc2 : 5 ≤ a3_22.toInt := (tle _ _).mp c2
            obtain ⟨x3, ex3⟩ : ∃ y : Int32, y = a2_7 + 1 := ⟨_, rfl⟩
            have fx3 : x3.toInt = a2_7.toInt + (1 : Int) := by rw [ex3]; exact t_add (by show (-2147483648 : Int) ≤ a2_7.toInt + (1 : Int); omega) (by show a2_7.toInt + (1 : Int) ≤ 2147483647; omega)
            refine lv_iinc (v := x3) (lv' := [(2, .int x3), (0, .ref (g 45)), (1, .int a1_22), (3, .int a3_22)]) hx hb dX12_worth_70 hl (k := 2) rfl (by rw [ex3]; rfl) (by decide) rfl (fun ls hl => ?_)
            refine lv_goto (tgt := 7) hx hb dX12_worth_73 (by decide) ?_
            exact ih_7 a1_22 x3 I_22 J_22 R_22 L_22 _ _ _ (show (12 - x3.toInt) < (k_7 : Int) from by omega) hvI hvR hsI hsR (show ((0 : Int) ≤ x3.toInt ∧ x3.toInt ≤ (12 : Int)) from by omega) hP hD hS (lv_sub hl [1, 2, 0] rfl)
          · have gc2 : ¬ (5 ≤ a3_22.toInt) := fun q0 => c2 ((tle _ _).mpr q0)
            refine lv_aload_n hx hb dX12_worth_27 rfl (lv_at hl 0 rfl) ?_
            refine lv_iload_n hx hb dX12_worth_28 rfl (lv_at hl 2 rfl) ?_
            refine lv_iload_n hx hb dX12_worth_29 rfl (lv_at hl 3 rfl) ?_
            refine wvi (As := [.int a2_7, .int a3_22]) (rest := []) (b := (g 45)) (d := 1) F hK hP hD hS hA (s_X12_isIn l G g q I_22 J_22 R_22 L_22 hvI hvR  a2_7 a3_22 (show ((0 : Int) ≤ a2_7.toInt ∧ a2_7.toInt ≤ (11 : Int)) from by omega) (show ((0 : Int) ≤ a3_22.toInt ∧ a3_22.toInt ≤ (4 : Int)) from by omega)) kmV_X12_isIn mlX12_479 clX12 rfl 0 (Wm_at0 G g q I_22 J_22 R_22 L_22) ⟨(Nat.le_of_ble_eq_true rfl), (Nat.le_of_ble_eq_true rfl)⟩ hl.1 rfl (Nat.le_of_ble_eq_true rfl) dX12_worth_30 (fun r4 u5 H locs hwr4 hP hD hS => ?_)
            have F0r4 := hwr4
            replace F0r4 : ((0 : Int) ≤ r4.toInt ∧ r4.toInt ≤ (1 : Int)) := F0r4
            refine lv_if_eq (tgt := 64) hx hb dX12_worth_33 (by decide) (fun c6 => ?_) (fun c6 => ?_)
            · have gc6 : r4.toInt = 0 := congrArg Int32.toInt c6
              exact lab_64 a1_22 I_22 J_22 R_22 L_22 _ _ _ hvI hvR hsI hsR (show ((0 : Int) ≤ a3_22.toInt ∧ a3_22.toInt ≤ (4 : Int)) from by omega) hP hD hS (lv_sub hl [0, 1, 2, 3] rfl)
            · have gc6 : ¬ (r4.toInt = 0) := fun q0 => c6 (Int32.toInt_inj.mp q0)
              refine lv_iload_n hx hb dX12_worth_36 rfl (lv_at hl 1 rfl) ?_
              refine lv_aload_n hx hb dX12_worth_37 rfl (lv_at hl 0 rfl) ?_
              refine g_get F hK hP 0 (Wm_at0 G g q I_22 J_22 R_22 L_22) clX12 26 (by decide) flX12_92 rfl dX12_worth_38 ?_
              refine lv_iconst (v := 5) hx hb dX12_worth_41 (by decide) ?_
              refine lv_bipush (v := 12) hx hb dX12_worth_42 (by decide) ?_
              refine lv_aload_n hx hb dX12_worth_44 rfl (lv_at hl 0 rfl) ?_
              refine g_get F hK hP 0 (Wm_at0 G g q I_22 J_22 R_22 L_22) clX12 12 (by decide) flX12_48 rfl dX12_worth_45 ?_
              refine cst_i (hsI 10 rfl) ?_
              have w_I0_10 := rg (hvI0 10 (by decide)) (0) (1) rfl rfl
              refine lv_imul hx hb dX12_worth_48 ?_
              refine lv_topi (fun x7 ex7 => ?_)
              have fx7 : x7.toInt = 12 * (I0 10).toInt := by rw [ex7]; exact t_mul (by show (-2147483648 : Int) ≤ 12 * (I0 10).toInt; omega) (by show 12 * (I0 10).toInt ≤ 2147483647; omega)
              refine lv_iload_n hx hb dX12_worth_49 rfl (lv_at hl 2 rfl) ?_
              refine lv_iadd hx hb dX12_worth_50 ?_
              refine lv_topi (fun x8 ex8 => ?_)
              have fx8 : x8.toInt = x7.toInt + a2_7.toInt := by rw [ex8]; exact t_add (by show (-2147483648 : Int) ≤ x7.toInt + a2_7.toInt; omega) (by show x7.toInt + a2_7.toInt ≤ 2147483647; omega)
              refine lv_imul hx hb dX12_worth_51 ?_
              refine lv_topi (fun x9 ex9 => ?_)
              have fx9 : x9.toInt = 5 * x8.toInt := by rw [ex9]; exact t_mul (by show (-2147483648 : Int) ≤ 5 * x8.toInt; omega) (by show 5 * x8.toInt ≤ 2147483647; omega)
              refine lv_iload_n hx hb dX12_worth_52 rfl (lv_at hl 3 rfl) ?_
              refine lv_iadd hx hb dX12_worth_53 ?_
              refine lv_topi (fun x10 ex10 => ?_)
              have fx10 : x10.toInt = x9.toInt + a3_22.toInt := by rw [ex10]; exact t_add (by show (-2147483648 : Int) ≤ x9.toInt + a3_22.toInt; omega) (by show x9.toInt + a3_22.toInt ≤ 2147483647; omega)
              refine g_iald F hK hP 15 (Wm_at15 G g q I_22 J_22 R_22 L_22) (in_of (by omega)) dX12_worth_54 rfl ?_
              refine lv_topi (fun x11 ex11 => ?_)
              have gx11 : x11.toInt = (R0 11 (Int32.toNatClampNeg x10)).toInt := congrArg Int32.toInt ((ex11).trans (congrFun (hsR 11 rfl) _))
              refine lv_aload_n hx hb dX12_worth_55 rfl (lv_at hl 0 rfl) ?_
              refine lv_iload_n hx hb dX12_worth_56 rfl (lv_at hl 2 rfl) ?_
              refine lv_iload_n hx hb dX12_worth_57 rfl (lv_at hl 3 rfl) ?_
              refine wvi (As := [.int a2_7, .int a3_22]) (rest := [.int x11, .int a1_22]) (b := (g 45)) (d := 4) F hK hP hD hS hA (s_X12_ruled l G g q I_22 J_22 R_22 L_22 hvI hvR  a2_7 a3_22 (show ((0 : Int) ≤ a2_7.toInt ∧ a2_7.toInt ≤ (11 : Int)) from by omega) (show ((0 : Int) ≤ a3_22.toInt ∧ a3_22.toInt ≤ (4 : Int)) from by omega) (wm_sm hWf (hsI 10 rfl) (hsR 22 rfl) (hsR 23 rfl) (hsR 24 rfl) (hsR 25 rfl) (hsR 26 rfl))) kmV_X12_ruled mlX12_517 clX12 rfl 0 (Wm_at0 G g q I_22 J_22 R_22 L_22) ⟨(Nat.le_of_ble_eq_true rfl), (Nat.le_of_ble_eq_true rfl)⟩ hl.1 rfl (Nat.le_of_ble_eq_true rfl) dX12_worth_58 (fun r12 u13 H locs hwr12 hP hD hS => ?_)
              obtain ⟨I14, J15, R16, L17⟩ := u13
              replace hP : va_P G.1 vwCl (Wm G g q I14 J15 R16 L17) H := hP
              replace hD : va_D A (Wm G g q I14 J15 R16 L17) := hD
              obtain ⟨hvI, hvR, tIr12, tRr12⟩ := hwr12
              replace hvI : InvI Wm_lo Wm_hi I14 := hvI
              replace hvR : InvR Wm_rl R16 := hvR
              replace tIr12 : SmF ([] : List Nat) I_22 I14 := tIr12
              replace tRr12 : SmF ([35] : List Nat) R_22 R16 := tRr12
              have hv_I14 := hvI
              have hsI := smF_tr hsI tIr12 (by decide)
              have hsR := smF_tr hsR tRr12 (by decide)
              refine lv_iadd hx hb dX12_worth_61 ?_
              refine lv_topi (fun x18 ex18 => ?_)
              refine lv_iadd hx hb dX12_worth_62 ?_
              refine lv_topi (fun x19 ex19 => ?_)
              refine lv_istore_n (lv' := [(1, .int x19), (0, .ref (g 45)), (2, .int a2_7), (3, .int a3_22)]) hx hb dX12_worth_63 rfl hl (by decide) rfl (fun ls hl => ?_)
              exact lab_64 x19 I14 J15 R16 L17 _ _ _ hvI hvR hsI hsR (show ((0 : Int) ≤ a3_22.toInt ∧ a3_22.toInt ≤ (4 : Int)) from by omega) hP hD hS (lv_sub hl [1, 0, 2, 3] rfl)
      refine lv_iload_n hx hb dX12_worth_7 rfl (lv_at hl 2 rfl) ?_
      refine lv_aload_n hx hb dX12_worth_8 rfl (lv_at hl 0 rfl) ?_
      refine g_get F hK hP 0 (Wm_at0 G g q I_7 J_7 R_7 L_7) clX12 21 (by decide) flX12_77 rfl dX12_worth_9 ?_
      refine lv_aload_n hx hb dX12_worth_12 rfl (lv_at hl 0 rfl) ?_
      refine g_get F hK hP 0 (Wm_at0 G g q I_7 J_7 R_7 L_7) clX12 12 (by decide) flX12_48 rfl dX12_worth_13 ?_
      refine cst_i (hsI 10 rfl) ?_
      have w_I0_10 := rg (hvI0 10 (by decide)) (0) (1) rfl rfl
      refine g_iald F hK hP 10 (Wm_at10 G g q I_7 J_7 R_7 L_7) (in_of (by omega)) dX12_worth_16 rfl ?_
      refine lv_topi (fun x20 ex20 => ?_)
      have gx20 : x20.toInt = (R0 7 (Int32.toNatClampNeg (I0 10))).toInt := congrArg Int32.toInt ((ex20).trans (congrFun (hsR 7 rfl) _))
      have fx20 : ((0 : Int) ≤ x20.toInt ∧ x20.toInt ≤ (12 : Int)) := by rw [ex20]; exact hvR 7 (by decide) _ (clamp_lt (n := 2) (in_of (by omega)))
      refine lv_icmp_ge (tgt := 76) hx hb dX12_worth_17 (by decide) (fun c21 => ?_) (fun c21 => ?_)
      · have gc21 : x20.toInt ≤ a2_7.toInt := (tle _ _).mp c21
        refine lv_iload_n hx hb dX12_worth_76 rfl (lv_at hl 1 rfl) ?_
        rw [hQ]
        exact q_i F hr hlk (I_7, J_7, R_7, L_7) hP hD hS ⟨hvI, hvR, hsI, hsR⟩ dX12_worth_77 (Nat.le_of_ble_eq_true rfl) (Nat.le_of_ble_eq_true rfl)
      · have gc21 : ¬ (x20.toInt ≤ a2_7.toInt) := fun q0 => c21 ((tle _ _).mpr q0)
        refine lv_iconst (v := 0) hx hb dX12_worth_20 (by decide) ?_
        refine lv_istore_n (lv' := [(3, .int 0), (0, .ref (g 45)), (1, .int a1_7), (2, .int a2_7)]) hx hb dX12_worth_21 rfl hl (by decide) rfl (fun ls hl => ?_)
        exact lab_22 6 a1_7 0 I_7 J_7 R_7 L_7 _ _ _ (show (5 - 0) < ((6 : Nat) : Int) from by omega) hvI hvR hsI hsR (show ((0 : Int) ≤ a2_7.toInt ∧ a2_7.toInt ≤ (11 : Int)) from by omega) (by decide) hP hD hS (lv_sub hl [1, 2, 3, 0] rfl)
  refine lv_aload_n hx hb dX12_worth_0 rfl (lv_at hl 0 rfl) ?_
  refine wvi (As := []) (rest := []) (b := (g 45)) (d := 3) F hK hP hD hS hA (s_X12_tied l G g q I0 J0 R0 L0 hvI hvR   ) kmV_X12_tied mlX12_514 clX12 rfl 0 (Wm_at0 G g q I0 J0 R0 L0) ⟨(Nat.le_of_ble_eq_true rfl), (Nat.le_of_ble_eq_true rfl)⟩ hl.1 rfl (Nat.le_of_ble_eq_true rfl) dX12_worth_1 (fun r22 u23 H locs hwr22 hP hD hS => ?_)
  refine lv_istore_n (lv' := [(1, .int r22), (0, .ref (g 45))]) hx hb dX12_worth_4 rfl hl (by decide) rfl (fun ls hl => ?_)
  refine lv_iconst (v := 0) hx hb dX12_worth_5 (by decide) ?_
  refine lv_istore_n (lv' := [(2, .int 0), (1, .int r22), (0, .ref (g 45))]) hx hb dX12_worth_6 rfl hl (by decide) rfl (fun ls hl => ?_)
  exact lab_7 13 r22 0 I0 J0 R0 L0 _ _ _ (show (12 - 0) < ((13 : Nat) : Int) from by omega) hvI hvR hsI hsR (by decide) hP hD hS (lv_sub hl [2, 1, 0] rfl)
set_option maxHeartbeats 4000000 in
set_option maxRecDepth 100000 in
theorem s_X12_betters (l : Launch) (G : Gx) (g q : Nat → Nat) (I0 : Nat → Int32) (J0 : Nat → Int64) (R0 : Nat → Nat → Int32) (L0 : Nat → Nat → Int64) (hvI : InvI Wm_lo Wm_hi I0) (hvR : InvR Wm_rl R0)  (p1 : Int32) (hWf : WfM I0 R0) : CtI (S := St) l yX12_betters cX12_betters 5 (some .boolean) (rmD 6 0 0) G [.ref (g 45), .int p1] (Wm G g q I0 J0 R0 L0) (fun r u => InvI Wm_lo Wm_hi u.1 ∧ InvR Wm_rl u.2.2.1 ∧ SmF ([17, 18, 19, 21] : List Nat) I0 u.1 ∧ SmF ([35, 36] : List Nat) R0 u.2.2.1 ∧ ((0 : Int) ≤ r.toInt ∧ r.toInt ≤ (1 : Int)) ∧ (r.toInt = 1 → (u.1 21).toInt < (I0 21).toInt) ∧ ((u.1 21).toInt ≤ (I0 21).toInt)) (fun u => Wm G g q u.1 u.2.1 u.2.2.1 u.2.2.2) := by
  refine ctI_of (own := RX12) (by decide +kernel) rfl (Nat.le_of_ble_eq_true rfl) ?_
  intro p e s m below meth c A ls F hr hlk hnm hK hP hD hA hS hl
  have hx := F.1
  have hb := F.2.1
  have hown := F.2.2.2.1
  have hl : lv_has ls 5 [(0, .ref (g 45)), (1, .int p1)] := hl
  obtain ⟨Q, hQ⟩ : ∃ Q : State → Prop, Q = MQ below (va_Qi (S := St) (fun r u => InvI Wm_lo Wm_hi u.1 ∧ InvR Wm_rl u.2.2.1 ∧ SmF ([17, 18, 19, 21] : List Nat) I0 u.1 ∧ SmF ([35, 36] : List Nat) R0 u.2.2.1 ∧ ((0 : Int) ≤ r.toInt ∧ r.toInt ≤ (1 : Int)) ∧ (r.toInt = 1 → (u.1 21).toInt < (I0 21).toInt) ∧ ((u.1 21).toInt ≤ (I0 21).toInt)) (BX G A (fun u => Wm G g q u.1 u.2.1 u.2.2.1 u.2.2.2)) A) [.ref (g 45), .int p1].toArray s 0 0 A := ⟨_, rfl⟩
  rw [show (MQ below (va_Qi (S := St) (fun r u => InvI Wm_lo Wm_hi u.1 ∧ InvR Wm_rl u.2.2.1 ∧ SmF ([17, 18, 19, 21] : List Nat) I0 u.1 ∧ SmF ([35, 36] : List Nat) R0 u.2.2.1 ∧ ((0 : Int) ≤ r.toInt ∧ r.toInt ≤ (1 : Int)) ∧ (r.toInt = 1 → (u.1 21).toInt < (I0 21).toInt) ∧ ((u.1 21).toInt ≤ (I0 21).toInt)) (BX G A (fun u => Wm G g q u.1 u.2.1 u.2.2.1 u.2.2.2)) A) [.ref (g 45), .int p1].toArray s (rmD 6 0 0).cells (rmD 6 0 0).slots A) = Q from hQ.symm]
  have hsI := smF_rf ([17, 18, 19, 21] : List Nat) I0
  have hsR := smF_rf ([35, 36] : List Nat) R0
  have hvI0 := hvI
  have lab_2 : ∀ (k_2 : Nat) (a2_2 : Int32) (I_2 : Nat → Int32) (J_2 : Nat → Int64) (R_2 : Nat → Nat → Int32) (L_2 : Nat → Nat → Int64) (H : Heap) (locs : List Loc) (ls : Array Slot), ((12 - a2_2.toInt) < (k_2 : Int)) → InvI Wm_lo Wm_hi I_2 → InvR Wm_rl R_2 → SmF ([17, 18, 19, 21] : List Nat) I0 I_2 → SmF ([35, 36] : List Nat) R0 R_2 → ((0 : Int) ≤ a2_2.toInt ∧ a2_2.toInt ≤ (12 : Int)) → ((I_2 21).toInt ≤ (I0 21).toInt) → va_P G.1 vwCl (Wm G g q I_2 J_2 R_2 L_2) H → va_D A (Wm G g q I_2 J_2 R_2 L_2) → va_S A s.heap H locs → lv_has ls 5 [(0, .ref (g 45)), (1, .int p1), (2, .int a2_2)] → W p l e (rmD 6 0 0) s m [.ref (g 45), .int p1].toArray below meth c H locs 0 0 Q (F0 m 2 ls []) := by
    intro k_2
    induction k_2 with
    | zero =>
      intro a2_2 I_2 J_2 R_2 L_2 H locs ls hm hvI hvR hsI hsR y0_2 z0_2 hP hD hS hl
      have hv_I_2 := hvI
      have w_I_2_21 := rg (hvI 21 (by decide)) (0) (2000) rfl rfl
      exact absurd hm (by omega)
    | succ k_2 ih_2 =>
      intro a2_2 I_2 J_2 R_2 L_2 H locs ls hm hvI hvR hsI hsR y0_2 z0_2 hP hD hS hl
      have hv_I_2 := hvI
      have w_I_2_21 := rg (hvI 21 (by decide)) (0) (2000) rfl rfl
      have lab_99 : ∀ (a3_99 : Int32) (I_99 : Nat → Int32) (J_99 : Nat → Int64) (R_99 : Nat → Nat → Int32) (L_99 : Nat → Nat → Int64) (H : Heap) (locs : List Loc) (ls : Array Slot), InvI Wm_lo Wm_hi I_99 → InvR Wm_rl R_99 → SmF ([17, 18, 19, 21] : List Nat) I0 I_99 → SmF ([35, 36] : List Nat) R0 R_99 → ((0 : Int) ≤ a2_2.toInt ∧ a2_2.toInt ≤ (11 : Int)) → ((I_99 21).toInt ≤ (I0 21).toInt) → va_P G.1 vwCl (Wm G g q I_99 J_99 R_99 L_99) H → va_D A (Wm G g q I_99 J_99 R_99 L_99) → va_S A s.heap H locs → lv_has ls 5 [(0, .ref (g 45)), (1, .int p1), (2, .int a2_2), (3, .int a3_99)] → W p l e (rmD 6 0 0) s m [.ref (g 45), .int p1].toArray below meth c H locs 0 0 Q (F0 m 99 ls []) := by
        intro a3_99 I_99 J_99 R_99 L_99 H locs ls hvI hvR hsI hsR y0_99 z0_99 hP hD hS hl
        have hv_I_99 := hvI
        have w_I_99_21 := rg (hvI 21 (by decide)) (0) (2000) rfl rfl
        refine lv_aload_n hx hb dX12_betters_99 rfl (lv_at hl 0 rfl) ?_
        refine g_get F hK hP 0 (Wm_at0 G g q I_99 J_99 R_99 L_99) clX12 58 (by decide) flX12_189 rfl dX12_betters_100 ?_
        refine lv_iload_n hx hb dX12_betters_103 rfl (lv_at hl 2 rfl) ?_
        refine lv_iload_n hx hb dX12_betters_104 rfl (lv_at hl 3 rfl) ?_
        refine p_row (W1 := fun y => Wm G g q I_99 J_99 y L_99) (n := 36) F hK hP hD hS 41 (Wm_at41 G g q I_99 J_99 R_99 L_99) (in_of (by omega)) dX12_betters_105 (Wm_rowR36 G g q I_99 J_99 R_99 L_99) (fun R1 H locs eR1 hP hD hS => ?_)
        have hvR : InvR Wm_rl R1 := inv_upR hvR 36 eR1 (upd_in (hvR 36 (by decide)) (full _))
        have hsR := smF_up hsR eR1 (by decide)
        obtain ⟨x2, ex2⟩ : ∃ y : Int32, y = a2_2 + 1 := ⟨_, rfl⟩
        have fx2 : x2.toInt = a2_2.toInt + (1 : Int) := by rw [ex2]; exact t_add (by show (-2147483648 : Int) ≤ a2_2.toInt + (1 : Int); omega) (by show a2_2.toInt + (1 : Int) ≤ 2147483647; omega)
        refine lv_iinc (v := x2) (lv' := [(2, .int x2), (0, .ref (g 45)), (1, .int p1), (3, .int a3_99)]) hx hb dX12_betters_106 hl (k := 2) rfl (by rw [ex2]; rfl) (by decide) rfl (fun ls hl => ?_)
        refine lv_goto (tgt := 2) hx hb dX12_betters_109 (by decide) ?_
        exact ih_2 x2 I_99 J_99 R1 L_99 _ _ _ (show (12 - x2.toInt) < (k_2 : Int) from by omega) hvI hvR hsI hsR (show ((0 : Int) ≤ x2.toInt ∧ x2.toInt ≤ (12 : Int)) from by omega) (show ((I_99 21).toInt ≤ (I0 21).toInt) from by omega) hP hD hS (lv_sub hl [1, 2, 0] rfl)
      have lab_25 : ∀ (k_25 : Nat) (a3_25 : Int32) (a4_25 : Int32) (I_25 : Nat → Int32) (J_25 : Nat → Int64) (R_25 : Nat → Nat → Int32) (L_25 : Nat → Nat → Int64) (H : Heap) (locs : List Loc) (ls : Array Slot), ((32 - a4_25.toInt) < (k_25 : Int)) → InvI Wm_lo Wm_hi I_25 → InvR Wm_rl R_25 → SmF ([17, 18, 19, 21] : List Nat) I0 I_25 → SmF ([35, 36] : List Nat) R0 R_25 → ((0 : Int) ≤ a2_2.toInt ∧ a2_2.toInt ≤ (11 : Int)) → ((0 : Int) ≤ a4_25.toInt ∧ a4_25.toInt ≤ (32 : Int)) → ((I_25 21).toInt ≤ (I0 21).toInt) → va_P G.1 vwCl (Wm G g q I_25 J_25 R_25 L_25) H → va_D A (Wm G g q I_25 J_25 R_25 L_25) → va_S A s.heap H locs → lv_has ls 5 [(0, .ref (g 45)), (1, .int p1), (2, .int a2_2), (3, .int a3_25), (4, .int a4_25)] → W p l e (rmD 6 0 0) s m [.ref (g 45), .int p1].toArray below meth c H locs 0 0 Q (F0 m 25 ls []) := by
        intro k_25
        induction k_25 with
        | zero =>
          intro a3_25 a4_25 I_25 J_25 R_25 L_25 H locs ls hm hvI hvR hsI hsR y0_25 y1_25 z0_25 hP hD hS hl
          have hv_I_25 := hvI
          have w_I_25_21 := rg (hvI 21 (by decide)) (0) (2000) rfl rfl
          exact absurd hm (by omega)
        | succ k_25 ih_25 =>
          intro a3_25 a4_25 I_25 J_25 R_25 L_25 H locs ls hm hvI hvR hsI hsR y0_25 y1_25 z0_25 hP hD hS hl
          have hv_I_25 := hvI
          have w_I_25_21 := rg (hvI 21 (by decide)) (0) (2000) rfl rfl
          have lab_93 : ∀  (I_93 : Nat → Int32) (J_93 : Nat → Int64) (R_93 : Nat → Nat → Int32) (L_93 : Nat → Nat → Int64) (H : Heap) (locs : List Loc) (ls : Array Slot), InvI Wm_lo Wm_hi I_93 → InvR Wm_rl R_93 → SmF ([17, 18, 19, 21] : List Nat) I0 I_93 → SmF ([35, 36] : List Nat) R0 R_93 → ((0 : Int) ≤ a4_25.toInt ∧ a4_25.toInt ≤ (31 : Int)) → ((I_93 21).toInt ≤ (I0 21).toInt) → va_P G.1 vwCl (Wm G g q I_93 J_93 R_93 L_93) H → va_D A (Wm G g q I_93 J_93 R_93 L_93) → va_S A s.heap H locs → lv_has ls 5 [(0, .ref (g 45)), (1, .int p1), (2, .int a2_2), (3, .int a3_25), (4, .int a4_25)] → W p l e (rmD 6 0 0) s m [.ref (g 45), .int p1].toArray below meth c H locs 0 0 Q (F0 m 93 ls []) := by
            intro I_93 J_93 R_93 L_93 H locs ls hvI hvR hsI hsR y0_93 z0_93 hP hD hS hl
            have hv_I_93 := hvI
            have w_I_93_21 := rg (hvI 21 (by decide)) (0) (2000) rfl rfl
            obtain ⟨x3, ex3⟩ : ∃ y : Int32, y = a4_25 + 1 := ⟨_, rfl⟩
            have fx3 : x3.toInt = a4_25.toInt + (1 : Int) := by rw [ex3]; exact t_add (by show (-2147483648 : Int) ≤ a4_25.toInt + (1 : Int); omega) (by show a4_25.toInt + (1 : Int) ≤ 2147483647; omega)
            refine lv_iinc (v := x3) (lv' := [(4, .int x3), (0, .ref (g 45)), (1, .int p1), (2, .int a2_2), (3, .int a3_25)]) hx hb dX12_betters_93 hl (k := 4) rfl (by rw [ex3]; rfl) (by decide) rfl (fun ls hl => ?_)
            refine lv_goto (tgt := 25) hx hb dX12_betters_96 (by decide) ?_
            exact ih_25 a3_25 x3 I_93 J_93 R_93 L_93 _ _ _ (show (32 - x3.toInt) < (k_25 : Int) from by omega) hvI hvR hsI hsR (show ((0 : Int) ≤ a2_2.toInt ∧ a2_2.toInt ≤ (11 : Int)) from by omega) (show ((0 : Int) ≤ x3.toInt ∧ x3.toInt ≤ (32 : Int)) from by omega) (show ((I_93 21).toInt ≤ (I0 21).toInt) from by omega) hP hD hS (lv_sub hl [1, 2, 3, 4, 0] rfl)
          refine lv_iload hx hb dX12_betters_25 (lv_at hl 4 rfl) ?_
          refine lv_bipush (v := 32) hx hb dX12_betters_27 (by decide) ?_
          refine lv_icmp_ge (tgt := 99) hx hb dX12_betters_29 (by decide) (fun c4 => ?_) (fun c4 => ?_)
          · have gc4 : 32 ≤ a4_25.toInt := (tle _ _).mp c4
            exact lab_99 a3_25 I_25 J_25 R_25 L_25 _ _ _ hvI hvR hsI hsR (show ((0 : Int) ≤ a2_2.toInt ∧ a2_2.toInt ≤ (11 : Int)) from by omega) (show ((I_25 21).toInt ≤ (I0 21).toInt) from by omega) hP hD hS (lv_sub hl [0, 1, 2, 3] rfl)
          · have gc4 : ¬ (32 ≤ a4_25.toInt) := fun q0 => c4 ((tle _ _).mpr q0)
            refine lv_aload_n hx hb dX12_betters_32 rfl (lv_at hl 0 rfl) ?_
            refine g_get F hK hP 0 (Wm_at0 G g q I_25 J_25 R_25 L_25) clX12 64 (by decide) flX12_207 rfl dX12_betters_33 ?_
            have w_I_25_21 := rg (hv_I_25 21 (by decide)) (0) (2000) rfl rfl
            refine lv_if_le (tgt := 99) hx hb dX12_betters_36 (by decide) (fun c5 => ?_) (fun c5 => ?_)
            · have gc5 : (I_25 21).toInt ≤ 0 := (tle _ _).mp c5
              exact lab_99 a3_25 I_25 J_25 R_25 L_25 _ _ _ hvI hvR hsI hsR (show ((0 : Int) ≤ a2_2.toInt ∧ a2_2.toInt ≤ (11 : Int)) from by omega) (show ((I_25 21).toInt ≤ (I0 21).toInt) from by omega) hP hD hS (lv_sub hl [0, 1, 2, 3] rfl)
            · have gc5 : ¬ ((I_25 21).toInt ≤ 0) := fun q0 => c5 ((tle _ _).mpr q0)
              refine lv_iload hx hb dX12_betters_39 (lv_at hl 4 rfl) ?_
              refine lv_iload_n hx hb dX12_betters_41 rfl (lv_at hl 3 rfl) ?_
              refine lv_icmp_eq (tgt := 93) hx hb dX12_betters_42 (by decide) (fun c6 => ?_) (fun c6 => ?_)
              · have gc6 : a4_25.toInt = a3_25.toInt := congrArg Int32.toInt c6
                exact lab_93  I_25 J_25 R_25 L_25 _ _ _ hvI hvR hsI hsR (show ((0 : Int) ≤ a4_25.toInt ∧ a4_25.toInt ≤ (31 : Int)) from by omega) (show ((I_25 21).toInt ≤ (I0 21).toInt) from by omega) hP hD hS (lv_sub hl [0, 1, 2, 3, 4] rfl)
              · have gc6 : ¬ (a4_25.toInt = a3_25.toInt) := fun q0 => c6 (Int32.toInt_inj.mp q0)
                refine lv_aload_n hx hb dX12_betters_45 rfl (lv_at hl 0 rfl) ?_
                refine lv_iload_n hx hb dX12_betters_46 rfl (lv_at hl 2 rfl) ?_
                refine lv_iload hx hb dX12_betters_47 (lv_at hl 4 rfl) ?_
                refine wvi (As := [.int a2_2, .int a4_25]) (rest := []) (b := (g 45)) (d := 2) F hK hP hD hS hA (s_X12_suits l G g q I_25 J_25 R_25 L_25 hvI hvR  a2_2 a4_25 (show ((0 : Int) ≤ a2_2.toInt ∧ a2_2.toInt ≤ (11 : Int)) from by omega)) kmV_X12_suits mlX12_472 clX12 rfl 0 (Wm_at0 G g q I_25 J_25 R_25 L_25) ⟨(Nat.le_of_ble_eq_true rfl), (Nat.le_of_ble_eq_true rfl)⟩ hl.1 rfl (Nat.le_of_ble_eq_true rfl) dX12_betters_49 (fun r7 u8 H locs hwr7 hP hD hS => ?_)
                have F0r7 := hwr7
                replace F0r7 : ((0 : Int) ≤ r7.toInt ∧ r7.toInt ≤ (1 : Int)) := F0r7
                refine lv_if_ne (tgt := 58) hx hb dX12_betters_52 (by decide) (fun c9 => ?_) (fun c9 => ?_)
                · have gc9 : ¬ (r7.toInt = 0) := fun q0 => c9 (Int32.toInt_inj.mp q0)
                  refine lv_aload_n hx hb dX12_betters_58 rfl (lv_at hl 0 rfl) ?_
                  refine lv_dup hx hb dX12_betters_59 rfl ?_
                  refine g_get F hK hP 0 (Wm_at0 G g q I_25 J_25 R_25 L_25) clX12 64 (by decide) flX12_207 rfl dX12_betters_60 ?_
                  refine lv_iconst (v := 1) hx hb dX12_betters_63 (by decide) ?_
                  refine lv_isub hx hb dX12_betters_64 ?_
                  refine lv_topi (fun x10 ex10 => ?_)
                  have fx10 : x10.toInt = (I_25 21).toInt - 1 := by rw [ex10]; exact t_sub (by show (-2147483648 : Int) ≤ (I_25 21).toInt - 1; omega) (by show (I_25 21).toInt - 1 ≤ 2147483647; omega)
                  refine p_fld (W1 := fun y => Wm G g q y J_25 R_25 L_25) (n := 21) (v := x10) F hK hP hD hS 0 (Wm_at0 G g q I_25 J_25 R_25 L_25) clX12 64 (by decide) flX12_207 rfl rfl rfl (Nat.le_of_ble_eq_true rfl) dX12_betters_65 (Wm_setI21 G g q I_25 J_25 R_25 L_25 _) (fun I11 H locs eI11 hP hD hS => ?_)
                  have hvI : InvI Wm_lo Wm_hi I11 := inv_upI hvI 21 eI11 (show ((0 : Int) ≤ x10.toInt ∧ x10.toInt ≤ (2000 : Int)) from by omega)
                  have hsI := smF_up hsI eI11 (by decide)
                  have hv_I11 := hvI
                  have u_I11_21 : (I11 21).toInt = x10.toInt := by rw [eI11]; rfl
                  refine lv_aload_n hx hb dX12_betters_68 rfl (lv_at hl 0 rfl) ?_
                  refine g_get F hK hP 0 (Wm_at0 G g q I11 J_25 R_25 L_25) clX12 58 (by decide) flX12_189 rfl dX12_betters_69 ?_
                  refine lv_iload_n hx hb dX12_betters_72 rfl (lv_at hl 2 rfl) ?_
                  refine lv_iload hx hb dX12_betters_73 (lv_at hl 4 rfl) ?_
                  refine p_row (W1 := fun y => Wm G g q I11 J_25 y L_25) (n := 36) F hK hP hD hS 41 (Wm_at41 G g q I11 J_25 R_25 L_25) (in_of (by omega)) dX12_betters_75 (Wm_rowR36 G g q I11 J_25 R_25 L_25) (fun R12 H locs eR12 hP hD hS => ?_)
                  have hvR : InvR Wm_rl R12 := inv_upR hvR 36 eR12 (upd_in (hvR 36 (by decide)) (full _))
                  have hsR := smF_up hsR eR12 (by decide)
                  refine lv_aload_n hx hb dX12_betters_76 rfl (lv_at hl 0 rfl) ?_
                  refine wvi (As := []) (rest := []) (b := (g 45)) (d := 5) F hK hP hD hS hA (s_X12_holds l G g q I11 J_25 R12 L_25 hvI hvR   ) kmV_X12_holds mlX12_507 clX12 rfl 0 (Wm_at0 G g q I11 J_25 R12 L_25) ⟨(Nat.le_of_ble_eq_true rfl), (Nat.le_of_ble_eq_true rfl)⟩ hl.1 rfl (Nat.le_of_ble_eq_true rfl) dX12_betters_77 (fun r13 u14 H locs hwr13 hP hD hS => ?_)
                  obtain ⟨I15, J16, R17, L18⟩ := u14
                  replace hP : va_P G.1 vwCl (Wm G g q I15 J16 R17 L18) H := hP
                  replace hD : va_D A (Wm G g q I15 J16 R17 L18) := hD
                  obtain ⟨hvI, hvR, tIr13, tRr13, F0r13⟩ := hwr13
                  replace F0r13 : ((0 : Int) ≤ r13.toInt ∧ r13.toInt ≤ (1 : Int)) := F0r13
                  replace hvI : InvI Wm_lo Wm_hi I15 := hvI
                  replace hvR : InvR Wm_rl R17 := hvR
                  replace tIr13 : SmF ([17, 18, 19] : List Nat) I11 I15 := tIr13
                  replace tRr13 : SmF ([] : List Nat) R12 R17 := tRr13
                  have hv_I15 := hvI
                  have hsI := smF_tr hsI tIr13 (by decide)
                  have hsR := smF_tr hsR tRr13 (by decide)
                  have u_I15_21 : (I15 21).toInt = (I11 21).toInt := congrArg Int32.toInt (tIr13 21 rfl)
                  refine lv_if_eq (tgt := 93) hx hb dX12_betters_80 (by decide) (fun c19 => ?_) (fun c19 => ?_)
                  · have gc19 : r13.toInt = 0 := congrArg Int32.toInt c19
                    exact lab_93  I15 J16 R17 L18 _ _ _ hvI hvR hsI hsR (show ((0 : Int) ≤ a4_25.toInt ∧ a4_25.toInt ≤ (31 : Int)) from by omega) (show ((I15 21).toInt ≤ (I0 21).toInt) from by omega) hP hD hS (lv_sub hl [0, 1, 2, 3, 4] rfl)
                  · have gc19 : ¬ (r13.toInt = 0) := fun q0 => c19 (Int32.toInt_inj.mp q0)
                    refine lv_aload_n hx hb dX12_betters_83 rfl (lv_at hl 0 rfl) ?_
                    refine wvi (As := []) (rest := []) (b := (g 45)) (d := 5) F hK hP hD hS hA (s_X12_worth l G g q I15 J16 R17 L18 hvI hvR   (wm_sm hWf (hsI 10 rfl) (hsR 22 rfl) (hsR 23 rfl) (hsR 24 rfl) (hsR 25 rfl) (hsR 26 rfl))) kmV_X12_worth mlX12_532 clX12 rfl 0 (Wm_at0 G g q I15 J16 R17 L18) ⟨(Nat.le_of_ble_eq_true rfl), (Nat.le_of_ble_eq_true rfl)⟩ hl.1 rfl (Nat.le_of_ble_eq_true rfl) dX12_betters_84 (fun r20 u21 H locs hwr20 hP hD hS => ?_)
                    obtain ⟨I22, J23, R24, L25⟩ := u21
                    replace hP : va_P G.1 vwCl (Wm G g q I22 J23 R24 L25) H := hP
                    replace hD : va_D A (Wm G g q I22 J23 R24 L25) := hD
                    obtain ⟨hvI, hvR, tIr20, tRr20⟩ := hwr20
                    replace hvI : InvI Wm_lo Wm_hi I22 := hvI
                    replace hvR : InvR Wm_rl R24 := hvR
                    replace tIr20 : SmF ([] : List Nat) I15 I22 := tIr20
                    replace tRr20 : SmF ([35] : List Nat) R17 R24 := tRr20
                    have hv_I22 := hvI
                    have hsI := smF_tr hsI tIr20 (by decide)
                    have hsR := smF_tr hsR tRr20 (by decide)
                    have u_I22_21 : (I22 21).toInt = (I15 21).toInt := congrArg Int32.toInt (tIr20 21 rfl)
                    refine lv_iload_n hx hb dX12_betters_87 rfl (lv_at hl 1 rfl) ?_
                    refine lv_icmp_le (tgt := 93) hx hb dX12_betters_88 (by decide) (fun c26 => ?_) (fun c26 => ?_)
                    · have gc26 : r20.toInt ≤ p1.toInt := (tle _ _).mp c26
                      exact lab_93  I22 J23 R24 L25 _ _ _ hvI hvR hsI hsR (show ((0 : Int) ≤ a4_25.toInt ∧ a4_25.toInt ≤ (31 : Int)) from by omega) (show ((I22 21).toInt ≤ (I0 21).toInt) from by omega) hP hD hS (lv_sub hl [0, 1, 2, 3, 4] rfl)
                    · have gc26 : ¬ (r20.toInt ≤ p1.toInt) := fun q0 => c26 ((tle _ _).mpr q0)
                      refine lv_iconst (v := 1) hx hb dX12_betters_91 (by decide) ?_
                      rw [hQ]
                      exact q_z F hr hlk (I22, J23, R24, L25) hP hD hS ⟨hvI, hvR, hsI, hsR, (show ((0 : Int) ≤ 1 ∧ 1 ≤ (1 : Int)) from by omega), (show (1 = 1 → (I22 21).toInt < (I0 21).toInt) from by omega), (show ((I22 21).toInt ≤ (I0 21).toInt) from by omega)⟩ dX12_betters_92 (Nat.le_of_ble_eq_true rfl) (Nat.le_of_ble_eq_true rfl) (nar01 (by decide))
                · have gc9 : r7.toInt = 0 := congrArg Int32.toInt c9
                  refine lv_goto (tgt := 93) hx hb dX12_betters_55 (by decide) ?_
                  exact lab_93  I_25 J_25 R_25 L_25 _ _ _ hvI hvR hsI hsR (show ((0 : Int) ≤ a4_25.toInt ∧ a4_25.toInt ≤ (31 : Int)) from by omega) (show ((I_25 21).toInt ≤ (I0 21).toInt) from by omega) hP hD hS (lv_sub hl [0, 1, 2, 3, 4] rfl)
      refine lv_iload_n hx hb dX12_betters_2 rfl (lv_at hl 2 rfl) ?_
      refine lv_aload_n hx hb dX12_betters_3 rfl (lv_at hl 0 rfl) ?_
      refine g_get F hK hP 0 (Wm_at0 G g q I_2 J_2 R_2 L_2) clX12 21 (by decide) flX12_77 rfl dX12_betters_4 ?_
      refine lv_aload_n hx hb dX12_betters_7 rfl (lv_at hl 0 rfl) ?_
      refine g_get F hK hP 0 (Wm_at0 G g q I_2 J_2 R_2 L_2) clX12 12 (by decide) flX12_48 rfl dX12_betters_8 ?_
      refine cst_i (hsI 10 rfl) ?_
      have w_I0_10 := rg (hvI0 10 (by decide)) (0) (1) rfl rfl
      refine g_iald F hK hP 10 (Wm_at10 G g q I_2 J_2 R_2 L_2) (in_of (by omega)) dX12_betters_11 rfl ?_
      refine lv_topi (fun x27 ex27 => ?_)
      have gx27 : x27.toInt = (R0 7 (Int32.toNatClampNeg (I0 10))).toInt := congrArg Int32.toInt ((ex27).trans (congrFun (hsR 7 rfl) _))
      have fx27 : ((0 : Int) ≤ x27.toInt ∧ x27.toInt ≤ (12 : Int)) := by rw [ex27]; exact hvR 7 (by decide) _ (clamp_lt (n := 2) (in_of (by omega)))
      refine lv_icmp_ge (tgt := 112) hx hb dX12_betters_12 (by decide) (fun c28 => ?_) (fun c28 => ?_)
      · have gc28 : x27.toInt ≤ a2_2.toInt := (tle _ _).mp c28
        refine lv_iconst (v := 0) hx hb dX12_betters_112 (by decide) ?_
        rw [hQ]
        exact q_z F hr hlk (I_2, J_2, R_2, L_2) hP hD hS ⟨hvI, hvR, hsI, hsR, (show ((0 : Int) ≤ 0 ∧ 0 ≤ (1 : Int)) from by omega), (show (0 = 1 → (I_2 21).toInt < (I0 21).toInt) from by omega), (show ((I_2 21).toInt ≤ (I0 21).toInt) from by omega)⟩ dX12_betters_113 (Nat.le_of_ble_eq_true rfl) (Nat.le_of_ble_eq_true rfl) (nar01 (by decide))
      · have gc28 : ¬ (x27.toInt ≤ a2_2.toInt) := fun q0 => c28 ((tle _ _).mpr q0)
        refine lv_aload_n hx hb dX12_betters_15 rfl (lv_at hl 0 rfl) ?_
        refine g_get F hK hP 0 (Wm_at0 G g q I_2 J_2 R_2 L_2) clX12 58 (by decide) flX12_189 rfl dX12_betters_16 ?_
        refine lv_iload_n hx hb dX12_betters_19 rfl (lv_at hl 2 rfl) ?_
        refine g_iald F hK hP 41 (Wm_at41 G g q I_2 J_2 R_2 L_2) (in_of (by omega)) dX12_betters_20 rfl ?_
        refine lv_topi (fun x29 ex29 => ?_)
        have gx29 : x29.toInt = (R_2 36 (Int32.toNatClampNeg a2_2)).toInt := congrArg Int32.toInt (ex29)
        refine lv_istore_n (lv' := [(3, .int x29), (0, .ref (g 45)), (1, .int p1), (2, .int a2_2)]) hx hb dX12_betters_21 rfl hl (by decide) rfl (fun ls hl => ?_)
        refine lv_iconst (v := 0) hx hb dX12_betters_22 (by decide) ?_
        refine lv_istore (lv' := [(4, .int 0), (3, .int x29), (0, .ref (g 45)), (1, .int p1), (2, .int a2_2)]) hx hb dX12_betters_23 hl (by decide) rfl (fun ls hl => ?_)
        exact lab_25 33 x29 0 I_2 J_2 R_2 L_2 _ _ _ (show (32 - 0) < ((33 : Nat) : Int) from by omega) hvI hvR hsI hsR (show ((0 : Int) ≤ a2_2.toInt ∧ a2_2.toInt ≤ (11 : Int)) from by omega) (by decide) (show ((I_2 21).toInt ≤ (I0 21).toInt) from by omega) hP hD hS (lv_sub hl [2, 3, 4, 1, 0] rfl)
  have w_I0_21 := rg (hvI 21 (by decide)) (0) (2000) rfl rfl
  refine lv_iconst (v := 0) hx hb dX12_betters_0 (by decide) ?_
  refine lv_istore_n (lv' := [(2, .int 0), (0, .ref (g 45)), (1, .int p1)]) hx hb dX12_betters_1 rfl hl (by decide) rfl (fun ls hl => ?_)
  exact lab_2 13 0 I0 J0 R0 L0 _ _ _ (show (12 - 0) < ((13 : Nat) : Int) from by omega) hvI hvR hsI hsR (by decide) (show ((I0 21).toInt ≤ (I0 21).toInt) from by omega) hP hD hS (lv_sub hl [1, 2, 0] rfl)
set_option maxHeartbeats 4000000 in
set_option maxRecDepth 100000 in
theorem s_X12_better (l : Launch) (G : Gx) (g q : Nat → Nat) (I0 : Nat → Int32) (J0 : Nat → Int64) (R0 : Nat → Nat → Int32) (L0 : Nat → Nat → Int64) (hvI : InvI Wm_lo Wm_hi I0) (hvR : InvR Wm_rl R0)  (p1 : Int32) (hWf : WfM I0 R0) : CtI (S := St) l yX12_better cX12_better 3 (some .int) (rmD 7 0 0) G [.ref (g 45), .int p1] (Wm G g q I0 J0 R0 L0) (fun r u => InvI Wm_lo Wm_hi u.1 ∧ InvR Wm_rl u.2.2.1 ∧ SmF ([17, 18, 19, 21] : List Nat) I0 u.1 ∧ SmF ([34, 35, 36] : List Nat) R0 u.2.2.1) (fun u => Wm G g q u.1 u.2.1 u.2.2.1 u.2.2.2) := by
  refine ctI_of (own := RX12) (by decide +kernel) rfl (Nat.le_of_ble_eq_true rfl) ?_
  intro p e s m below meth c A ls F hr hlk hnm hK hP hD hA hS hl
  have hx := F.1
  have hb := F.2.1
  have hown := F.2.2.2.1
  have hl : lv_has ls 3 [(0, .ref (g 45)), (1, .int p1)] := hl
  obtain ⟨Q, hQ⟩ : ∃ Q : State → Prop, Q = MQ below (va_Qi (S := St) (fun r u => InvI Wm_lo Wm_hi u.1 ∧ InvR Wm_rl u.2.2.1 ∧ SmF ([17, 18, 19, 21] : List Nat) I0 u.1 ∧ SmF ([34, 35, 36] : List Nat) R0 u.2.2.1) (BX G A (fun u => Wm G g q u.1 u.2.1 u.2.2.1 u.2.2.2)) A) [.ref (g 45), .int p1].toArray s 0 0 A := ⟨_, rfl⟩
  rw [show (MQ below (va_Qi (S := St) (fun r u => InvI Wm_lo Wm_hi u.1 ∧ InvR Wm_rl u.2.2.1 ∧ SmF ([17, 18, 19, 21] : List Nat) I0 u.1 ∧ SmF ([34, 35, 36] : List Nat) R0 u.2.2.1) (BX G A (fun u => Wm G g q u.1 u.2.1 u.2.2.1 u.2.2.2)) A) [.ref (g 45), .int p1].toArray s (rmD 7 0 0).cells (rmD 7 0 0).slots A) = Q from hQ.symm]
  have hsI := smF_rf ([17, 18, 19, 21] : List Nat) I0
  have hsR := smF_rf ([34, 35, 36] : List Nat) R0
  have hvI0 := hvI
  have lab_18 : ∀  (I_18 : Nat → Int32) (J_18 : Nat → Int64) (R_18 : Nat → Nat → Int32) (L_18 : Nat → Nat → Int64) (H : Heap) (locs : List Loc) (ls : Array Slot), InvI Wm_lo Wm_hi I_18 → InvR Wm_rl R_18 → SmF ([17, 18, 19, 21] : List Nat) I0 I_18 → SmF ([34, 35, 36] : List Nat) R0 R_18 → va_P G.1 vwCl (Wm G g q I_18 J_18 R_18 L_18) H → va_D A (Wm G g q I_18 J_18 R_18 L_18) → va_S A s.heap H locs → lv_has ls 3 [(0, .ref (g 45))] → W p l e (rmD 7 0 0) s m [.ref (g 45), .int p1].toArray below meth c H locs 0 0 Q (F0 m 18 ls []) := by
    intro I_18 J_18 R_18 L_18 H locs ls hvI hvR hsI hsR hP hD hS hl
    have hv_I_18 := hvI
    have w_I_18_21 := rg (hvI 21 (by decide)) (0) (2000) rfl rfl
    refine lv_aload_n hx hb dX12_better_18 rfl (lv_at hl 0 rfl) ?_
    refine lv_iconst (v := 3) hx hb dX12_better_19 (by decide) ?_
    refine wvi (As := [.int 3]) (rest := []) (b := (g 45)) (d := 1) F hK hP hD hS hA (s_X12_refuses l G g q I_18 J_18 R_18 L_18 hvI hvR  3 (by decide)) kmV_X12_refuses mlX12_225 clX12 rfl 0 (Wm_at0 G g q I_18 J_18 R_18 L_18) ⟨(Nat.le_of_ble_eq_true rfl), (Nat.le_of_ble_eq_true rfl)⟩ hl.1 rfl (Nat.le_of_ble_eq_true rfl) dX12_better_20 (fun r1 u2 H locs hwr1 hP hD hS => ?_)
    obtain ⟨I3, J4, R5, L6⟩ := u2
    replace hP : va_P G.1 vwCl (Wm G g q I3 J4 R5 L6) H := hP
    replace hD : va_D A (Wm G g q I3 J4 R5 L6) := hD
    obtain ⟨hvI, hvR, tIr1, tRr1, F0r1⟩ := hwr1
    replace F0r1 : ((-1 : Int) ≤ r1.toInt ∧ r1.toInt ≤ (-1 : Int)) := F0r1
    replace hvI : InvI Wm_lo Wm_hi I3 := hvI
    replace hvR : InvR Wm_rl R5 := hvR
    replace tIr1 : SmF ([] : List Nat) I_18 I3 := tIr1
    replace tRr1 : SmF ([34] : List Nat) R_18 R5 := tRr1
    have hv_I3 := hvI
    have hsI := smF_tr hsI tIr1 (by decide)
    have hsR := smF_tr hsR tRr1 (by decide)
    have u_I3_21 : (I3 21).toInt = (I_18 21).toInt := congrArg Int32.toInt (tIr1 21 rfl)
    rw [hQ]
    exact q_i F hr hlk (I3, J4, R5, L6) hP hD hS ⟨hvI, hvR, hsI, hsR⟩ dX12_better_23 (Nat.le_of_ble_eq_true rfl) (Nat.le_of_ble_eq_true rfl)
  have lab_31 : ∀ (k_31 : Nat) (a2_31 : Int32) (I_31 : Nat → Int32) (J_31 : Nat → Int64) (R_31 : Nat → Nat → Int32) (L_31 : Nat → Nat → Int64) (H : Heap) (locs : List Loc) (ls : Array Slot), (((I_31 21).toInt) < (k_31 : Int)) → InvI Wm_lo Wm_hi I_31 → InvR Wm_rl R_31 → SmF ([17, 18, 19, 21] : List Nat) I0 I_31 → SmF ([34, 35, 36] : List Nat) R0 R_31 → va_P G.1 vwCl (Wm G g q I_31 J_31 R_31 L_31) H → va_D A (Wm G g q I_31 J_31 R_31 L_31) → va_S A s.heap H locs → lv_has ls 3 [(0, .ref (g 45)), (2, .int a2_31)] → W p l e (rmD 7 0 0) s m [.ref (g 45), .int p1].toArray below meth c H locs 0 0 Q (F0 m 31 ls []) := by
    intro k_31
    induction k_31 with
    | zero =>
      intro a2_31 I_31 J_31 R_31 L_31 H locs ls hm hvI hvR hsI hsR hP hD hS hl
      have hv_I_31 := hvI
      have w_I_31_21 := rg (hvI 21 (by decide)) (0) (2000) rfl rfl
      exact absurd hm (by omega)
    | succ k_31 ih_31 =>
      intro a2_31 I_31 J_31 R_31 L_31 H locs ls hm hvI hvR hsI hsR hP hD hS hl
      have hv_I_31 := hvI
      have w_I_31_21 := rg (hvI 21 (by decide)) (0) (2000) rfl rfl
      refine lv_aload_n hx hb dX12_better_31 rfl (lv_at hl 0 rfl) ?_
      refine lv_aload_n hx hb dX12_better_32 rfl (lv_at hl 0 rfl) ?_
      refine wvi (As := []) (rest := [.ref (g 45)]) (b := (g 45)) (d := 5) F hK hP hD hS hA (s_X12_worth l G g q I_31 J_31 R_31 L_31 hvI hvR   (wm_sm hWf (hsI 10 rfl) (hsR 22 rfl) (hsR 23 rfl) (hsR 24 rfl) (hsR 25 rfl) (hsR 26 rfl))) kmV_X12_worth mlX12_532 clX12 rfl 0 (Wm_at0 G g q I_31 J_31 R_31 L_31) ⟨(Nat.le_of_ble_eq_true rfl), (Nat.le_of_ble_eq_true rfl)⟩ hl.1 rfl (Nat.le_of_ble_eq_true rfl) dX12_better_33 (fun r7 u8 H locs hwr7 hP hD hS => ?_)
      obtain ⟨I9, J10, R11, L12⟩ := u8
      replace hP : va_P G.1 vwCl (Wm G g q I9 J10 R11 L12) H := hP
      replace hD : va_D A (Wm G g q I9 J10 R11 L12) := hD
      obtain ⟨hvI, hvR, tIr7, tRr7⟩ := hwr7
      replace hvI : InvI Wm_lo Wm_hi I9 := hvI
      replace hvR : InvR Wm_rl R11 := hvR
      replace tIr7 : SmF ([] : List Nat) I_31 I9 := tIr7
      replace tRr7 : SmF ([35] : List Nat) R_31 R11 := tRr7
      have hv_I9 := hvI
      have hsI := smF_tr hsI tIr7 (by decide)
      have hsR := smF_tr hsR tRr7 (by decide)
      have u_I9_21 : (I9 21).toInt = (I_31 21).toInt := congrArg Int32.toInt (tIr7 21 rfl)
      refine wvi (As := [.int r7]) (rest := []) (b := (g 45)) (d := 6) F hK hP hD hS hA (s_X12_betters l G g q I9 J10 R11 L12 hvI hvR  r7 (wm_sm hWf (hsI 10 rfl) (hsR 22 rfl) (hsR 23 rfl) (hsR 24 rfl) (hsR 25 rfl) (hsR 26 rfl))) kmV_X12_betters mlX12_535 clX12 rfl 0 (Wm_at0 G g q I9 J10 R11 L12) ⟨(Nat.le_of_ble_eq_true rfl), (Nat.le_of_ble_eq_true rfl)⟩ hl.1 rfl (Nat.le_of_ble_eq_true rfl) dX12_better_36 (fun r13 u14 H locs hwr13 hP hD hS => ?_)
      obtain ⟨I15, J16, R17, L18⟩ := u14
      replace hP : va_P G.1 vwCl (Wm G g q I15 J16 R17 L18) H := hP
      replace hD : va_D A (Wm G g q I15 J16 R17 L18) := hD
      obtain ⟨hvI, hvR, tIr13, tRr13, F0r13, F1r13, F2r13⟩ := hwr13
      replace F0r13 : ((0 : Int) ≤ r13.toInt ∧ r13.toInt ≤ (1 : Int)) := F0r13
      replace F1r13 : (r13.toInt = 1 → (I15 21).toInt < (I9 21).toInt) := F1r13
      replace F2r13 : ((I15 21).toInt ≤ (I9 21).toInt) := F2r13
      replace hvI : InvI Wm_lo Wm_hi I15 := hvI
      replace hvR : InvR Wm_rl R17 := hvR
      replace tIr13 : SmF ([17, 18, 19, 21] : List Nat) I9 I15 := tIr13
      replace tRr13 : SmF ([35, 36] : List Nat) R11 R17 := tRr13
      have hv_I15 := hvI
      have hsI := smF_tr hsI tIr13 (by decide)
      have hsR := smF_tr hsR tRr13 (by decide)
      have w_I15_21 := rg (hvI 21 (by decide)) (0) (2000) rfl rfl
      refine lv_if_eq (tgt := 48) hx hb dX12_better_39 (by decide) (fun c19 => ?_) (fun c19 => ?_)
      · have gc19 : r13.toInt = 0 := congrArg Int32.toInt c19
        refine lv_iload_n hx hb dX12_better_48 rfl (lv_at hl 1 rfl) ?_
        rw [hQ]
        exact q_i F hr hlk (I15, J16, R17, L18) hP hD hS ⟨hvI, hvR, hsI, hsR⟩ dX12_better_49 (Nat.le_of_ble_eq_true rfl) (Nat.le_of_ble_eq_true rfl)
      · have gc19 : ¬ (r13.toInt = 0) := fun q0 => c19 (Int32.toInt_inj.mp q0)
        obtain ⟨x20, ex20⟩ : ∃ y : Int32, y = a2_31 + 1 := ⟨_, rfl⟩
        refine lv_iinc (v := x20) (lv' := [(2, .int x20), (0, .ref (g 45))]) hx hb dX12_better_42 hl (k := 1) rfl (by rw [ex20]; rfl) (by decide) rfl (fun ls hl => ?_)
        refine lv_goto (tgt := 31) hx hb dX12_better_45 (by decide) ?_
        exact ih_31 x20 I15 J16 R17 L18 _ _ _ (show ((I15 21).toInt) < (k_31 : Int) from by omega) hvI hvR hsI hsR  hP hD hS (lv_sub hl [1, 0] rfl)
  have w_I0_21 := rg (hvI 21 (by decide)) (0) (2000) rfl rfl
  refine lv_iload_n hx hb dX12_better_0 rfl (lv_at hl 1 rfl) ?_
  refine lv_iconst (v := 1) hx hb dX12_better_1 (by decide) ?_
  refine lv_sipush (v := 2000) hx hb dX12_better_2 (by decide) ?_
  refine w0i (As := [.int p1, .int 1, .int 2000]) (rest := []) (d := 1) F hK hP hD hS hA (s_X12_is l G  p1 1 2000 (by decide) (by decide)) kmS_X12_is mlX12_316 ⟨(Nat.le_of_ble_eq_true rfl), (Nat.le_of_ble_eq_true rfl)⟩ hl.1 rfl (Nat.le_of_ble_eq_true rfl) dX12_better_5 (fun r21 u22 H locs hwr21 hP hD hS => ?_)
  obtain ⟨F0r21, F1r21⟩ := hwr21
  replace F0r21 : ((0 : Int) ≤ r21.toInt ∧ r21.toInt ≤ (1 : Int)) := F0r21
  replace F1r21 : (r21.toInt = 1 → ((1 : Int) ≤ p1.toInt ∧ p1.toInt ≤ (2000 : Int))) := F1r21
  refine lv_if_eq (tgt := 18) hx hb dX12_better_8 (by decide) (fun c23 => ?_) (fun c23 => ?_)
  · have gc23 : r21.toInt = 0 := congrArg Int32.toInt c23
    exact lab_18  I0 J0 R0 L0 _ _ _ hvI hvR hsI hsR  hP hD hS (lv_sub hl [0] rfl)
  · have gc23 : ¬ (r21.toInt = 0) := fun q0 => c23 (Int32.toInt_inj.mp q0)
    refine lv_aload_n hx hb dX12_better_11 rfl (lv_at hl 0 rfl) ?_
    refine wvi (As := []) (rest := []) (b := (g 45)) (d := 5) F hK hP hD hS hA (s_X12_holds l G g q I0 J0 R0 L0 hvI hvR   ) kmV_X12_holds mlX12_507 clX12 rfl 0 (Wm_at0 G g q I0 J0 R0 L0) ⟨(Nat.le_of_ble_eq_true rfl), (Nat.le_of_ble_eq_true rfl)⟩ hl.1 rfl (Nat.le_of_ble_eq_true rfl) dX12_better_12 (fun r24 u25 H locs hwr24 hP hD hS => ?_)
    obtain ⟨I26, J27, R28, L29⟩ := u25
    replace hP : va_P G.1 vwCl (Wm G g q I26 J27 R28 L29) H := hP
    replace hD : va_D A (Wm G g q I26 J27 R28 L29) := hD
    obtain ⟨hvI, hvR, tIr24, tRr24, F0r24⟩ := hwr24
    replace F0r24 : ((0 : Int) ≤ r24.toInt ∧ r24.toInt ≤ (1 : Int)) := F0r24
    replace hvI : InvI Wm_lo Wm_hi I26 := hvI
    replace hvR : InvR Wm_rl R28 := hvR
    replace tIr24 : SmF ([17, 18, 19] : List Nat) I0 I26 := tIr24
    replace tRr24 : SmF ([] : List Nat) R0 R28 := tRr24
    have hv_I26 := hvI
    have hsI := smF_tr hsI tIr24 (by decide)
    have hsR := smF_tr hsR tRr24 (by decide)
    have u_I26_21 : (I26 21).toInt = (I0 21).toInt := congrArg Int32.toInt (tIr24 21 rfl)
    refine lv_if_ne (tgt := 24) hx hb dX12_better_15 (by decide) (fun c30 => ?_) (fun c30 => ?_)
    · have gc30 : ¬ (r24.toInt = 0) := fun q0 => c30 (Int32.toInt_inj.mp q0)
      refine lv_aload_n hx hb dX12_better_24 rfl (lv_at hl 0 rfl) ?_
      refine lv_iload_n hx hb dX12_better_25 rfl (lv_at hl 1 rfl) ?_
      refine p_fld (W1 := fun y => Wm G g q y J27 R28 L29) (n := 21) (v := p1) F hK hP hD hS 0 (Wm_at0 G g q I26 J27 R28 L29) clX12 64 (by decide) flX12_207 rfl rfl rfl (Nat.le_of_ble_eq_true rfl) dX12_better_26 (Wm_setI21 G g q I26 J27 R28 L29 _) (fun I31 H locs eI31 hP hD hS => ?_)
      have hvI : InvI Wm_lo Wm_hi I31 := inv_upI hvI 21 eI31 (show ((0 : Int) ≤ p1.toInt ∧ p1.toInt ≤ (2000 : Int)) from by omega)
      have hsI := smF_up hsI eI31 (by decide)
      have hv_I31 := hvI
      have u_I31_21 : (I31 21).toInt = p1.toInt := by rw [eI31]; rfl
      refine lv_iconst (v := 0) hx hb dX12_better_29 (by decide) ?_
      refine lv_istore_n (lv' := [(2, .int 0), (0, .ref (g 45)), (1, .int p1)]) hx hb dX12_better_30 rfl hl (by decide) rfl (fun ls hl => ?_)
      exact lab_31 2001 0 I31 J27 R28 L29 _ _ _ (show ((I31 21).toInt) < ((2001 : Nat) : Int) from by omega) hvI hvR hsI hsR  hP hD hS (lv_sub hl [1, 0] rfl)
    · have gc30 : r24.toInt = 0 := congrArg Int32.toInt c30
      exact lab_18  I26 J27 R28 L29 _ _ _ hvI hvR hsI hsR  hP hD hS (lv_sub hl [0] rfl)
set_option maxHeartbeats 4000000 in
set_option maxRecDepth 100000 in
theorem s_X12_both (l : Launch) (G : Gx) (g q : Nat → Nat) (I0 : Nat → Int32) (J0 : Nat → Int64) (R0 : Nat → Nat → Int32) (L0 : Nat → Nat → Int64) (hvI : InvI Wm_lo Wm_hi I0) (hvR : InvR Wm_rl R0)  (p1 : Int32) (p2 : Int32) (hWf : WfM I0 R0) : CtI (S := St) l yX12_both cX12_both 11 (some .int) (rmD 6 0 0) G [.ref (g 45), .int p1, .int p2] (Wm G g q I0 J0 R0 L0) (fun r u => InvI Wm_lo Wm_hi u.1 ∧ InvR Wm_rl u.2.2.1 ∧ SmF ([17, 18, 19] : List Nat) I0 u.1 ∧ SmF ([34, 35, 36] : List Nat) R0 u.2.2.1) (fun u => Wm G g q u.1 u.2.1 u.2.2.1 u.2.2.2) := by
  refine ctI_of (own := RX12) (by decide +kernel) rfl (Nat.le_of_ble_eq_true rfl) ?_
  intro p e s m below meth c A ls F hr hlk hnm hK hP hD hA hS hl
  have hx := F.1
  have hb := F.2.1
  have hown := F.2.2.2.1
  have hl : lv_has ls 11 [(0, .ref (g 45)), (1, .int p1), (2, .int p2)] := hl
  obtain ⟨Q, hQ⟩ : ∃ Q : State → Prop, Q = MQ below (va_Qi (S := St) (fun r u => InvI Wm_lo Wm_hi u.1 ∧ InvR Wm_rl u.2.2.1 ∧ SmF ([17, 18, 19] : List Nat) I0 u.1 ∧ SmF ([34, 35, 36] : List Nat) R0 u.2.2.1) (BX G A (fun u => Wm G g q u.1 u.2.1 u.2.2.1 u.2.2.2)) A) [.ref (g 45), .int p1, .int p2].toArray s 0 0 A := ⟨_, rfl⟩
  rw [show (MQ below (va_Qi (S := St) (fun r u => InvI Wm_lo Wm_hi u.1 ∧ InvR Wm_rl u.2.2.1 ∧ SmF ([17, 18, 19] : List Nat) I0 u.1 ∧ SmF ([34, 35, 36] : List Nat) R0 u.2.2.1) (BX G A (fun u => Wm G g q u.1 u.2.1 u.2.2.1 u.2.2.2)) A) [.ref (g 45), .int p1, .int p2].toArray s (rmD 6 0 0).cells (rmD 6 0 0).slots A) = Q from hQ.symm]
  have hsI := smF_rf ([17, 18, 19] : List Nat) I0
  have hsR := smF_rf ([34, 35, 36] : List Nat) R0
  have hvI0 := hvI
  have lab_21 : ∀  (I_21 : Nat → Int32) (J_21 : Nat → Int64) (R_21 : Nat → Nat → Int32) (L_21 : Nat → Nat → Int64) (H : Heap) (locs : List Loc) (ls : Array Slot), InvI Wm_lo Wm_hi I_21 → InvR Wm_rl R_21 → SmF ([17, 18, 19] : List Nat) I0 I_21 → SmF ([34, 35, 36] : List Nat) R0 R_21 → va_P G.1 vwCl (Wm G g q I_21 J_21 R_21 L_21) H → va_D A (Wm G g q I_21 J_21 R_21 L_21) → va_S A s.heap H locs → lv_has ls 11 [(0, .ref (g 45))] → W p l e (rmD 6 0 0) s m [.ref (g 45), .int p1, .int p2].toArray below meth c H locs 0 0 Q (F0 m 21 ls []) := by
    intro I_21 J_21 R_21 L_21 H locs ls hvI hvR hsI hsR hP hD hS hl
    have hv_I_21 := hvI
    refine lv_aload_n hx hb dX12_both_21 rfl (lv_at hl 0 rfl) ?_
    refine g_get F hK hP 0 (Wm_at0 G g q I_21 J_21 R_21 L_21) clX12 55 (by decide) flX12_180 rfl dX12_both_22 ?_
    refine lv_iconst (v := 3) hx hb dX12_both_25 (by decide) ?_
    refine lv_dup2_11 hx hb dX12_both_26 rfl rfl ?_
    refine g_iald F hK hP 38 (Wm_at38 G g q I_21 J_21 R_21 L_21) (in_of (by decide)) dX12_both_27 rfl ?_
    refine lv_topi (fun x1 ex1 => ?_)
    have gx1 : x1.toInt = (R_21 34 (Int32.toNatClampNeg 3)).toInt := congrArg Int32.toInt (ex1)
    refine lv_iconst (v := 1) hx hb dX12_both_28 (by decide) ?_
    refine lv_iadd hx hb dX12_both_29 ?_
    refine lv_topi (fun x2 ex2 => ?_)
    refine p_row (W1 := fun y => Wm G g q I_21 J_21 y L_21) (n := 34) F hK hP hD hS 38 (Wm_at38 G g q I_21 J_21 R_21 L_21) (in_of (by decide)) dX12_both_30 (Wm_rowR34 G g q I_21 J_21 R_21 L_21) (fun R3 H locs eR3 hP hD hS => ?_)
    have hvR : InvR Wm_rl R3 := inv_upR hvR 34 eR3 (upd_in (hvR 34 (by decide)) (full _))
    have hsR := smF_up hsR eR3 (by decide)
    refine lv_ldcw hx hb hown (F.2.2.2.2 _ cnX12_538) dX12_both_31 ?_
    rw [hQ]
    exact q_i F hr hlk (I_21, J_21, R3, L_21) hP hD hS ⟨hvI, hvR, hsI, hsR⟩ dX12_both_34 (Nat.le_of_ble_eq_true rfl) (Nat.le_of_ble_eq_true rfl)
  have lab_65 : ∀ (k_65 : Nat) (a5_65 : Int32) (a6_65 : Int32) (a7_65 : Int32) (a8_65 : Int32) (I_65 : Nat → Int32) (J_65 : Nat → Int64) (R_65 : Nat → Nat → Int32) (L_65 : Nat → Nat → Int64) (H : Heap) (locs : List Loc) (ls : Array Slot), ((32 - a8_65.toInt) < (k_65 : Int)) → InvI Wm_lo Wm_hi I_65 → InvR Wm_rl R_65 → SmF ([17, 18, 19] : List Nat) I0 I_65 → SmF ([34, 35, 36] : List Nat) R0 R_65 → ((0 : Int) ≤ p1.toInt ∧ p1.toInt ≤ (11 : Int)) → ((0 : Int) ≤ p2.toInt ∧ p2.toInt ≤ (11 : Int)) → ((0 : Int) ≤ a8_65.toInt ∧ a8_65.toInt ≤ (32 : Int)) → va_P G.1 vwCl (Wm G g q I_65 J_65 R_65 L_65) H → va_D A (Wm G g q I_65 J_65 R_65 L_65) → va_S A s.heap H locs → lv_has ls 11 [(0, .ref (g 45)), (1, .int p1), (2, .int p2), (5, .int a5_65), (6, .int a6_65), (7, .int a7_65), (8, .int a8_65)] → W p l e (rmD 6 0 0) s m [.ref (g 45), .int p1, .int p2].toArray below meth c H locs 0 0 Q (F0 m 65 ls []) := by
    intro k_65
    induction k_65 with
    | zero =>
      intro a5_65 a6_65 a7_65 a8_65 I_65 J_65 R_65 L_65 H locs ls hm hvI hvR hsI hsR y0_65 y1_65 y2_65 hP hD hS hl
      have hv_I_65 := hvI
      exact absurd hm (by omega)
    | succ k_65 ih_65 =>
      intro a5_65 a6_65 a7_65 a8_65 I_65 J_65 R_65 L_65 H locs ls hm hvI hvR hsI hsR y0_65 y1_65 y2_65 hP hD hS hl
      have hv_I_65 := hvI
      have lab_75 : ∀ (k_75 : Nat) (a5_75 : Int32) (a6_75 : Int32) (a7_75 : Int32) (a9_75 : Int32) (I_75 : Nat → Int32) (J_75 : Nat → Int64) (R_75 : Nat → Nat → Int32) (L_75 : Nat → Nat → Int64) (H : Heap) (locs : List Loc) (ls : Array Slot), ((32 - a9_75.toInt) < (k_75 : Int)) → InvI Wm_lo Wm_hi I_75 → InvR Wm_rl R_75 → SmF ([17, 18, 19] : List Nat) I0 I_75 → SmF ([34, 35, 36] : List Nat) R0 R_75 → ((0 : Int) ≤ a8_65.toInt ∧ a8_65.toInt ≤ (31 : Int)) → ((0 : Int) ≤ a9_75.toInt ∧ a9_75.toInt ≤ (32 : Int)) → va_P G.1 vwCl (Wm G g q I_75 J_75 R_75 L_75) H → va_D A (Wm G g q I_75 J_75 R_75 L_75) → va_S A s.heap H locs → lv_has ls 11 [(0, .ref (g 45)), (1, .int p1), (2, .int p2), (5, .int a5_75), (6, .int a6_75), (7, .int a7_75), (8, .int a8_65), (9, .int a9_75)] → W p l e (rmD 6 0 0) s m [.ref (g 45), .int p1, .int p2].toArray below meth c H locs 0 0 Q (F0 m 75 ls []) := by
        intro k_75
        induction k_75 with
        | zero =>
          intro a5_75 a6_75 a7_75 a9_75 I_75 J_75 R_75 L_75 H locs ls hm hvI hvR hsI hsR y0_75 y1_75 hP hD hS hl
          have hv_I_75 := hvI
          exact absurd hm (by omega)
        | succ k_75 ih_75 =>
          intro a5_75 a6_75 a7_75 a9_75 I_75 J_75 R_75 L_75 H locs ls hm hvI hvR hsI hsR y0_75 y1_75 hP hD hS hl
          have hv_I_75 := hvI
          have lab_164 : ∀ (a5_164 : Int32) (a6_164 : Int32) (a7_164 : Int32) (I_164 : Nat → Int32) (J_164 : Nat → Int64) (R_164 : Nat → Nat → Int32) (L_164 : Nat → Nat → Int64) (H : Heap) (locs : List Loc) (ls : Array Slot), InvI Wm_lo Wm_hi I_164 → InvR Wm_rl R_164 → SmF ([17, 18, 19] : List Nat) I0 I_164 → SmF ([34, 35, 36] : List Nat) R0 R_164 → ((0 : Int) ≤ a9_75.toInt ∧ a9_75.toInt ≤ (31 : Int)) → va_P G.1 vwCl (Wm G g q I_164 J_164 R_164 L_164) H → va_D A (Wm G g q I_164 J_164 R_164 L_164) → va_S A s.heap H locs → lv_has ls 11 [(0, .ref (g 45)), (1, .int p1), (2, .int p2), (5, .int a5_164), (6, .int a6_164), (7, .int a7_164), (8, .int a8_65), (9, .int a9_75)] → W p l e (rmD 6 0 0) s m [.ref (g 45), .int p1, .int p2].toArray below meth c H locs 0 0 Q (F0 m 164 ls []) := by
            intro a5_164 a6_164 a7_164 I_164 J_164 R_164 L_164 H locs ls hvI hvR hsI hsR y0_164 hP hD hS hl
            have hv_I_164 := hvI
            obtain ⟨x4, ex4⟩ : ∃ y : Int32, y = a9_75 + 1 := ⟨_, rfl⟩
            have fx4 : x4.toInt = a9_75.toInt + (1 : Int) := by rw [ex4]; exact t_add (by show (-2147483648 : Int) ≤ a9_75.toInt + (1 : Int); omega) (by show a9_75.toInt + (1 : Int) ≤ 2147483647; omega)
            refine lv_iinc (v := x4) (lv' := [(9, .int x4), (0, .ref (g 45)), (1, .int p1), (2, .int p2), (5, .int a5_164), (6, .int a6_164), (7, .int a7_164), (8, .int a8_65)]) hx hb dX12_both_164 hl (k := 7) rfl (by rw [ex4]; rfl) (by decide) rfl (fun ls hl => ?_)
            refine lv_goto (tgt := 75) hx hb dX12_both_167 (by decide) ?_
            exact ih_75 a5_164 a6_164 a7_164 x4 I_164 J_164 R_164 L_164 _ _ _ (show (32 - x4.toInt) < (k_75 : Int) from by omega) hvI hvR hsI hsR (show ((0 : Int) ≤ a8_65.toInt ∧ a8_65.toInt ≤ (31 : Int)) from by omega) (show ((0 : Int) ≤ x4.toInt ∧ x4.toInt ≤ (32 : Int)) from by omega) hP hD hS (lv_sub hl [1, 2, 3, 4, 5, 6, 7, 0] rfl)
          have lab_152 : ∀ (a10_152 : Int32) (I_152 : Nat → Int32) (J_152 : Nat → Int64) (R_152 : Nat → Nat → Int32) (L_152 : Nat → Nat → Int64) (H : Heap) (locs : List Loc) (ls : Array Slot), InvI Wm_lo Wm_hi I_152 → InvR Wm_rl R_152 → SmF ([17, 18, 19] : List Nat) I0 I_152 → SmF ([34, 35, 36] : List Nat) R0 R_152 → ((0 : Int) ≤ a9_75.toInt ∧ a9_75.toInt ≤ (31 : Int)) → va_P G.1 vwCl (Wm G g q I_152 J_152 R_152 L_152) H → va_D A (Wm G g q I_152 J_152 R_152 L_152) → va_S A s.heap H locs → lv_has ls 11 [(0, .ref (g 45)), (1, .int p1), (2, .int p2), (8, .int a8_65), (9, .int a9_75), (10, .int a10_152)] → W p l e (rmD 6 0 0) s m [.ref (g 45), .int p1, .int p2].toArray below meth c H locs 0 0 Q (F0 m 152 ls []) := by
            intro a10_152 I_152 J_152 R_152 L_152 H locs ls hvI hvR hsI hsR y0_152 hP hD hS hl
            have hv_I_152 := hvI
            refine lv_iload hx hb dX12_both_152 (lv_at hl 5 rfl) ?_
            refine lv_istore (lv' := [(5, .int a10_152), (0, .ref (g 45)), (1, .int p1), (2, .int p2), (8, .int a8_65), (9, .int a9_75), (10, .int a10_152)]) hx hb dX12_both_154 hl (by decide) rfl (fun ls hl => ?_)
            refine lv_iload hx hb dX12_both_156 (lv_at hl 4 rfl) ?_
            refine lv_istore (lv' := [(6, .int a8_65), (5, .int a10_152), (0, .ref (g 45)), (1, .int p1), (2, .int p2), (8, .int a8_65), (9, .int a9_75), (10, .int a10_152)]) hx hb dX12_both_158 hl (by decide) rfl (fun ls hl => ?_)
            refine lv_iload hx hb dX12_both_160 (lv_at hl 6 rfl) ?_
            refine lv_istore (lv' := [(7, .int a9_75), (6, .int a8_65), (5, .int a10_152), (0, .ref (g 45)), (1, .int p1), (2, .int p2), (8, .int a8_65), (9, .int a9_75), (10, .int a10_152)]) hx hb dX12_both_162 hl (by decide) rfl (fun ls hl => ?_)
            exact lab_164 a10_152 a8_65 a9_75 I_152 J_152 R_152 L_152 _ _ _ hvI hvR hsI hsR (show ((0 : Int) ≤ a9_75.toInt ∧ a9_75.toInt ≤ (31 : Int)) from by omega) hP hD hS (lv_sub hl [3, 4, 5, 2, 1, 0, 6, 7] rfl)
          refine lv_iload hx hb dX12_both_75 (lv_at hl 7 rfl) ?_
          refine lv_bipush (v := 32) hx hb dX12_both_77 (by decide) ?_
          refine lv_icmp_ge (tgt := 170) hx hb dX12_both_79 (by decide) (fun c5 => ?_) (fun c5 => ?_)
          · have gc5 : 32 ≤ a9_75.toInt := (tle _ _).mp c5
            obtain ⟨x6, ex6⟩ : ∃ y : Int32, y = a8_65 + 1 := ⟨_, rfl⟩
            have fx6 : x6.toInt = a8_65.toInt + (1 : Int) := by rw [ex6]; exact t_add (by show (-2147483648 : Int) ≤ a8_65.toInt + (1 : Int); omega) (by show a8_65.toInt + (1 : Int) ≤ 2147483647; omega)
            refine lv_iinc (v := x6) (lv' := [(8, .int x6), (0, .ref (g 45)), (1, .int p1), (2, .int p2), (5, .int a5_75), (6, .int a6_75), (7, .int a7_75), (9, .int a9_75)]) hx hb dX12_both_170 hl (k := 6) rfl (by rw [ex6]; rfl) (by decide) rfl (fun ls hl => ?_)
            refine lv_goto (tgt := 65) hx hb dX12_both_173 (by decide) ?_
            exact ih_65 a5_75 a6_75 a7_75 x6 I_75 J_75 R_75 L_75 _ _ _ (show (32 - x6.toInt) < (k_65 : Int) from by omega) hvI hvR hsI hsR (show ((0 : Int) ≤ p1.toInt ∧ p1.toInt ≤ (11 : Int)) from by omega) (show ((0 : Int) ≤ p2.toInt ∧ p2.toInt ≤ (11 : Int)) from by omega) (show ((0 : Int) ≤ x6.toInt ∧ x6.toInt ≤ (32 : Int)) from by omega) hP hD hS (lv_sub hl [1, 2, 3, 4, 5, 6, 0] rfl)
          · have gc5 : ¬ (32 ≤ a9_75.toInt) := fun q0 => c5 ((tle _ _).mpr q0)
            refine lv_aload_n hx hb dX12_both_82 rfl (lv_at hl 0 rfl) ?_
            refine g_get F hK hP 0 (Wm_at0 G g q I_75 J_75 R_75 L_75) clX12 58 (by decide) flX12_189 rfl dX12_both_83 ?_
            refine lv_iload_n hx hb dX12_both_86 rfl (lv_at hl 1 rfl) ?_
            refine lv_iload hx hb dX12_both_87 (lv_at hl 6 rfl) ?_
            refine p_row (W1 := fun y => Wm G g q I_75 J_75 y L_75) (n := 36) F hK hP hD hS 41 (Wm_at41 G g q I_75 J_75 R_75 L_75) (in_of (by omega)) dX12_both_89 (Wm_rowR36 G g q I_75 J_75 R_75 L_75) (fun R7 H locs eR7 hP hD hS => ?_)
            have hvR : InvR Wm_rl R7 := inv_upR hvR 36 eR7 (upd_in (hvR 36 (by decide)) (full _))
            have hsR := smF_up hsR eR7 (by decide)
            refine lv_aload_n hx hb dX12_both_90 rfl (lv_at hl 0 rfl) ?_
            refine g_get F hK hP 0 (Wm_at0 G g q I_75 J_75 R7 L_75) clX12 58 (by decide) flX12_189 rfl dX12_both_91 ?_
            refine lv_iload_n hx hb dX12_both_94 rfl (lv_at hl 2 rfl) ?_
            refine lv_iload hx hb dX12_both_95 (lv_at hl 7 rfl) ?_
            refine p_row (W1 := fun y => Wm G g q I_75 J_75 y L_75) (n := 36) F hK hP hD hS 41 (Wm_at41 G g q I_75 J_75 R7 L_75) (in_of (by omega)) dX12_both_97 (Wm_rowR36 G g q I_75 J_75 R7 L_75) (fun R8 H locs eR8 hP hD hS => ?_)
            have hvR : InvR Wm_rl R8 := inv_upR hvR 36 eR8 (upd_in (hvR 36 (by decide)) (full _))
            have hsR := smF_up hsR eR8 (by decide)
            refine lv_aload_n hx hb dX12_both_98 rfl (lv_at hl 0 rfl) ?_
            refine lv_iload_n hx hb dX12_both_99 rfl (lv_at hl 1 rfl) ?_
            refine lv_iload hx hb dX12_both_100 (lv_at hl 6 rfl) ?_
            refine wvi (As := [.int p1, .int a8_65]) (rest := []) (b := (g 45)) (d := 2) F hK hP hD hS hA (s_X12_suits l G g q I_75 J_75 R8 L_75 hvI hvR  p1 a8_65 (show ((0 : Int) ≤ p1.toInt ∧ p1.toInt ≤ (11 : Int)) from by omega)) kmV_X12_suits mlX12_472 clX12 rfl 0 (Wm_at0 G g q I_75 J_75 R8 L_75) ⟨(Nat.le_of_ble_eq_true rfl), (Nat.le_of_ble_eq_true rfl)⟩ hl.1 rfl (Nat.le_of_ble_eq_true rfl) dX12_both_102 (fun r9 u10 H locs hwr9 hP hD hS => ?_)
            have F0r9 := hwr9
            replace F0r9 : ((0 : Int) ≤ r9.toInt ∧ r9.toInt ≤ (1 : Int)) := F0r9
            refine lv_if_eq (tgt := 164) hx hb dX12_both_105 (by decide) (fun c11 => ?_) (fun c11 => ?_)
            · have gc11 : r9.toInt = 0 := congrArg Int32.toInt c11
              exact lab_164 a5_75 a6_75 a7_75 I_75 J_75 R8 L_75 _ _ _ hvI hvR hsI hsR (show ((0 : Int) ≤ a9_75.toInt ∧ a9_75.toInt ≤ (31 : Int)) from by omega) hP hD hS (lv_sub hl [0, 1, 2, 3, 4, 5, 6, 7] rfl)
            · have gc11 : ¬ (r9.toInt = 0) := fun q0 => c11 (Int32.toInt_inj.mp q0)
              refine lv_aload_n hx hb dX12_both_108 rfl (lv_at hl 0 rfl) ?_
              refine lv_iload_n hx hb dX12_both_109 rfl (lv_at hl 2 rfl) ?_
              refine lv_iload hx hb dX12_both_110 (lv_at hl 7 rfl) ?_
              refine wvi (As := [.int p2, .int a9_75]) (rest := []) (b := (g 45)) (d := 2) F hK hP hD hS hA (s_X12_suits l G g q I_75 J_75 R8 L_75 hvI hvR  p2 a9_75 (show ((0 : Int) ≤ p2.toInt ∧ p2.toInt ≤ (11 : Int)) from by omega)) kmV_X12_suits mlX12_472 clX12 rfl 0 (Wm_at0 G g q I_75 J_75 R8 L_75) ⟨(Nat.le_of_ble_eq_true rfl), (Nat.le_of_ble_eq_true rfl)⟩ hl.1 rfl (Nat.le_of_ble_eq_true rfl) dX12_both_112 (fun r12 u13 H locs hwr12 hP hD hS => ?_)
              have F0r12 := hwr12
              replace F0r12 : ((0 : Int) ≤ r12.toInt ∧ r12.toInt ≤ (1 : Int)) := F0r12
              refine lv_if_eq (tgt := 164) hx hb dX12_both_115 (by decide) (fun c14 => ?_) (fun c14 => ?_)
              · have gc14 : r12.toInt = 0 := congrArg Int32.toInt c14
                exact lab_164 a5_75 a6_75 a7_75 I_75 J_75 R8 L_75 _ _ _ hvI hvR hsI hsR (show ((0 : Int) ≤ a9_75.toInt ∧ a9_75.toInt ≤ (31 : Int)) from by omega) hP hD hS (lv_sub hl [0, 1, 2, 3, 4, 5, 6, 7] rfl)
              · have gc14 : ¬ (r12.toInt = 0) := fun q0 => c14 (Int32.toInt_inj.mp q0)
                refine lv_aload_n hx hb dX12_both_118 rfl (lv_at hl 0 rfl) ?_
                refine wvi (As := []) (rest := []) (b := (g 45)) (d := 5) F hK hP hD hS hA (s_X12_holds l G g q I_75 J_75 R8 L_75 hvI hvR   ) kmV_X12_holds mlX12_507 clX12 rfl 0 (Wm_at0 G g q I_75 J_75 R8 L_75) ⟨(Nat.le_of_ble_eq_true rfl), (Nat.le_of_ble_eq_true rfl)⟩ hl.1 rfl (Nat.le_of_ble_eq_true rfl) dX12_both_119 (fun r15 u16 H locs hwr15 hP hD hS => ?_)
                obtain ⟨I17, J18, R19, L20⟩ := u16
                replace hP : va_P G.1 vwCl (Wm G g q I17 J18 R19 L20) H := hP
                replace hD : va_D A (Wm G g q I17 J18 R19 L20) := hD
                obtain ⟨hvI, hvR, tIr15, tRr15, F0r15⟩ := hwr15
                replace F0r15 : ((0 : Int) ≤ r15.toInt ∧ r15.toInt ≤ (1 : Int)) := F0r15
                replace hvI : InvI Wm_lo Wm_hi I17 := hvI
                replace hvR : InvR Wm_rl R19 := hvR
                replace tIr15 : SmF ([17, 18, 19] : List Nat) I_75 I17 := tIr15
                replace tRr15 : SmF ([] : List Nat) R8 R19 := tRr15
                have hv_I17 := hvI
                have hsI := smF_tr hsI tIr15 (by decide)
                have hsR := smF_tr hsR tRr15 (by decide)
                refine lv_if_ne (tgt := 128) hx hb dX12_both_122 (by decide) (fun c21 => ?_) (fun c21 => ?_)
                · have gc21 : ¬ (r15.toInt = 0) := fun q0 => c21 (Int32.toInt_inj.mp q0)
                  refine lv_aload_n hx hb dX12_both_128 rfl (lv_at hl 0 rfl) ?_
                  refine wvi (As := []) (rest := []) (b := (g 45)) (d := 5) F hK hP hD hS hA (s_X12_worth l G g q I17 J18 R19 L20 hvI hvR   (wm_sm hWf (hsI 10 rfl) (hsR 22 rfl) (hsR 23 rfl) (hsR 24 rfl) (hsR 25 rfl) (hsR 26 rfl))) kmV_X12_worth mlX12_532 clX12 rfl 0 (Wm_at0 G g q I17 J18 R19 L20) ⟨(Nat.le_of_ble_eq_true rfl), (Nat.le_of_ble_eq_true rfl)⟩ hl.1 rfl (Nat.le_of_ble_eq_true rfl) dX12_both_129 (fun r22 u23 H locs hwr22 hP hD hS => ?_)
                  obtain ⟨I24, J25, R26, L27⟩ := u23
                  replace hP : va_P G.1 vwCl (Wm G g q I24 J25 R26 L27) H := hP
                  replace hD : va_D A (Wm G g q I24 J25 R26 L27) := hD
                  obtain ⟨hvI, hvR, tIr22, tRr22⟩ := hwr22
                  replace hvI : InvI Wm_lo Wm_hi I24 := hvI
                  replace hvR : InvR Wm_rl R26 := hvR
                  replace tIr22 : SmF ([] : List Nat) I17 I24 := tIr22
                  replace tRr22 : SmF ([35] : List Nat) R19 R26 := tRr22
                  have hv_I24 := hvI
                  have hsI := smF_tr hsI tIr22 (by decide)
                  have hsR := smF_tr hsR tRr22 (by decide)
                  refine lv_istore (lv' := [(10, .int r22), (0, .ref (g 45)), (1, .int p1), (2, .int p2), (5, .int a5_75), (6, .int a6_75), (7, .int a7_75), (8, .int a8_65), (9, .int a9_75)]) hx hb dX12_both_132 hl (by decide) rfl (fun ls hl => ?_)
                  refine lv_iload hx hb dX12_both_134 (lv_at hl 4 rfl) ?_
                  refine lv_ldcw hx hb hown (F.2.2.2.2 _ cnX12_538) dX12_both_136 ?_
                  refine lv_icmp_eq (tgt := 152) hx hb dX12_both_139 (by decide) (fun c28 => ?_) (fun c28 => ?_)
                  · have gc28 : a5_75.toInt = (-1000000000) := congrArg Int32.toInt c28
                    exact lab_152 r22 I24 J25 R26 L27 _ _ _ hvI hvR hsI hsR (show ((0 : Int) ≤ a9_75.toInt ∧ a9_75.toInt ≤ (31 : Int)) from by omega) hP hD hS (lv_sub hl [1, 2, 3, 7, 8, 0] rfl)
                  · have gc28 : ¬ (a5_75.toInt = (-1000000000)) := fun q0 => c28 (Int32.toInt_inj.mp q0)
                    refine lv_iload hx hb dX12_both_142 (lv_at hl 0 rfl) ?_
                    refine lv_iload hx hb dX12_both_144 (lv_at hl 4 rfl) ?_
                    refine lv_icmp_gt (tgt := 152) hx hb dX12_both_146 (by decide) (fun c29 => ?_) (fun c29 => ?_)
                    · have gc29 : a5_75.toInt < r22.toInt := (tlt _ _).mp c29
                      exact lab_152 r22 I24 J25 R26 L27 _ _ _ hvI hvR hsI hsR (show ((0 : Int) ≤ a9_75.toInt ∧ a9_75.toInt ≤ (31 : Int)) from by omega) hP hD hS (lv_sub hl [1, 2, 3, 7, 8, 0] rfl)
                    · have gc29 : ¬ (a5_75.toInt < r22.toInt) := fun q0 => c29 ((tlt _ _).mpr q0)
                      refine lv_goto (tgt := 164) hx hb dX12_both_149 (by decide) ?_
                      exact lab_164 a5_75 a6_75 a7_75 I24 J25 R26 L27 _ _ _ hvI hvR hsI hsR (show ((0 : Int) ≤ a9_75.toInt ∧ a9_75.toInt ≤ (31 : Int)) from by omega) hP hD hS (lv_sub hl [1, 2, 3, 4, 5, 6, 7, 8] rfl)
                · have gc21 : r15.toInt = 0 := congrArg Int32.toInt c21
                  refine lv_goto (tgt := 164) hx hb dX12_both_125 (by decide) ?_
                  exact lab_164 a5_75 a6_75 a7_75 I17 J18 R19 L20 _ _ _ hvI hvR hsI hsR (show ((0 : Int) ≤ a9_75.toInt ∧ a9_75.toInt ≤ (31 : Int)) from by omega) hP hD hS (lv_sub hl [0, 1, 2, 3, 4, 5, 6, 7] rfl)
      refine lv_iload hx hb dX12_both_65 (lv_at hl 6 rfl) ?_
      refine lv_bipush (v := 32) hx hb dX12_both_67 (by decide) ?_
      refine lv_icmp_ge (tgt := 176) hx hb dX12_both_69 (by decide) (fun c30 => ?_) (fun c30 => ?_)
      · have gc30 : 32 ≤ a8_65.toInt := (tle _ _).mp c30
        refine lv_aload_n hx hb dX12_both_176 rfl (lv_at hl 0 rfl) ?_
        refine g_get F hK hP 0 (Wm_at0 G g q I_65 J_65 R_65 L_65) clX12 58 (by decide) flX12_189 rfl dX12_both_177 ?_
        refine lv_iload_n hx hb dX12_both_180 rfl (lv_at hl 1 rfl) ?_
        refine lv_iload hx hb dX12_both_181 (lv_at hl 4 rfl) ?_
        refine p_row (W1 := fun y => Wm G g q I_65 J_65 y L_65) (n := 36) F hK hP hD hS 41 (Wm_at41 G g q I_65 J_65 R_65 L_65) (in_of (by omega)) dX12_both_183 (Wm_rowR36 G g q I_65 J_65 R_65 L_65) (fun R31 H locs eR31 hP hD hS => ?_)
        have hvR : InvR Wm_rl R31 := inv_upR hvR 36 eR31 (upd_in (hvR 36 (by decide)) (full _))
        have hsR := smF_up hsR eR31 (by decide)
        refine lv_aload_n hx hb dX12_both_184 rfl (lv_at hl 0 rfl) ?_
        refine g_get F hK hP 0 (Wm_at0 G g q I_65 J_65 R31 L_65) clX12 58 (by decide) flX12_189 rfl dX12_both_185 ?_
        refine lv_iload_n hx hb dX12_both_188 rfl (lv_at hl 2 rfl) ?_
        refine lv_iload hx hb dX12_both_189 (lv_at hl 5 rfl) ?_
        refine p_row (W1 := fun y => Wm G g q I_65 J_65 y L_65) (n := 36) F hK hP hD hS 41 (Wm_at41 G g q I_65 J_65 R31 L_65) (in_of (by omega)) dX12_both_191 (Wm_rowR36 G g q I_65 J_65 R31 L_65) (fun R32 H locs eR32 hP hD hS => ?_)
        have hvR : InvR Wm_rl R32 := inv_upR hvR 36 eR32 (upd_in (hvR 36 (by decide)) (full _))
        have hsR := smF_up hsR eR32 (by decide)
        refine lv_iload hx hb dX12_both_192 (lv_at hl 3 rfl) ?_
        rw [hQ]
        exact q_i F hr hlk (I_65, J_65, R32, L_65) hP hD hS ⟨hvI, hvR, hsI, hsR⟩ dX12_both_194 (Nat.le_of_ble_eq_true rfl) (Nat.le_of_ble_eq_true rfl)
      · have gc30 : ¬ (32 ≤ a8_65.toInt) := fun q0 => c30 ((tle _ _).mpr q0)
        refine lv_iconst (v := 0) hx hb dX12_both_72 (by decide) ?_
        refine lv_istore (lv' := [(9, .int 0), (0, .ref (g 45)), (1, .int p1), (2, .int p2), (5, .int a5_65), (6, .int a6_65), (7, .int a7_65), (8, .int a8_65)]) hx hb dX12_both_73 hl (by decide) rfl (fun ls hl => ?_)
        exact lab_75 33 a5_65 a6_65 a7_65 0 I_65 J_65 R_65 L_65 _ _ _ (show (32 - 0) < ((33 : Nat) : Int) from by omega) hvI hvR hsI hsR (show ((0 : Int) ≤ a8_65.toInt ∧ a8_65.toInt ≤ (31 : Int)) from by omega) (by decide) hP hD hS (lv_sub hl [1, 2, 3, 4, 5, 6, 7, 0] rfl)
  refine lv_aload_n hx hb dX12_both_0 rfl (lv_at hl 0 rfl) ?_
  refine lv_iload_n hx hb dX12_both_1 rfl (lv_at hl 1 rfl) ?_
  refine wvi (As := [.int p1]) (rest := []) (b := (g 45)) (d := 2) F hK hP hD hS hA (s_X12_isPerson l G g q I0 J0 R0 L0 hvI hvR  p1 ) kmV_X12_isPerson mlX12_466 clX12 rfl 0 (Wm_at0 G g q I0 J0 R0 L0) ⟨(Nat.le_of_ble_eq_true rfl), (Nat.le_of_ble_eq_true rfl)⟩ hl.1 rfl (Nat.le_of_ble_eq_true rfl) dX12_both_2 (fun r33 u34 H locs hwr33 hP hD hS => ?_)
  obtain ⟨F0r33, F1r33⟩ := hwr33
  replace F0r33 : ((0 : Int) ≤ r33.toInt ∧ r33.toInt ≤ (1 : Int)) := F0r33
  replace F1r33 : (r33.toInt = 1 → (0 ≤ p1.toInt ∧ p1.toInt ≤ 11)) := F1r33
  refine lv_if_eq (tgt := 21) hx hb dX12_both_5 (by decide) (fun c35 => ?_) (fun c35 => ?_)
  · have gc35 : r33.toInt = 0 := congrArg Int32.toInt c35
    exact lab_21  I0 J0 R0 L0 _ _ _ hvI hvR hsI hsR  hP hD hS (lv_sub hl [0] rfl)
  · have gc35 : ¬ (r33.toInt = 0) := fun q0 => c35 (Int32.toInt_inj.mp q0)
    refine lv_aload_n hx hb dX12_both_8 rfl (lv_at hl 0 rfl) ?_
    refine lv_iload_n hx hb dX12_both_9 rfl (lv_at hl 2 rfl) ?_
    refine wvi (As := [.int p2]) (rest := []) (b := (g 45)) (d := 2) F hK hP hD hS hA (s_X12_isPerson l G g q I0 J0 R0 L0 hvI hvR  p2 ) kmV_X12_isPerson mlX12_466 clX12 rfl 0 (Wm_at0 G g q I0 J0 R0 L0) ⟨(Nat.le_of_ble_eq_true rfl), (Nat.le_of_ble_eq_true rfl)⟩ hl.1 rfl (Nat.le_of_ble_eq_true rfl) dX12_both_10 (fun r36 u37 H locs hwr36 hP hD hS => ?_)
    obtain ⟨F0r36, F1r36⟩ := hwr36
    replace F0r36 : ((0 : Int) ≤ r36.toInt ∧ r36.toInt ≤ (1 : Int)) := F0r36
    replace F1r36 : (r36.toInt = 1 → (0 ≤ p2.toInt ∧ p2.toInt ≤ 11)) := F1r36
    refine lv_if_eq (tgt := 21) hx hb dX12_both_13 (by decide) (fun c38 => ?_) (fun c38 => ?_)
    · have gc38 : r36.toInt = 0 := congrArg Int32.toInt c38
      exact lab_21  I0 J0 R0 L0 _ _ _ hvI hvR hsI hsR  hP hD hS (lv_sub hl [0] rfl)
    · have gc38 : ¬ (r36.toInt = 0) := fun q0 => c38 (Int32.toInt_inj.mp q0)
      refine lv_iload_n hx hb dX12_both_16 rfl (lv_at hl 1 rfl) ?_
      refine lv_iload_n hx hb dX12_both_17 rfl (lv_at hl 2 rfl) ?_
      refine lv_icmp_ne (tgt := 35) hx hb dX12_both_18 (by decide) (fun c39 => ?_) (fun c39 => ?_)
      · have gc39 : ¬ (p1.toInt = p2.toInt) := fun q0 => c39 (Int32.toInt_inj.mp q0)
        refine lv_aload_n hx hb dX12_both_35 rfl (lv_at hl 0 rfl) ?_
        refine g_get F hK hP 0 (Wm_at0 G g q I0 J0 R0 L0) clX12 58 (by decide) flX12_189 rfl dX12_both_36 ?_
        refine lv_iload_n hx hb dX12_both_39 rfl (lv_at hl 1 rfl) ?_
        refine g_iald F hK hP 41 (Wm_at41 G g q I0 J0 R0 L0) (in_of (by omega)) dX12_both_40 rfl ?_
        refine lv_topi (fun x40 ex40 => ?_)
        have gx40 : x40.toInt = (R0 36 (Int32.toNatClampNeg p1)).toInt := congrArg Int32.toInt (ex40)
        refine lv_istore_n (lv' := [(3, .int x40), (0, .ref (g 45)), (1, .int p1), (2, .int p2)]) hx hb dX12_both_41 rfl hl (by decide) rfl (fun ls hl => ?_)
        refine lv_aload_n hx hb dX12_both_42 rfl (lv_at hl 1 rfl) ?_
        refine g_get F hK hP 0 (Wm_at0 G g q I0 J0 R0 L0) clX12 58 (by decide) flX12_189 rfl dX12_both_43 ?_
        refine lv_iload_n hx hb dX12_both_46 rfl (lv_at hl 3 rfl) ?_
        refine g_iald F hK hP 41 (Wm_at41 G g q I0 J0 R0 L0) (in_of (by omega)) dX12_both_47 rfl ?_
        refine lv_topi (fun x41 ex41 => ?_)
        have gx41 : x41.toInt = (R0 36 (Int32.toNatClampNeg p2)).toInt := congrArg Int32.toInt (ex41)
        refine lv_istore (lv' := [(4, .int x41), (3, .int x40), (0, .ref (g 45)), (1, .int p1), (2, .int p2)]) hx hb dX12_both_48 hl (by decide) rfl (fun ls hl => ?_)
        refine lv_ldcw hx hb hown (F.2.2.2.2 _ cnX12_538) dX12_both_50 ?_
        refine lv_istore (lv' := [(5, .int (-1000000000)), (4, .int x41), (3, .int x40), (0, .ref (g 45)), (1, .int p1), (2, .int p2)]) hx hb dX12_both_53 hl (by decide) rfl (fun ls hl => ?_)
        refine lv_iload_n hx hb dX12_both_55 rfl (lv_at hl 2 rfl) ?_
        refine lv_istore (lv' := [(6, .int x40), (5, .int (-1000000000)), (4, .int x41), (3, .int x40), (0, .ref (g 45)), (1, .int p1), (2, .int p2)]) hx hb dX12_both_56 hl (by decide) rfl (fun ls hl => ?_)
        refine lv_iload hx hb dX12_both_58 (lv_at hl 2 rfl) ?_
        refine lv_istore (lv' := [(7, .int x41), (6, .int x40), (5, .int (-1000000000)), (4, .int x41), (3, .int x40), (0, .ref (g 45)), (1, .int p1), (2, .int p2)]) hx hb dX12_both_60 hl (by decide) rfl (fun ls hl => ?_)
        refine lv_iconst (v := 0) hx hb dX12_both_62 (by decide) ?_
        refine lv_istore (lv' := [(8, .int 0), (7, .int x41), (6, .int x40), (5, .int (-1000000000)), (4, .int x41), (3, .int x40), (0, .ref (g 45)), (1, .int p1), (2, .int p2)]) hx hb dX12_both_63 hl (by decide) rfl (fun ls hl => ?_)
        exact lab_65 33 ((-1000000000)) x40 x41 0 I0 J0 R0 L0 _ _ _ (show (32 - 0) < ((33 : Nat) : Int) from by omega) hvI hvR hsI hsR (show ((0 : Int) ≤ p1.toInt ∧ p1.toInt ≤ (11 : Int)) from by omega) (show ((0 : Int) ≤ p2.toInt ∧ p2.toInt ≤ (11 : Int)) from by omega) (by decide) hP hD hS (lv_sub hl [6, 7, 8, 3, 2, 1, 0] rfl)
      · have gc39 : p1.toInt = p2.toInt := congrArg Int32.toInt c39
        exact lab_21  I0 J0 R0 L0 _ _ _ hvI hvR hsI hsR  hP hD hS (lv_sub hl [0] rfl)
set_option maxHeartbeats 4000000 in
set_option maxRecDepth 100000 in
theorem s_X12_trade (l : Launch) (G : Gx) (g q : Nat → Nat) (I0 : Nat → Int32) (J0 : Nat → Int64) (R0 : Nat → Nat → Int32) (L0 : Nat → Nat → Int64) (hvI : InvI Wm_lo Wm_hi I0) (hvR : InvR Wm_rl R0)  (p1 : Int32) (p2 : Int32) (hWf : WfM I0 R0) : CtI (S := St) l yX12_trade cX12_trade 7 (some .int) (rmD 6 0 0) G [.ref (g 45), .int p1, .int p2] (Wm G g q I0 J0 R0 L0) (fun r u => InvI Wm_lo Wm_hi u.1 ∧ InvR Wm_rl u.2.2.1 ∧ SmF ([17, 18, 19] : List Nat) I0 u.1 ∧ SmF ([35, 36] : List Nat) R0 u.2.2.1) (fun u => Wm G g q u.1 u.2.1 u.2.2.1 u.2.2.2) := by
  refine ctI_of (own := RX12) (by decide +kernel) rfl (Nat.le_of_ble_eq_true rfl) ?_
  intro p e s m below meth c A ls F hr hlk hnm hK hP hD hA hS hl
  have hx := F.1
  have hb := F.2.1
  have hown := F.2.2.2.1
  have hl : lv_has ls 7 [(0, .ref (g 45)), (1, .int p1), (2, .int p2)] := hl
  obtain ⟨Q, hQ⟩ : ∃ Q : State → Prop, Q = MQ below (va_Qi (S := St) (fun r u => InvI Wm_lo Wm_hi u.1 ∧ InvR Wm_rl u.2.2.1 ∧ SmF ([17, 18, 19] : List Nat) I0 u.1 ∧ SmF ([35, 36] : List Nat) R0 u.2.2.1) (BX G A (fun u => Wm G g q u.1 u.2.1 u.2.2.1 u.2.2.2)) A) [.ref (g 45), .int p1, .int p2].toArray s 0 0 A := ⟨_, rfl⟩
  rw [show (MQ below (va_Qi (S := St) (fun r u => InvI Wm_lo Wm_hi u.1 ∧ InvR Wm_rl u.2.2.1 ∧ SmF ([17, 18, 19] : List Nat) I0 u.1 ∧ SmF ([35, 36] : List Nat) R0 u.2.2.1) (BX G A (fun u => Wm G g q u.1 u.2.1 u.2.2.1 u.2.2.2)) A) [.ref (g 45), .int p1, .int p2].toArray s (rmD 6 0 0).cells (rmD 6 0 0).slots A) = Q from hQ.symm]
  have hsI := smF_rf ([17, 18, 19] : List Nat) I0
  have hsR := smF_rf ([35, 36] : List Nat) R0
  have hvI0 := hvI
  have lab_21 : ∀  (I_21 : Nat → Int32) (J_21 : Nat → Int64) (R_21 : Nat → Nat → Int32) (L_21 : Nat → Nat → Int64) (H : Heap) (locs : List Loc) (ls : Array Slot), InvI Wm_lo Wm_hi I_21 → InvR Wm_rl R_21 → SmF ([17, 18, 19] : List Nat) I0 I_21 → SmF ([35, 36] : List Nat) R0 R_21 → va_P G.1 vwCl (Wm G g q I_21 J_21 R_21 L_21) H → va_D A (Wm G g q I_21 J_21 R_21 L_21) → va_S A s.heap H locs → lv_has ls 7 [] → W p l e (rmD 6 0 0) s m [.ref (g 45), .int p1, .int p2].toArray below meth c H locs 0 0 Q (F0 m 21 ls []) := by
    intro I_21 J_21 R_21 L_21 H locs ls hvI hvR hsI hsR hP hD hS hl
    have hv_I_21 := hvI
    refine lv_ldcw hx hb hown (F.2.2.2.2 _ cnX12_538) dX12_trade_21 ?_
    rw [hQ]
    exact q_i F hr hlk (I_21, J_21, R_21, L_21) hP hD hS ⟨hvI, hvR, hsI, hsR⟩ dX12_trade_24 (Nat.le_of_ble_eq_true rfl) (Nat.le_of_ble_eq_true rfl)
  have lab_100 : ∀ (a3_100 : Int32) (a4_100 : Int32) (b0_100 : Int32) (I_100 : Nat → Int32) (J_100 : Nat → Int64) (R_100 : Nat → Nat → Int32) (L_100 : Nat → Nat → Int64) (H : Heap) (locs : List Loc) (ls : Array Slot), InvI Wm_lo Wm_hi I_100 → InvR Wm_rl R_100 → SmF ([17, 18, 19] : List Nat) I0 I_100 → SmF ([35, 36] : List Nat) R0 R_100 → ((0 : Int) ≤ p1.toInt ∧ p1.toInt ≤ (11 : Int)) → ((0 : Int) ≤ p2.toInt ∧ p2.toInt ≤ (11 : Int)) → va_P G.1 vwCl (Wm G g q I_100 J_100 R_100 L_100) H → va_D A (Wm G g q I_100 J_100 R_100 L_100) → va_S A s.heap H locs → lv_has ls 7 [(0, .ref (g 45)), (1, .int p1), (2, .int p2), (3, .int a3_100), (4, .int a4_100)] → W p l e (rmD 6 0 0) s m [.ref (g 45), .int p1, .int p2].toArray below meth c H locs 0 0 Q (F0 m 100 ls [.int b0_100]) := by
    intro a3_100 a4_100 b0_100 I_100 J_100 R_100 L_100 H locs ls hvI hvR hsI hsR y0_100 y1_100 hP hD hS hl
    have hv_I_100 := hvI
    refine lv_istore (lv' := [(6, .int b0_100), (0, .ref (g 45)), (1, .int p1), (2, .int p2), (3, .int a3_100), (4, .int a4_100)]) hx hb dX12_trade_100 hl (by decide) rfl (fun ls hl => ?_)
    refine lv_aload_n hx hb dX12_trade_102 rfl (lv_at hl 1 rfl) ?_
    refine g_get F hK hP 0 (Wm_at0 G g q I_100 J_100 R_100 L_100) clX12 58 (by decide) flX12_189 rfl dX12_trade_103 ?_
    refine lv_iload_n hx hb dX12_trade_106 rfl (lv_at hl 2 rfl) ?_
    refine lv_iload_n hx hb dX12_trade_107 rfl (lv_at hl 4 rfl) ?_
    refine p_row (W1 := fun y => Wm G g q I_100 J_100 y L_100) (n := 36) F hK hP hD hS 41 (Wm_at41 G g q I_100 J_100 R_100 L_100) (in_of (by omega)) dX12_trade_108 (Wm_rowR36 G g q I_100 J_100 R_100 L_100) (fun R1 H locs eR1 hP hD hS => ?_)
    have hvR : InvR Wm_rl R1 := inv_upR hvR 36 eR1 (upd_in (hvR 36 (by decide)) (full _))
    have hsR := smF_up hsR eR1 (by decide)
    refine lv_aload_n hx hb dX12_trade_109 rfl (lv_at hl 1 rfl) ?_
    refine g_get F hK hP 0 (Wm_at0 G g q I_100 J_100 R1 L_100) clX12 58 (by decide) flX12_189 rfl dX12_trade_110 ?_
    refine lv_iload_n hx hb dX12_trade_113 rfl (lv_at hl 3 rfl) ?_
    refine lv_iload hx hb dX12_trade_114 (lv_at hl 5 rfl) ?_
    refine p_row (W1 := fun y => Wm G g q I_100 J_100 y L_100) (n := 36) F hK hP hD hS 41 (Wm_at41 G g q I_100 J_100 R1 L_100) (in_of (by omega)) dX12_trade_116 (Wm_rowR36 G g q I_100 J_100 R1 L_100) (fun R2 H locs eR2 hP hD hS => ?_)
    have hvR : InvR Wm_rl R2 := inv_upR hvR 36 eR2 (upd_in (hvR 36 (by decide)) (full _))
    have hsR := smF_up hsR eR2 (by decide)
    refine lv_iload hx hb dX12_trade_117 (lv_at hl 0 rfl) ?_
    rw [hQ]
    exact q_i F hr hlk (I_100, J_100, R2, L_100) hP hD hS ⟨hvI, hvR, hsI, hsR⟩ dX12_trade_119 (Nat.le_of_ble_eq_true rfl) (Nat.le_of_ble_eq_true rfl)
  have lab_97 : ∀ (a3_97 : Int32) (a4_97 : Int32) (I_97 : Nat → Int32) (J_97 : Nat → Int64) (R_97 : Nat → Nat → Int32) (L_97 : Nat → Nat → Int64) (H : Heap) (locs : List Loc) (ls : Array Slot), InvI Wm_lo Wm_hi I_97 → InvR Wm_rl R_97 → SmF ([17, 18, 19] : List Nat) I0 I_97 → SmF ([35, 36] : List Nat) R0 R_97 → ((0 : Int) ≤ p1.toInt ∧ p1.toInt ≤ (11 : Int)) → ((0 : Int) ≤ p2.toInt ∧ p2.toInt ≤ (11 : Int)) → va_P G.1 vwCl (Wm G g q I_97 J_97 R_97 L_97) H → va_D A (Wm G g q I_97 J_97 R_97 L_97) → va_S A s.heap H locs → lv_has ls 7 [(0, .ref (g 45)), (1, .int p1), (2, .int p2), (3, .int a3_97), (4, .int a4_97)] → W p l e (rmD 6 0 0) s m [.ref (g 45), .int p1, .int p2].toArray below meth c H locs 0 0 Q (F0 m 97 ls []) := by
    intro a3_97 a4_97 I_97 J_97 R_97 L_97 H locs ls hvI hvR hsI hsR y0_97 y1_97 hP hD hS hl
    have hv_I_97 := hvI
    refine lv_ldcw hx hb hown (F.2.2.2.2 _ cnX12_538) dX12_trade_97 ?_
    exact lab_100 a3_97 a4_97 ((-1000000000)) I_97 J_97 R_97 L_97 _ _ _ hvI hvR hsI hsR (show ((0 : Int) ≤ p1.toInt ∧ p1.toInt ≤ (11 : Int)) from by omega) (show ((0 : Int) ≤ p2.toInt ∧ p2.toInt ≤ (11 : Int)) from by omega) hP hD hS (lv_sub hl [0, 1, 2, 3, 4] rfl)
  refine lv_aload_n hx hb dX12_trade_0 rfl (lv_at hl 0 rfl) ?_
  refine lv_iload_n hx hb dX12_trade_1 rfl (lv_at hl 1 rfl) ?_
  refine wvi (As := [.int p1]) (rest := []) (b := (g 45)) (d := 2) F hK hP hD hS hA (s_X12_isPerson l G g q I0 J0 R0 L0 hvI hvR  p1 ) kmV_X12_isPerson mlX12_466 clX12 rfl 0 (Wm_at0 G g q I0 J0 R0 L0) ⟨(Nat.le_of_ble_eq_true rfl), (Nat.le_of_ble_eq_true rfl)⟩ hl.1 rfl (Nat.le_of_ble_eq_true rfl) dX12_trade_2 (fun r3 u4 H locs hwr3 hP hD hS => ?_)
  obtain ⟨F0r3, F1r3⟩ := hwr3
  replace F0r3 : ((0 : Int) ≤ r3.toInt ∧ r3.toInt ≤ (1 : Int)) := F0r3
  replace F1r3 : (r3.toInt = 1 → (0 ≤ p1.toInt ∧ p1.toInt ≤ 11)) := F1r3
  refine lv_if_eq (tgt := 21) hx hb dX12_trade_5 (by decide) (fun c5 => ?_) (fun c5 => ?_)
  · have gc5 : r3.toInt = 0 := congrArg Int32.toInt c5
    exact lab_21  I0 J0 R0 L0 _ _ _ hvI hvR hsI hsR  hP hD hS (lv_sub hl [] rfl)
  · have gc5 : ¬ (r3.toInt = 0) := fun q0 => c5 (Int32.toInt_inj.mp q0)
    refine lv_aload_n hx hb dX12_trade_8 rfl (lv_at hl 0 rfl) ?_
    refine lv_iload_n hx hb dX12_trade_9 rfl (lv_at hl 2 rfl) ?_
    refine wvi (As := [.int p2]) (rest := []) (b := (g 45)) (d := 2) F hK hP hD hS hA (s_X12_isPerson l G g q I0 J0 R0 L0 hvI hvR  p2 ) kmV_X12_isPerson mlX12_466 clX12 rfl 0 (Wm_at0 G g q I0 J0 R0 L0) ⟨(Nat.le_of_ble_eq_true rfl), (Nat.le_of_ble_eq_true rfl)⟩ hl.1 rfl (Nat.le_of_ble_eq_true rfl) dX12_trade_10 (fun r6 u7 H locs hwr6 hP hD hS => ?_)
    obtain ⟨F0r6, F1r6⟩ := hwr6
    replace F0r6 : ((0 : Int) ≤ r6.toInt ∧ r6.toInt ≤ (1 : Int)) := F0r6
    replace F1r6 : (r6.toInt = 1 → (0 ≤ p2.toInt ∧ p2.toInt ≤ 11)) := F1r6
    refine lv_if_eq (tgt := 21) hx hb dX12_trade_13 (by decide) (fun c8 => ?_) (fun c8 => ?_)
    · have gc8 : r6.toInt = 0 := congrArg Int32.toInt c8
      exact lab_21  I0 J0 R0 L0 _ _ _ hvI hvR hsI hsR  hP hD hS (lv_sub hl [] rfl)
    · have gc8 : ¬ (r6.toInt = 0) := fun q0 => c8 (Int32.toInt_inj.mp q0)
      refine lv_iload_n hx hb dX12_trade_16 rfl (lv_at hl 1 rfl) ?_
      refine lv_iload_n hx hb dX12_trade_17 rfl (lv_at hl 2 rfl) ?_
      refine lv_icmp_ne (tgt := 25) hx hb dX12_trade_18 (by decide) (fun c9 => ?_) (fun c9 => ?_)
      · have gc9 : ¬ (p1.toInt = p2.toInt) := fun q0 => c9 (Int32.toInt_inj.mp q0)
        refine lv_aload_n hx hb dX12_trade_25 rfl (lv_at hl 0 rfl) ?_
        refine g_get F hK hP 0 (Wm_at0 G g q I0 J0 R0 L0) clX12 58 (by decide) flX12_189 rfl dX12_trade_26 ?_
        refine lv_iload_n hx hb dX12_trade_29 rfl (lv_at hl 1 rfl) ?_
        refine g_iald F hK hP 41 (Wm_at41 G g q I0 J0 R0 L0) (in_of (by omega)) dX12_trade_30 rfl ?_
        refine lv_topi (fun x10 ex10 => ?_)
        have gx10 : x10.toInt = (R0 36 (Int32.toNatClampNeg p1)).toInt := congrArg Int32.toInt (ex10)
        refine lv_istore_n (lv' := [(3, .int x10), (0, .ref (g 45)), (1, .int p1), (2, .int p2)]) hx hb dX12_trade_31 rfl hl (by decide) rfl (fun ls hl => ?_)
        refine lv_aload_n hx hb dX12_trade_32 rfl (lv_at hl 1 rfl) ?_
        refine g_get F hK hP 0 (Wm_at0 G g q I0 J0 R0 L0) clX12 58 (by decide) flX12_189 rfl dX12_trade_33 ?_
        refine lv_iload_n hx hb dX12_trade_36 rfl (lv_at hl 3 rfl) ?_
        refine g_iald F hK hP 41 (Wm_at41 G g q I0 J0 R0 L0) (in_of (by omega)) dX12_trade_37 rfl ?_
        refine lv_topi (fun x11 ex11 => ?_)
        have gx11 : x11.toInt = (R0 36 (Int32.toNatClampNeg p2)).toInt := congrArg Int32.toInt (ex11)
        refine lv_istore (lv' := [(4, .int x11), (3, .int x10), (0, .ref (g 45)), (1, .int p1), (2, .int p2)]) hx hb dX12_trade_38 hl (by decide) rfl (fun ls hl => ?_)
        refine lv_aload_n hx hb dX12_trade_40 rfl (lv_at hl 2 rfl) ?_
        refine wvi (As := []) (rest := []) (b := (g 45)) (d := 5) F hK hP hD hS hA (s_X12_worth l G g q I0 J0 R0 L0 hvI hvR   (wm_sm hWf (hsI 10 rfl) (hsR 22 rfl) (hsR 23 rfl) (hsR 24 rfl) (hsR 25 rfl) (hsR 26 rfl))) kmV_X12_worth mlX12_532 clX12 rfl 0 (Wm_at0 G g q I0 J0 R0 L0) ⟨(Nat.le_of_ble_eq_true rfl), (Nat.le_of_ble_eq_true rfl)⟩ hl.1 rfl (Nat.le_of_ble_eq_true rfl) dX12_trade_41 (fun r12 u13 H locs hwr12 hP hD hS => ?_)
        obtain ⟨I14, J15, R16, L17⟩ := u13
        replace hP : va_P G.1 vwCl (Wm G g q I14 J15 R16 L17) H := hP
        replace hD : va_D A (Wm G g q I14 J15 R16 L17) := hD
        obtain ⟨hvI, hvR, tIr12, tRr12⟩ := hwr12
        replace hvI : InvI Wm_lo Wm_hi I14 := hvI
        replace hvR : InvR Wm_rl R16 := hvR
        replace tIr12 : SmF ([] : List Nat) I0 I14 := tIr12
        replace tRr12 : SmF ([35] : List Nat) R0 R16 := tRr12
        have hv_I14 := hvI
        have hsI := smF_tr hsI tIr12 (by decide)
        have hsR := smF_tr hsR tRr12 (by decide)
        refine lv_istore (lv' := [(5, .int r12), (4, .int x11), (3, .int x10), (0, .ref (g 45)), (1, .int p1), (2, .int p2)]) hx hb dX12_trade_44 hl (by decide) rfl (fun ls hl => ?_)
        refine lv_aload_n hx hb dX12_trade_46 rfl (lv_at hl 3 rfl) ?_
        refine g_get F hK hP 0 (Wm_at0 G g q I14 J15 R16 L17) clX12 58 (by decide) flX12_189 rfl dX12_trade_47 ?_
        refine lv_iload_n hx hb dX12_trade_50 rfl (lv_at hl 4 rfl) ?_
        refine lv_iload hx hb dX12_trade_51 (lv_at hl 1 rfl) ?_
        refine p_row (W1 := fun y => Wm G g q I14 J15 y L17) (n := 36) F hK hP hD hS 41 (Wm_at41 G g q I14 J15 R16 L17) (in_of (by omega)) dX12_trade_53 (Wm_rowR36 G g q I14 J15 R16 L17) (fun R18 H locs eR18 hP hD hS => ?_)
        have hvR : InvR Wm_rl R18 := inv_upR hvR 36 eR18 (upd_in (hvR 36 (by decide)) (full _))
        have hsR := smF_up hsR eR18 (by decide)
        refine lv_aload_n hx hb dX12_trade_54 rfl (lv_at hl 3 rfl) ?_
        refine g_get F hK hP 0 (Wm_at0 G g q I14 J15 R18 L17) clX12 58 (by decide) flX12_189 rfl dX12_trade_55 ?_
        refine lv_iload_n hx hb dX12_trade_58 rfl (lv_at hl 5 rfl) ?_
        refine lv_iload_n hx hb dX12_trade_59 rfl (lv_at hl 2 rfl) ?_
        refine p_row (W1 := fun y => Wm G g q I14 J15 y L17) (n := 36) F hK hP hD hS 41 (Wm_at41 G g q I14 J15 R18 L17) (in_of (by omega)) dX12_trade_60 (Wm_rowR36 G g q I14 J15 R18 L17) (fun R19 H locs eR19 hP hD hS => ?_)
        have hvR : InvR Wm_rl R19 := inv_upR hvR 36 eR19 (upd_in (hvR 36 (by decide)) (full _))
        have hsR := smF_up hsR eR19 (by decide)
        refine lv_aload_n hx hb dX12_trade_61 rfl (lv_at hl 3 rfl) ?_
        refine lv_iload_n hx hb dX12_trade_62 rfl (lv_at hl 4 rfl) ?_
        refine lv_iload hx hb dX12_trade_63 (lv_at hl 1 rfl) ?_
        refine wvi (As := [.int p1, .int x11]) (rest := []) (b := (g 45)) (d := 2) F hK hP hD hS hA (s_X12_suits l G g q I14 J15 R19 L17 hvI hvR  p1 x11 (show ((0 : Int) ≤ p1.toInt ∧ p1.toInt ≤ (11 : Int)) from by omega)) kmV_X12_suits mlX12_472 clX12 rfl 0 (Wm_at0 G g q I14 J15 R19 L17) ⟨(Nat.le_of_ble_eq_true rfl), (Nat.le_of_ble_eq_true rfl)⟩ hl.1 rfl (Nat.le_of_ble_eq_true rfl) dX12_trade_65 (fun r20 u21 H locs hwr20 hP hD hS => ?_)
        have F0r20 := hwr20
        replace F0r20 : ((0 : Int) ≤ r20.toInt ∧ r20.toInt ≤ (1 : Int)) := F0r20
        refine lv_if_eq (tgt := 97) hx hb dX12_trade_68 (by decide) (fun c22 => ?_) (fun c22 => ?_)
        · have gc22 : r20.toInt = 0 := congrArg Int32.toInt c22
          exact lab_97 x10 x11 I14 J15 R19 L17 _ _ _ hvI hvR hsI hsR (show ((0 : Int) ≤ p1.toInt ∧ p1.toInt ≤ (11 : Int)) from by omega) (show ((0 : Int) ≤ p2.toInt ∧ p2.toInt ≤ (11 : Int)) from by omega) hP hD hS (lv_sub hl [3, 4, 5, 2, 1] rfl)
        · have gc22 : ¬ (r20.toInt = 0) := fun q0 => c22 (Int32.toInt_inj.mp q0)
          refine lv_aload_n hx hb dX12_trade_71 rfl (lv_at hl 3 rfl) ?_
          refine lv_iload_n hx hb dX12_trade_72 rfl (lv_at hl 5 rfl) ?_
          refine lv_iload_n hx hb dX12_trade_73 rfl (lv_at hl 2 rfl) ?_
          refine wvi (As := [.int p2, .int x10]) (rest := []) (b := (g 45)) (d := 2) F hK hP hD hS hA (s_X12_suits l G g q I14 J15 R19 L17 hvI hvR  p2 x10 (show ((0 : Int) ≤ p2.toInt ∧ p2.toInt ≤ (11 : Int)) from by omega)) kmV_X12_suits mlX12_472 clX12 rfl 0 (Wm_at0 G g q I14 J15 R19 L17) ⟨(Nat.le_of_ble_eq_true rfl), (Nat.le_of_ble_eq_true rfl)⟩ hl.1 rfl (Nat.le_of_ble_eq_true rfl) dX12_trade_74 (fun r23 u24 H locs hwr23 hP hD hS => ?_)
          have F0r23 := hwr23
          replace F0r23 : ((0 : Int) ≤ r23.toInt ∧ r23.toInt ≤ (1 : Int)) := F0r23
          refine lv_if_eq (tgt := 97) hx hb dX12_trade_77 (by decide) (fun c25 => ?_) (fun c25 => ?_)
          · have gc25 : r23.toInt = 0 := congrArg Int32.toInt c25
            exact lab_97 x10 x11 I14 J15 R19 L17 _ _ _ hvI hvR hsI hsR (show ((0 : Int) ≤ p1.toInt ∧ p1.toInt ≤ (11 : Int)) from by omega) (show ((0 : Int) ≤ p2.toInt ∧ p2.toInt ≤ (11 : Int)) from by omega) hP hD hS (lv_sub hl [3, 4, 5, 2, 1] rfl)
          · have gc25 : ¬ (r23.toInt = 0) := fun q0 => c25 (Int32.toInt_inj.mp q0)
            refine lv_aload_n hx hb dX12_trade_80 rfl (lv_at hl 3 rfl) ?_
            refine wvi (As := []) (rest := []) (b := (g 45)) (d := 5) F hK hP hD hS hA (s_X12_holds l G g q I14 J15 R19 L17 hvI hvR   ) kmV_X12_holds mlX12_507 clX12 rfl 0 (Wm_at0 G g q I14 J15 R19 L17) ⟨(Nat.le_of_ble_eq_true rfl), (Nat.le_of_ble_eq_true rfl)⟩ hl.1 rfl (Nat.le_of_ble_eq_true rfl) dX12_trade_81 (fun r26 u27 H locs hwr26 hP hD hS => ?_)
            obtain ⟨I28, J29, R30, L31⟩ := u27
            replace hP : va_P G.1 vwCl (Wm G g q I28 J29 R30 L31) H := hP
            replace hD : va_D A (Wm G g q I28 J29 R30 L31) := hD
            obtain ⟨hvI, hvR, tIr26, tRr26, F0r26⟩ := hwr26
            replace F0r26 : ((0 : Int) ≤ r26.toInt ∧ r26.toInt ≤ (1 : Int)) := F0r26
            replace hvI : InvI Wm_lo Wm_hi I28 := hvI
            replace hvR : InvR Wm_rl R30 := hvR
            replace tIr26 : SmF ([17, 18, 19] : List Nat) I14 I28 := tIr26
            replace tRr26 : SmF ([] : List Nat) R19 R30 := tRr26
            have hv_I28 := hvI
            have hsI := smF_tr hsI tIr26 (by decide)
            have hsR := smF_tr hsR tRr26 (by decide)
            refine lv_if_eq (tgt := 97) hx hb dX12_trade_84 (by decide) (fun c32 => ?_) (fun c32 => ?_)
            · have gc32 : r26.toInt = 0 := congrArg Int32.toInt c32
              exact lab_97 x10 x11 I28 J29 R30 L31 _ _ _ hvI hvR hsI hsR (show ((0 : Int) ≤ p1.toInt ∧ p1.toInt ≤ (11 : Int)) from by omega) (show ((0 : Int) ≤ p2.toInt ∧ p2.toInt ≤ (11 : Int)) from by omega) hP hD hS (lv_sub hl [3, 4, 5, 2, 1] rfl)
            · have gc32 : ¬ (r26.toInt = 0) := fun q0 => c32 (Int32.toInt_inj.mp q0)
              refine lv_aload_n hx hb dX12_trade_87 rfl (lv_at hl 3 rfl) ?_
              refine wvi (As := []) (rest := []) (b := (g 45)) (d := 5) F hK hP hD hS hA (s_X12_worth l G g q I28 J29 R30 L31 hvI hvR   (wm_sm hWf (hsI 10 rfl) (hsR 22 rfl) (hsR 23 rfl) (hsR 24 rfl) (hsR 25 rfl) (hsR 26 rfl))) kmV_X12_worth mlX12_532 clX12 rfl 0 (Wm_at0 G g q I28 J29 R30 L31) ⟨(Nat.le_of_ble_eq_true rfl), (Nat.le_of_ble_eq_true rfl)⟩ hl.1 rfl (Nat.le_of_ble_eq_true rfl) dX12_trade_88 (fun r33 u34 H locs hwr33 hP hD hS => ?_)
              obtain ⟨I35, J36, R37, L38⟩ := u34
              replace hP : va_P G.1 vwCl (Wm G g q I35 J36 R37 L38) H := hP
              replace hD : va_D A (Wm G g q I35 J36 R37 L38) := hD
              obtain ⟨hvI, hvR, tIr33, tRr33⟩ := hwr33
              replace hvI : InvI Wm_lo Wm_hi I35 := hvI
              replace hvR : InvR Wm_rl R37 := hvR
              replace tIr33 : SmF ([] : List Nat) I28 I35 := tIr33
              replace tRr33 : SmF ([35] : List Nat) R30 R37 := tRr33
              have hv_I35 := hvI
              have hsI := smF_tr hsI tIr33 (by decide)
              have hsR := smF_tr hsR tRr33 (by decide)
              refine lv_iload hx hb dX12_trade_91 (lv_at hl 0 rfl) ?_
              refine lv_isub hx hb dX12_trade_93 ?_
              refine lv_topi (fun x39 ex39 => ?_)
              refine lv_goto (tgt := 100) hx hb dX12_trade_94 (by decide) ?_
              exact lab_100 x10 x11 x39 I35 J36 R37 L38 _ _ _ hvI hvR hsI hsR (show ((0 : Int) ≤ p1.toInt ∧ p1.toInt ≤ (11 : Int)) from by omega) (show ((0 : Int) ≤ p2.toInt ∧ p2.toInt ≤ (11 : Int)) from by omega) hP hD hS (lv_sub hl [3, 4, 5, 2, 1] rfl)
      · have gc9 : p1.toInt = p2.toInt := congrArg Int32.toInt c9
        exact lab_21  I0 J0 R0 L0 _ _ _ hvI hvR hsI hsR  hP hD hS (lv_sub hl [] rfl)
